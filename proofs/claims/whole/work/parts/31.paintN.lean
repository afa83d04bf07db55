/-! ===== ranks: how many classes lie before a spot ===== -/
noncomputable def RK (n : Nat) (lt : Nat → Nat → Prop) (s : Nat) : Nat := ct (fun y => dc (thr n y ∧ lt y s ∧ ∀ z, z < y → thr n z → lt z y ∨ lt y z)) 18
noncomputable def CN (n : Nat) (lt : Nat → Nat → Prop) : Nat := ct (fun y => dc (thr n y ∧ ∀ z, z < y → thr n z → lt z y ∨ lt y z)) 18
/-- lt orders classes -/
def WO (lt : Nat → Nat → Prop) : Prop := (∀ a, ¬ lt a a) ∧ (∀ a b d, lt a b → lt b d → lt a d) ∧ ∀ a b d, ¬ lt a b → ¬ lt b d → ¬ lt a d
theorem WO_lx (k : Nat) (Q : Nat → Nat → Nat) : WO (fun a b => lx k (Q a) (Q b)) :=
  ⟨fun _ => lx_irr, fun _ _ _ => lx_tr, fun _ _ _ h1 h2 => lxe_no (lxe_tr (lxe_of h2) (lxe_of h1))⟩
theorem fst_rep {n : Nat} {lt : Nat → Nat → Prop} (hw : WO lt) : ∀ N s, s < N → thr n s → ∃ r, thr n r ∧ ¬ lt r s ∧ ¬ lt s r ∧ ∀ z, z < r → thr n z → lt z r ∨ lt r z := by
  intro N
  induction N with
  | zero => intro s h; exact absurd h (by omega)
  | succ N ih =>
    intro s hs ht
    cases hd : dc (∃ z, z < s ∧ thr n z ∧ ¬ lt z s ∧ ¬ lt s z) with
    | true =>
      obtain ⟨z, h1, h2, h3, h4⟩ := dc_t.mp hd
      obtain ⟨r, r1, r2, r3, r4⟩ := ih z (by omega) h2
      exact ⟨r, r1, hw.2.2 r z s r2 h3, hw.2.2 s z r h4 r3, r4⟩
    | false =>
      refine ⟨s, ht, hw.1 s, hw.1 s, fun z hz h2 => ?_⟩
      cases h3 : dc (lt z s) with
      | true => exact Or.inl (dc_t.mp h3)
      | false =>
        cases h4 : dc (lt s z) with
        | true => exact Or.inr (dc_t.mp h4)
        | false =>
          have : dc (∃ z, z < s ∧ thr n z ∧ ¬ lt z s ∧ ¬ lt s z) = true := dc_t.mpr ⟨z, hz, h2, fun q => by rw [dc_t.mpr q] at h3; exact absurd h3 (by decide), fun q => by rw [dc_t.mpr q] at h4; exact absurd h4 (by decide)⟩
          rw [hd] at this
          exact absurd this (by decide)
theorem dc_congr {P Q : Prop} (h : P ↔ Q) : dc P = dc Q := by
  cases hq : dc Q with
  | true => exact dc_t.mpr (h.mpr (dc_t.mp hq))
  | false => exact dc_f (fun p => by rw [dc_t.mpr (h.mp p)] at hq; exact absurd hq (by decide))
theorem srtR_all {lt : Nat → Nat → Prop} (hw : WO lt) {s : Nat → Nat} {m : Nat} (h : srtR lt s m) : ∀ k i, i ≤ k → k < m → ¬ lt (s k) (s i) := by
  intro k
  induction k with
  | zero => intro i hi _; rw [show i = 0 by omega]; exact hw.1 _
  | succ k ih =>
    intro i hi hk
    rcases Nat.lt_or_eq_of_le hi with q | q
    · exact hw.2.2 _ _ _ (h k hk) (ih i (by omega) (by omega))
    · subst q; exact hw.1 _
theorem RK_eq {n : Nat} {lt : Nat → Nat → Prop} (hw : WO lt) {a b : Nat} (h1 : ¬ lt a b) (h2 : ¬ lt b a) : RK n lt a = RK n lt b := by
  refine ct_congr 18 (fun y _ => dc_congr ⟨fun q => ⟨q.1, ?_, q.2.2⟩, fun q => ⟨q.1, ?_, q.2.2⟩⟩)
  · cases h : dc (lt y b) with
    | true => exact dc_t.mp h
    | false => exact absurd q.2.1 (hw.2.2 y b a (fun z => by rw [dc_t.mpr z] at h; exact absurd h (by decide)) h2)
  · cases h : dc (lt y a) with
    | true => exact dc_t.mp h
    | false => exact absurd q.2.1 (hw.2.2 y a b (fun z => by rw [dc_t.mpr z] at h; exact absurd h (by decide)) h1)
theorem RK_lt {n : Nat} {lt : Nat → Nat → Prop} (hw : WO lt) {s : Nat} (hs : thr n s) : RK n lt s < 18 := by
  obtain ⟨r, r1, r2, r3, r4⟩ := fst_rep hw (s + 1) s (by omega) hs
  exact ct_lt (i := r) r1.1 (dc_f (fun q => r2 q.2.1))
/-- r is the first of the class of s: then one more class lies before what is next -/
theorem RK_up {n : Nat} {lt : Nat → Nat → Prop} (hw : WO lt) {s r : Nat} (hr : thr n r) (r2 : ¬ lt r s) (r3 : ¬ lt s r) (r4 : ∀ z, z < r → thr n z → lt z r ∨ lt r z) {P : Nat → Prop} (hP : ∀ y, thr n y → (P y ↔ ¬ lt s y)) : ct (fun y => dc (thr n y ∧ P y ∧ ∀ z, z < y → thr n z → lt z y ∨ lt y z)) 18 = RK n lt s + 1 := by
  have h := ct_upd (p := fun y => dc (thr n y ∧ P y ∧ ∀ z, z < y → thr n z → lt z y ∨ lt y z)) (q := fun y => dc (thr n y ∧ lt y s ∧ ∀ z, z < y → thr n z → lt z y ∨ lt y z)) (k := r) (fun y hy => dc_congr ⟨fun q => ⟨q.1, ?_, q.2.2⟩, fun q => ⟨q.1, (hP y q.1).mpr (fun z => hw.1 _ (hw.2.1 _ _ _ q.2.1 z)), q.2.2⟩⟩) 18 hr.1
  · have e1 : dc (thr n r ∧ P r ∧ ∀ z, z < r → thr n z → lt z r ∨ lt r z) = true := dc_t.mpr ⟨hr, (hP r hr).mpr r3, r4⟩
    have e2 : dc (thr n r ∧ lt r s ∧ ∀ z, z < r → thr n z → lt z r ∨ lt r z) = false := dc_f (fun q => r2 q.2.1)
    rw [e1, e2] at h
    unfold RK
    simpa using h
  · cases hc : dc (lt y s) with
    | true => exact dc_t.mp hc
    | false =>
      exfalso
      have n1 : ¬ lt y s := fun z => by rw [dc_t.mpr z] at hc; exact absurd hc (by decide)
      have n2 := (hP y q.1).mp q.2.1
      have a1 : ¬ lt y r := hw.2.2 _ _ _ n1 r3
      have a2 : ¬ lt r y := hw.2.2 _ _ _ r2 n2
      rcases Nat.lt_trichotomy y r with z | z | z
      · exact (r4 y z q.1).elim a1 a2
      · exact hy z
      · exact (q.2.2 r z hr).elim a2 a1
theorem RK_s {n : Nat} {lt : Nat → Nat → Prop} (hw : WO lt) {s : Nat → Nat} {m : Nat} (hs : ∀ j, j < m → thr n (s j)) (hsu : ∀ y, thr n y → ∃ j, j < m ∧ s j = y) (h : srtR lt s m) : ∀ j, j < m → RK n lt (s j) = ct (fun t => dc (lt (s t) (s (t + 1)))) j := by
  intro j
  induction j with
  | zero =>
    intro hj
    refine ct_none 18 (fun y _ => dc_f (fun q => ?_))
    obtain ⟨k, hk, e⟩ := hsu y q.1
    subst e
    exact srtR_all hw h k 0 (by omega) hk q.2.1
  | succ j ih =>
    intro hj
    have e0 : ct (fun t => dc (lt (s t) (s (t + 1)))) (j + 1) = ct (fun t => dc (lt (s t) (s (t + 1)))) j + (if dc (lt (s j) (s (j + 1))) then 1 else 0) := rfl
    rw [e0, ← ih (by omega)]
    cases hc : dc (lt (s j) (s (j + 1))) with
    | false =>
      rw [if_neg (by decide), Nat.add_zero]
      exact (RK_eq hw (fun z => by rw [dc_t.mpr z] at hc; exact absurd hc (by decide)) (h j hj)).symm
    | true =>
      rw [if_pos rfl]
      have hlt := dc_t.mp hc
      obtain ⟨r, r1, r2, r3, r4⟩ := fst_rep hw (s j + 1) (s j) (by omega) (hs j (by omega))
      exact RK_up hw r1 r2 r3 r4 (fun y hy => ⟨fun q z => by
        obtain ⟨k, hk, e⟩ := hsu y hy
        subst e
        rcases Nat.lt_or_ge j k with q2 | q2
        · exact srtR_all hw h k (j + 1) (by omega) hk q
        · exact srtR_all hw h j k q2 (by omega) z, fun q => by
        cases h3 : dc (lt y (s (j + 1))) with
        | true => exact dc_t.mp h3
        | false => exact absurd hlt (hw.2.2 _ _ _ q (fun z => by rw [dc_t.mpr z] at h3; exact absurd h3 (by decide)))⟩)
theorem CN_s {n : Nat} {lt : Nat → Nat → Prop} (hw : WO lt) {s : Nat → Nat} {m : Nat} (hm : 1 ≤ m) (hs : ∀ j, j < m → thr n (s j)) (hsu : ∀ y, thr n y → ∃ j, j < m ∧ s j = y) (h : srtR lt s m) : CN n lt = ct (fun t => dc (lt (s t) (s (t + 1)))) (m - 1) + 1 := by
  rw [← RK_s hw hs hsu h (m - 1) (by omega)]
  obtain ⟨r, r1, r2, r3, r4⟩ := fst_rep hw (s (m - 1) + 1) (s (m - 1)) (by omega) (hs (m - 1) (by omega))
  rw [← RK_up hw r1 r2 r3 r4 (P := fun _ => True) (fun y hy => ⟨fun _ z => by
    obtain ⟨k, hk, e⟩ := hsu y hy
    subst e
    exact srtR_all hw h (m - 1) k (by omega) (by omega) z, fun _ => trivial⟩)]
  exact ct_congr 18 (fun y _ => dc_congr ⟨fun q => ⟨q.1, trivial, q.2⟩, fun q => ⟨q.1, q.2.2⟩⟩)
theorem CN_le (n : Nat) (lt : Nat → Nat → Prop) : CN n lt ≤ 18 := ct_le _ 18
/-- the ints that the painter changes -/
def CP (I : SI) (A B E F H : Nat → Nat → Int32) : SI := sK (sK (sK (sK (sK I 10 A) 11 B) 12 E) 13 F) 16 H
theorem cp10 (I : SI) (A B E F H A' : Nat → Nat → Int32) : sK (CP I A B E F H) 10 A' = CP I A' B E F H := by
  unfold CP
  rw [sK_swap _ (by decide : (16 : Nat) ≠ 10), sK_swap _ (by decide : (13 : Nat) ≠ 10), sK_swap _ (by decide : (12 : Nat) ≠ 10), sK_swap _ (by decide : (11 : Nat) ≠ 10), sK_sK]
theorem cp_10 (I : SI) (A B E F H : Nat → Nat → Int32) : CP I A B E F H 10 = A := (sK_ne (by decide)).trans ((sK_ne (by decide)).trans ((sK_ne (by decide)).trans ((sK_ne (by decide)).trans (sK_self _ _ _))))
theorem cp11 (I : SI) (A B E F H B' : Nat → Nat → Int32) : sK (CP I A B E F H) 11 B' = CP I A B' E F H := by
  unfold CP
  rw [sK_swap _ (by decide : (16 : Nat) ≠ 11), sK_swap _ (by decide : (13 : Nat) ≠ 11), sK_swap _ (by decide : (12 : Nat) ≠ 11), sK_sK]
theorem cp_11 (I : SI) (A B E F H : Nat → Nat → Int32) : CP I A B E F H 11 = B := (sK_ne (by decide)).trans ((sK_ne (by decide)).trans ((sK_ne (by decide)).trans (sK_self _ _ _)))
theorem cp12 (I : SI) (A B E F H E' : Nat → Nat → Int32) : sK (CP I A B E F H) 12 E' = CP I A B E' F H := by
  unfold CP
  rw [sK_swap _ (by decide : (16 : Nat) ≠ 12), sK_swap _ (by decide : (13 : Nat) ≠ 12), sK_sK]
theorem cp_12 (I : SI) (A B E F H : Nat → Nat → Int32) : CP I A B E F H 12 = E := (sK_ne (by decide)).trans ((sK_ne (by decide)).trans (sK_self _ _ _))
theorem cp13 (I : SI) (A B E F H F' : Nat → Nat → Int32) : sK (CP I A B E F H) 13 F' = CP I A B E F' H := by
  unfold CP
  rw [sK_swap _ (by decide : (16 : Nat) ≠ 13), sK_sK]
theorem cp_13 (I : SI) (A B E F H : Nat → Nat → Int32) : CP I A B E F H 13 = F := (sK_ne (by decide)).trans (sK_self _ _ _)
theorem cp16 (I : SI) (A B E F H H' : Nat → Nat → Int32) : sK (CP I A B E F H) 16 H' = CP I A B E F H' := by
  unfold CP
  rw [sK_sK]
theorem cp_16 (I : SI) (A B E F H : Nat → Nat → Int32) : CP I A B E F H 16 = H := sK_self _ _ _
theorem cp_o {I : SI} {A B E F H : Nat → Nat → Int32} {k : Nat} (h : k ≠ 10 ∧ k ≠ 11 ∧ k ≠ 12 ∧ k ≠ 13 ∧ k ≠ 16) : CP I A B E F H k = I k :=
  (sK_ne h.2.2.2.2).trans ((sK_ne h.2.2.2.1).trans ((sK_ne h.2.2.1).trans ((sK_ne h.2.1).trans (sK_ne h.1))))
theorem cp_id (I : SI) : CP I (I 10) (I 11) (I 12) (I 13) (I 16) = I := by
  unfold CP
  rw [sK_id, show sK I 11 (I 11) = I from sK_id I 11, show sK I 12 (I 12) = I from sK_id I 12, show sK I 13 (I 13) = I from sK_id I 13]
  exact sK_id I 16
theorem cp_cp (I : SI) (A B E F H A' B' E' F' H' : Nat → Nat → Int32) : CP (CP I A B E F H) A' B' E' F' H' = CP I A' B' E' F' H' := by
  show sK (sK (sK (sK (sK (CP I A B E F H) 10 A') 11 B') 12 E') 13 F') 16 H' = _
  rw [cp10, cp11, cp12, cp13, cp16]
theorem cp_13i (I : SI) (F' : Nat → Nat → Int32) : sK I 13 F' = CP I (I 10) (I 11) (I 12) F' (I 16) := by
  conv => lhs; rw [← cp_id I]
  rw [cp13]
/-- what renumber leaves: the number of classes, each spot's rank, the spots in some order -/
def rnPost (n m : Nat) (lt : Nat → Nat → Prop) (I : SI) (J : SJ) : Option Value → SI → SJ → Prop := fun v' I' J' =>
  ∃ (B E F : Nat → Nat → Int32) (s : Nat → Nat), v' = none ∧ I' = CP I (up2 (I 10) 0 0 (nI (CN n lt))) B E F (I 16) ∧ J' = J ∧ (∀ y, thr n y → B 0 y = nI (RK n lt y)) ∧ (∀ j, j < m → F 0 j = nI (s j) ∧ thr n (s j)) ∧ ∀ y, thr n y → ∃ j, j < m ∧ s j = y
set_option maxRecDepth 100000 in
set_option maxHeartbeats 4000000 in
theorem l_X3_renumber_11 {X : Pk} {Z : Zk} {I : SI} {J : SJ} (hA : AJ Z.2.2.1) (C : Cx X cX3_renumber 5 RX3 Z 2 80) (hr : (xE X).sig.returnType = none) {n kc : Nat} (hn9 : n ≤ 9) (hkc : kc ≤ 9) {c : Nat → Nat} {Kf : Nat → Nat → Nat} (hc : ∀ s, thr n s → I 11 0 s = nI (c s) ∧ c s < 18) (hK : ∀ s, thr n s → ∀ k, k < kc → I 16 s k = nI (Kf s k) ∧ Kf s k < 400) {m : Nat} (hm : m ≤ 18) (hm1 : 1 ≤ m) {F : Nat → Nat → Int32} {s : Nat → Nat} (hF : ∀ j, j < m → F 0 j = nI (s j) ∧ thr n (s j)) (hsu : ∀ y, thr n y → ∃ j, j < m ∧ s j = y) (hsrt : srtR (fun u w => lx (kc + 1) (Qs c Kf u) (Qs c Kf w)) s m) : ∀ k i (E : Nat → Nat → Int32), m - i < k → i ≤ m → (∀ j, j < i → E 0 (s j) = nI (RK n (fun u w => lx (kc + 1) (Qs c Kf u) (Qs c Kf w)) (s j))) → G X 5 Z (QG X Z (rnPost n m (fun u w => lx (kc + 1) (Qs c Kf u) (Qs c Kf w)) I J)) (CP I (I 10) (I 11) E F (I 16)) J 11 [(0, .ref (Z.2.2.1 10 0)), (1, .int (nI m)), (2, .int (nI kc)), (3, .int (nI (ct (fun t => dc (lx (kc + 1) (Qs c Kf (s t)) (Qs c Kf (s (t + 1))))) (i - 1)))), (4, .int (nI i))] [] := by
  have hrk : ∀ i, i < m → RK n (fun u w => lx (kc + 1) (Qs c Kf u) (Qs c Kf w)) (s i) = ct (fun t => dc (lx (kc + 1) (Qs c Kf (s t)) (Qs c Kf (s (t + 1))))) i := fun i hi => RK_s (WO_lx (kc + 1) (Qs c Kf)) (fun j hj => (hF j hj).2) hsu hsrt i hi
  have hcn : CN n (fun u w => lx (kc + 1) (Qs c Kf u) (Qs c Kf w)) = ct (fun t => dc (lx (kc + 1) (Qs c Kf (s t)) (Qs c Kf (s (t + 1))))) (m - 1) + 1 := CN_s (WO_lx (kc + 1) (Qs c Kf)) hm1 (fun j hj => (hF j hj).2) hsu hsrt
  intro k
  induction k with
  | zero => intro i E h; exact absurd h (by omega)
  | succ k ih =>
    intro i E hk him hE
    have z0 := ct_le (fun t => dc (lx (kc + 1) (Qs c Kf (s t)) (Qs c Kf (s (t + 1))))) (i - 1)
    have z1 : i < m → s i < 18 := fun h => (hF i h).2.1
    have z2 : i < m → s (i - 1) < 18 := fun h => (hF (i - 1) (by omega)).2.1
    refine g_ild C dX3_renumber_11 rfl ?_
    refine g_ildn C dX3_renumber_13 rfl ?_
    refine n_icmp_ge (tgt := 68) C dX3_renumber_14 rfl (by omega) (by omega) (fun c14 => ?_) (fun c14 => ?_)
    · refine g_aldn C dX3_renumber_68 rfl ?_
      refine g_ildn C dX3_renumber_69 rfl ?_
      refine g_iconst C ((nI 1)) dX3_renumber_70 (by decide) ?_
      refine g_iadd (v := (nI (ct (fun t => dc (lx (kc + 1) (Qs c Kf (s t)) (Qs c Kf (s (t + 1))))) (i - 1) + 1))) C dX3_renumber_71 (nI_add _ _) ?_
      refine g_put C 10 0 (by decide) (by decide) tyX3 tyX3_ok nmX3 u3 rfl 0 rfl fX3_39 rfl (fun _ _ => rfl) (by simp [va_up]) rfl rfl rfl dX3_renumber_72 ?_
      refine g_I (I1 := CP I (up2 (I 10) 0 0 (nI (CN n (fun u w => lx (kc + 1) (Qs c Kf u) (Qs c Kf w))))) (I 11) E F (I 16)) (by rw [cp_10, cp10, hcn, show m - 1 = i - 1 by omega]) ?_
      refine g_aldn C dX3_renumber_75 rfl ?_
      refine g_get C 10 0 (by decide) (by decide) u3 rfl 2 rfl fX3_15 rfl rfl dX3_renumber_76 ?_
      refine g_iconst C ((nI 0)) dX3_renumber_79 (by decide) ?_
      refine g_aldn C dX3_renumber_80 rfl ?_
      refine g_get C 10 0 (by decide) (by decide) u3 rfl 1 rfl fX3_11 rfl rfl dX3_renumber_81 ?_
      refine g_iconst C ((nI 0)) dX3_renumber_84 (by decide) ?_
      refine g_bipush C ((nI 18)) dX3_renumber_85 (by decide) ?_
      refine g_copyi C mX3_52 12 0 11 0 (by decide) (by decide) (by decide) (by decide) (fun _ _ => rfl) (fun _ _ => rfl) 0 0 18 (by decide) (by decide) rfl rfl rfl rfl dX3_renumber_87 ?_
      refine g_I (I1 := CP I (up2 (I 10) 0 0 (nI (CN n (fun u w => lx (kc + 1) (Qs c Kf u) (Qs c Kf w))))) (va_up (I 11) 0 (va_cpy (E 0) (I 11 0) 0 0 18)) E F (I 16)) (by rw [cp_11, cp_12, cp11]) ?_
      exact g_return C hr dX3_renumber_90 ⟨_, E, F, s, rfl, rfl, rfl, fun y hy => by rw [va_up_self, pk_cpy_in (by omega) (by have := hy.1; omega)]; obtain ⟨j, hj, e⟩ := hsu y hy; rw [show 0 + (y - 0) = y by omega, ← e]; exact hE j (by omega), hF, hsu⟩
    · refine g_ild C dX3_renumber_17 rfl ?_
      refine n_if_le (tgt := 49) C dX3_renumber_19 rfl (by omega) (fun c19 => ?_) (fun c19 => ?_)
      · refine g_lv (lv1 := [(0, .ref (Z.2.2.1 10 0)), (1, .int (nI m)), (2, .int (nI kc)), (3, .int (nI (ct (fun t => dc (lx (kc + 1) (Qs c Kf (s t)) (Qs c Kf (s (t + 1))))) i))), (4, .int (nI i))]) [0, 1, 2, 3, 4] (by first | (rw [show i = 0 by omega]; rfl) | (rw [show ct (fun t => dc (lx (kc + 1) (Qs c Kf (s t)) (Qs c Kf (s (t + 1))))) i = ct (fun t => dc (lx (kc + 1) (Qs c Kf (s t)) (Qs c Kf (s (t + 1))))) (i - 1) by obtain ⟨p, hp⟩ : ∃ p, i = p + 1 := ⟨i - 1, by omega⟩; subst hp; exact ct_f (dc_f (fun q => lx_irr (lx_r q (fun a ha => (sgn_0 hdd c43 a ha).symm))))]; rfl)) ?_
        refine g_aldn C dX3_renumber_49 rfl ?_
        refine g_get C 10 0 (by decide) (by decide) u3 rfl 2 rfl fX3_15 rfl rfl dX3_renumber_50 ?_
        refine g_aldn C dX3_renumber_53 rfl ?_
        refine g_get C 10 0 (by decide) (by decide) u3 rfl 3 rfl fX3_18 rfl rfl dX3_renumber_54 ?_
        refine g_ild C dX3_renumber_57 rfl ?_
        refine g_iald C 13 0 (by decide) (by decide) (fun _ _ => rfl) i (show i < 18 by omega) rfl dX3_renumber_59 (v := (nI (s i))) (by rw [cp_13]; exact (hF i (by omega)).1) ?_
        refine g_ildn C dX3_renumber_60 rfl ?_
        refine g_iast C 12 0 (by decide) (by decide) (fun _ _ => rfl) (s i) (show s i < 18 by omega) rfl dX3_renumber_61 ?_
        refine g_I (I1 := CP I (I 10) (I 11) (up2 E 0 (s i) (nI (ct (fun t => dc (lx (kc + 1) (Qs c Kf (s t)) (Qs c Kf (s (t + 1))))) i))) F (I 16)) (by rw [cp_12, cp12]) ?_
        refine g_iinc (lv' := [(4, .int (nI (i + 1))), (0, .ref (Z.2.2.1 10 0)), (1, .int (nI m)), (2, .int (nI kc)), (3, .int (nI (ct (fun t => dc (lx (kc + 1) (Qs c Kf (s t)) (Qs c Kf (s (t + 1))))) i)))]) C ((nI (i + 1))) dX3_renumber_62 rfl (inc1 _) rfl rfl ?_
        refine g_goto (tgt := 11) C dX3_renumber_65 rfl ?_
        refine g_lv (lv1 := [(0, .ref (Z.2.2.1 10 0)), (1, .int (nI m)), (2, .int (nI kc)), (3, .int (nI (ct (fun t => dc (lx (kc + 1) (Qs c Kf (s t)) (Qs c Kf (s (t + 1))))) (i + 1 - 1)))), (4, .int (nI (i + 1)))]) [1, 2, 3, 4, 0] (by rw [show i + 1 - 1 = i by omega]; rfl) ?_
        refine ih (i + 1) _ (by omega) (by omega) (fun j hj => ?_)
        rw [up2_at]
        by_cases e : s j = s i
        · rw [if_pos ⟨rfl, e⟩, e, hrk i (by omega)]
        · rw [if_neg (fun q => e q.2)]; exact hE j (by have : j ≠ i := fun q => e (by rw [q]); omega)
      · refine g_aldn C dX3_renumber_22 rfl ?_
        refine g_aldn C dX3_renumber_23 rfl ?_
        refine g_get C 10 0 (by decide) (by decide) u3 rfl 3 rfl fX3_18 rfl rfl dX3_renumber_24 ?_
        refine g_ild C dX3_renumber_27 rfl ?_
        refine g_iconst C ((nI 1)) dX3_renumber_29 (by decide) ?_
        refine g_isub (v := (nI (i - 1))) C dX3_renumber_30 (pk_sub (by omega)) ?_
        refine g_iald C 13 0 (by decide) (by decide) (fun _ _ => rfl) (i - 1) (show i - 1 < 18 by omega) rfl dX3_renumber_31 (v := (nI (s (i - 1)))) (by rw [cp_13]; exact (hF (i - 1) (by omega)).1) ?_
        refine g_aldn C dX3_renumber_32 rfl ?_
        refine g_get C 10 0 (by decide) (by decide) u3 rfl 3 rfl fX3_18 rfl rfl dX3_renumber_33 ?_
        refine g_ild C dX3_renumber_36 rfl ?_
        refine g_iald C 13 0 (by decide) (by decide) (fun _ _ => rfl) i (show i < 18 by omega) rfl dX3_renumber_38 (v := (nI (s i))) (by rw [cp_13]; exact (hF i (by omega)).1) ?_
        refine g_ildn C dX3_renumber_39 rfl ?_
        refine g_callV (As := [.int (nI (s (i - 1))), .int (nI (s i)), .int (nI kc)]) (st := []) C (c_X3_difference hA hn9 hkc (c := c) (Kf := Kf) (fun u hu => by rw [cp_11]; exact hc u hu) (fun u hu => by rw [cp_16]; exact hK u hu) (hF (i - 1) (by omega)).2 (hF i (by omega)).2) wX3_difference iX3_difference sX3_difference mX3_78 10 0 (by decide) (by decide) rfl rfl rfl rfl rfl rfl rfl rfl dX3_renumber_40 ?_
        rintro v9 I9 J9 ⟨⟨dd, h91, hdd⟩, h92, h93⟩
        rw [h91, h92, h93]
        clear h91 h92 h93 v9 I9 J9
        show G X _ Z _ (CP I (I 10) (I 11) E F (I 16)) J 43 [(0, .ref (Z.2.2.1 10 0)), (1, .int (nI m)), (2, .int (nI kc)), (3, .int (nI (ct (fun t => dc (lx (kc + 1) (Qs c Kf (s t)) (Qs c Kf (s (t + 1))))) (i - 1)))), (4, .int (nI i))] [.int dd]
        refine g_if_eq (tgt := 49) C dX3_renumber_43 rfl (fun c43 => ?_) (fun c43 => ?_)
        · refine g_lv (lv1 := [(0, .ref (Z.2.2.1 10 0)), (1, .int (nI m)), (2, .int (nI kc)), (3, .int (nI (ct (fun t => dc (lx (kc + 1) (Qs c Kf (s t)) (Qs c Kf (s (t + 1))))) i))), (4, .int (nI i))]) [0, 1, 2, 3, 4] (by first | (rw [show i = 0 by omega]; rfl) | (rw [show ct (fun t => dc (lx (kc + 1) (Qs c Kf (s t)) (Qs c Kf (s (t + 1))))) i = ct (fun t => dc (lx (kc + 1) (Qs c Kf (s t)) (Qs c Kf (s (t + 1))))) (i - 1) by obtain ⟨p, hp⟩ : ∃ p, i = p + 1 := ⟨i - 1, by omega⟩; subst hp; exact ct_f (dc_f (fun q => lx_irr (lx_r q (fun a ha => (sgn_0 hdd c43 a ha).symm))))]; rfl)) ?_
          refine g_aldn C dX3_renumber_49 rfl ?_
          refine g_get C 10 0 (by decide) (by decide) u3 rfl 2 rfl fX3_15 rfl rfl dX3_renumber_50 ?_
          refine g_aldn C dX3_renumber_53 rfl ?_
          refine g_get C 10 0 (by decide) (by decide) u3 rfl 3 rfl fX3_18 rfl rfl dX3_renumber_54 ?_
          refine g_ild C dX3_renumber_57 rfl ?_
          refine g_iald C 13 0 (by decide) (by decide) (fun _ _ => rfl) i (show i < 18 by omega) rfl dX3_renumber_59 (v := (nI (s i))) (by rw [cp_13]; exact (hF i (by omega)).1) ?_
          refine g_ildn C dX3_renumber_60 rfl ?_
          refine g_iast C 12 0 (by decide) (by decide) (fun _ _ => rfl) (s i) (show s i < 18 by omega) rfl dX3_renumber_61 ?_
          refine g_I (I1 := CP I (I 10) (I 11) (up2 E 0 (s i) (nI (ct (fun t => dc (lx (kc + 1) (Qs c Kf (s t)) (Qs c Kf (s (t + 1))))) i))) F (I 16)) (by rw [cp_12, cp12]) ?_
          refine g_iinc (lv' := [(4, .int (nI (i + 1))), (0, .ref (Z.2.2.1 10 0)), (1, .int (nI m)), (2, .int (nI kc)), (3, .int (nI (ct (fun t => dc (lx (kc + 1) (Qs c Kf (s t)) (Qs c Kf (s (t + 1))))) i)))]) C ((nI (i + 1))) dX3_renumber_62 rfl (inc1 _) rfl rfl ?_
          refine g_goto (tgt := 11) C dX3_renumber_65 rfl ?_
          refine g_lv (lv1 := [(0, .ref (Z.2.2.1 10 0)), (1, .int (nI m)), (2, .int (nI kc)), (3, .int (nI (ct (fun t => dc (lx (kc + 1) (Qs c Kf (s t)) (Qs c Kf (s (t + 1))))) (i + 1 - 1)))), (4, .int (nI (i + 1)))]) [1, 2, 3, 4, 0] (by rw [show i + 1 - 1 = i by omega]; rfl) ?_
          refine ih (i + 1) _ (by omega) (by omega) (fun j hj => ?_)
          rw [up2_at]
          by_cases e : s j = s i
          · rw [if_pos ⟨rfl, e⟩, e, hrk i (by omega)]
          · rw [if_neg (fun q => e q.2)]; exact hE j (by have : j ≠ i := fun q => e (by rw [q]); omega)
        · refine g_iinc (lv' := [(3, .int (nI (ct (fun t => dc (lx (kc + 1) (Qs c Kf (s t)) (Qs c Kf (s (t + 1))))) (i - 1) + 1))), (0, .ref (Z.2.2.1 10 0)), (1, .int (nI m)), (2, .int (nI kc)), (4, .int (nI i))]) C ((nI (ct (fun t => dc (lx (kc + 1) (Qs c Kf (s t)) (Qs c Kf (s (t + 1))))) (i - 1) + 1))) dX3_renumber_46 rfl (inc1 _) rfl rfl ?_
          refine g_lv (lv1 := [(0, .ref (Z.2.2.1 10 0)), (1, .int (nI m)), (2, .int (nI kc)), (3, .int (nI (ct (fun t => dc (lx (kc + 1) (Qs c Kf (s t)) (Qs c Kf (s (t + 1))))) i))), (4, .int (nI i))]) [1, 2, 3, 0, 4] (by rw [show ct (fun t => dc (lx (kc + 1) (Qs c Kf (s t)) (Qs c Kf (s (t + 1))))) i = ct (fun t => dc (lx (kc + 1) (Qs c Kf (s t)) (Qs c Kf (s (t + 1))))) (i - 1) + 1 by obtain ⟨p, hp⟩ : ∃ p, i = p + 1 := ⟨i - 1, by omega⟩; subst hp; exact ct_t (dc_t.mpr ((sgn_n hdd c43).resolve_right (hsrt p (by omega))))]; rfl) ?_
          refine g_aldn C dX3_renumber_49 rfl ?_
          refine g_get C 10 0 (by decide) (by decide) u3 rfl 2 rfl fX3_15 rfl rfl dX3_renumber_50 ?_
          refine g_aldn C dX3_renumber_53 rfl ?_
          refine g_get C 10 0 (by decide) (by decide) u3 rfl 3 rfl fX3_18 rfl rfl dX3_renumber_54 ?_
          refine g_ild C dX3_renumber_57 rfl ?_
          refine g_iald C 13 0 (by decide) (by decide) (fun _ _ => rfl) i (show i < 18 by omega) rfl dX3_renumber_59 (v := (nI (s i))) (by rw [cp_13]; exact (hF i (by omega)).1) ?_
          refine g_ildn C dX3_renumber_60 rfl ?_
          refine g_iast C 12 0 (by decide) (by decide) (fun _ _ => rfl) (s i) (show s i < 18 by omega) rfl dX3_renumber_61 ?_
          refine g_I (I1 := CP I (I 10) (I 11) (up2 E 0 (s i) (nI (ct (fun t => dc (lx (kc + 1) (Qs c Kf (s t)) (Qs c Kf (s (t + 1))))) i))) F (I 16)) (by rw [cp_12, cp12]) ?_
          refine g_iinc (lv' := [(4, .int (nI (i + 1))), (0, .ref (Z.2.2.1 10 0)), (1, .int (nI m)), (2, .int (nI kc)), (3, .int (nI (ct (fun t => dc (lx (kc + 1) (Qs c Kf (s t)) (Qs c Kf (s (t + 1))))) i)))]) C ((nI (i + 1))) dX3_renumber_62 rfl (inc1 _) rfl rfl ?_
          refine g_goto (tgt := 11) C dX3_renumber_65 rfl ?_
          refine g_lv (lv1 := [(0, .ref (Z.2.2.1 10 0)), (1, .int (nI m)), (2, .int (nI kc)), (3, .int (nI (ct (fun t => dc (lx (kc + 1) (Qs c Kf (s t)) (Qs c Kf (s (t + 1))))) (i + 1 - 1)))), (4, .int (nI (i + 1)))]) [1, 2, 3, 4, 0] (by rw [show i + 1 - 1 = i by omega]; rfl) ?_
          refine ih (i + 1) _ (by omega) (by omega) (fun j hj => ?_)
          rw [up2_at]
          by_cases e : s j = s i
          · rw [if_pos ⟨rfl, e⟩, e, hrk i (by omega)]
          · rw [if_neg (fun q => e q.2)]; exact hE j (by have : j ≠ i := fun q => e (by rw [q]); omega)

set_option maxRecDepth 100000 in
set_option maxHeartbeats 4000000 in
/-- renumber -/
theorem c_X3_renumber {l : Launch} {Y : Yk} (hA : AJ Y.2.2) {I : SI} {J : SJ} {n kc : Nat} (hn9 : n ≤ 9) (hkc : kc ≤ 9) {c : Nat → Nat} {Kf : Nat → Nat → Nat} (hc : ∀ s, thr n s → I 11 0 s = nI (c s) ∧ c s < 18) (hK : ∀ s, thr n s → ∀ k, k < kc → I 16 s k = nI (Kf s k) ∧ Kf s k < 400) {m : Nat} (hm : m ≤ 18) (hm1 : 1 ≤ m) {so : Nat → Nat} (hso : ∀ j, j < m → I 13 0 j = nI (so j) ∧ thr n (so j)) (hsu : ∀ y, thr n y → ∃ j, j < m ∧ so j = y)  : MX l Y yX3_renumber cX3_renumber 5 (none) 2 80 [.ref (Y.2.2 10 0), .int (nI m), .int (nI kc)] I J (rnPost n m (fun u w => lx (kc + 1) (Qs c Kf u) (Qs c Kf w)) I J) := by
  refine MX.of hA (by decide) (own := RX3) rfl rfl rfl ?_
  intro X Z hl hY1 hY2 hY3 C hr
  obtain ⟨D0, ca0, ad0⟩ := Y
  dsimp only at hA hY1 hY2 hY3
  subst hY1; subst hY2; subst hY3; subst hl
  show G X 5 Z (QG X Z _) I J 0 [(0, .ref (Z.2.2.1 10 0)), (1, .int (nI m)), (2, .int (nI kc))] []
  refine g_aldn C dX3_renumber_0 rfl ?_
  refine g_ildn C dX3_renumber_1 rfl ?_
  refine g_ildn C dX3_renumber_2 rfl ?_
  refine g_callV (As := [.int (nI m), .int (nI kc)]) (st := []) C (c_X3_sortSpots hA hn9 hkc hc hK hm hso hm1) wX3_sortSpots iX3_sortSpots sX3_sortSpots mX3_75 10 0 (by decide) (by decide) rfl rfl rfl rfl rfl rfl rfl rfl dX3_renumber_3 ?_
  rintro v9 I9 J9 ⟨F, s, h91, h92, h93, hF, hsrt, hct⟩
  rw [h91, h92, h93, cp_13i]
  clear h91 h92 h93 v9 I9 J9
  show G X _ Z _ (CP I (I 10) (I 11) (I 12) F (I 16)) J 6 [(0, .ref (Z.2.2.1 10 0)), (1, .int (nI m)), (2, .int (nI kc))] []
  refine g_iconst C ((nI 0)) dX3_renumber_6 (by decide) ?_
  refine g_istn (lv' := [(3, .int (nI 0)), (0, .ref (Z.2.2.1 10 0)), (1, .int (nI m)), (2, .int (nI kc))]) C dX3_renumber_7 rfl rfl ?_
  refine g_iconst C ((nI 0)) dX3_renumber_8 (by decide) ?_
  refine g_ist (lv' := [(4, .int (nI 0)), (3, .int (nI 0)), (0, .ref (Z.2.2.1 10 0)), (1, .int (nI m)), (2, .int (nI kc))]) C dX3_renumber_9 rfl rfl ?_
  refine g_lv (lv1 := [(0, .ref (Z.2.2.1 10 0)), (1, .int (nI m)), (2, .int (nI kc)), (3, .int (nI (ct (fun t => dc (lx (kc + 1) (Qs c Kf (s t)) (Qs c Kf (s (t + 1))))) (0 - 1)))), (4, .int (nI 0))]) [2, 3, 4, 1, 0] rfl ?_
  refine l_X3_renumber_11 hA C hr hn9 hkc hc hK hm hm1 hF (fun y hy => ?_) hsrt (m + 1) 0 (I 12) (by omega) (by omega) (fun j hj => absurd hj (by omega))
  obtain ⟨j, hj, e⟩ := hsu y hy
  have h2 := hct (fun a => decide (a = y))
  obtain ⟨j2, a1, a2⟩ := ct_pos (show 0 < ct (fun j => decide (s j = y)) m by rw [h2]; exact ct_in hj (decide_eq_true e))
  exact ⟨j2, a1, of_decide_eq_true a2⟩

