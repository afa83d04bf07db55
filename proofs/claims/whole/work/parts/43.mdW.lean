/-! ===== the reference: order, paint, colours, colour ===== -/
theorem ct_lep {p q : Nat → Bool} (h : ∀ i, q i = true → p i = true) : ∀ N, ct q N ≤ ct p N
  | 0 => Nat.le_refl 0
  | N + 1 => by
    have := ct_lep h N
    rw [ct_s, ct_s]
    cases hq : q N with
    | false => simp; split <;> omega
    | true => rw [h N hq]; omega
theorem ct_ltp {p q : Nat → Bool} (h : ∀ i, q i = true → p i = true) {r : Nat} (h1 : p r = true) (h2 : q r = false) : ∀ N, r < N → ct q N < ct p N
  | 0, hr => absurd hr (Nat.not_lt_zero r)
  | N + 1, hr => by
    by_cases e : r = N
    · subst e
      have := ct_lep h r
      rw [ct_f h2, ct_t h1]
      omega
    · have := ct_ltp h h1 h2 N (by omega)
      rw [ct_s, ct_s]
      cases hq : q N with
      | false => simp; split <;> omega
      | true => rw [h N hq]; omega
theorem RK_CN {n : Nat} {lt : Nat → Nat → Prop} (hw : WO lt) {s : Nat} (hs : thr n s) : RK n lt s < CN n lt := by
  obtain ⟨r, r1, r2, r3, r4⟩ := fst_rep hw (s + 1) s (by omega) hs
  exact ct_ltp (fun y hy => dc_t.mpr ⟨(dc_t.mp hy).1, (dc_t.mp hy).2.2⟩) (dc_t.mpr ⟨r1, r4⟩) (dc_f (fun q => r2 q.2.1)) 18 r1.1
theorem cs_ms {n : Nat} {T : Nat → Nat → Nat} {L : Nat → Nat → Nat → Nat} (k : Nat) {s : Nat} (hs : thr n s) : cs n T L k s < ms n T L k := by
  cases k with
  | zero => exact RK_CN (WO_tlt T) hs
  | succ k => exact RK_CN (WO_slt n L _) hs
theorem ms_pos {n : Nat} (hn : 1 ≤ n) (T : Nat → Nat → Nat) (L : Nat → Nat → Nat → Nat) (k : Nat) : 0 < ms n T L k := Nat.lt_of_le_of_lt (Nat.zero_le _) (cs_ms (s := 0) k ⟨by decide, by omega⟩)
theorem ms_mono {n : Nat} (T : Nat → Nat → Nat) (L : Nat → Nat → Nat → Nat) (k : Nat) : ms n T L k ≤ ms n T L (k + 1) := by
  cases k with
  | zero => exact ct_lep (fun y hy => by
      obtain ⟨h1, h2⟩ := dc_t.mp hy
      exact dc_t.mpr ⟨h1, fun z hz ht => (h2 z hz ht).imp (fun q => Or.inl (RK_mono (WO_tlt T) ht q)) (fun q => Or.inl (RK_mono (WO_tlt T) h1 q))⟩) 18
  | succ k => exact ct_lep (fun y hy => by
      obtain ⟨h1, h2⟩ := dc_t.mp hy
      exact dc_t.mpr ⟨h1, fun z hz ht => (h2 z hz ht).imp (fun q => Or.inl (RK_mono (WO_slt n L _) ht q)) (fun q => Or.inl (RK_mono (WO_slt n L _) h1 q))⟩) 18
/-- the class and the reference end with the same round -/
theorem rnd_rn2 {n : Nat} {T : Nat → Nat → Nat} {L : Nat → Nat → Nat → Nat} {k k' : Nat} (h1 : rnd n T L k) (h2 : rn2 n T L k') : k = k' := by
  obtain ⟨a1, a2, a3, a4⟩ := h1
  obtain ⟨b1, b2, b3⟩ := h2
  rcases Nat.lt_trichotomy k k' with q | q | q
  · exfalso
    have := b2 k a1 q
    rcases a4 with e | e
    · have up : ∀ j, j < k' → j + 1 ≤ ms n T L j + (if j = 0 then 1 else 0) ∧ j ≤ ms n T L j := fun j => by
        induction j with
        | zero => intro _; exact ⟨by simp, by omega⟩
        | succ j ih =>
          intro hj
          have h := b2 (j + 1) (by omega) hj
          have := (ih (by omega)).2
          rw [show j + 1 - 1 = j by omega] at h
          exact ⟨by rw [if_neg (by omega)]; have h3 : j + 1 ≤ ms n T L (j + 1) := by omega
                    by_cases e0 : j = 0
                    · subst e0
                      have p0 : 0 < ms n T L 0 := by
                        rcases Nat.eq_zero_or_pos (ms n T L 0) with z | z
                        · exfalso
                          have z2 : ct (fun y => dc (thr n y ∧ ∀ z, z < y → thr n z → tlt T z y ∨ tlt T y z)) 18 = 0 := z
                          have z3 : ∀ y, ¬ thr n y := fun y hy => absurd (RK_CN (WO_tlt T) hy) (by show ¬ _ < CN n (tlt T); unfold CN; omega)
                          have z4 : ms n T L 1 = 0 := ct_none 18 (fun y _ => dc_f (fun w => z3 y w.1))
                          have h4 : ms n T L 0 < ms n T L 1 := h
                          omega
                        · exact z
                      have h4 : ms n T L 0 < ms n T L 1 := h
                      show 0 + 1 + 1 ≤ ms n T L 1 + 0
                      omega
                    · have := (ih (by omega)).1
                      rw [if_neg e0] at this
                      omega, by omega⟩
      have u1 := (up k q).1
      have u2 := ms_le n T L k
      rw [if_neg (by omega)] at u1
      omega
    · omega
  · exact q
  · exfalso
    have h1 := a3 k' b1 q
    have := ms_mono (n := n) T L (k' - 1)
    rw [show k' - 1 + 1 = k' by omega] at this
    omega
/-! ===== tints as colours ===== -/
noncomputable def ntp (n : Nat) (T : Nat → Nat → Nat) (t : Nat) : Bool := dc (∃ x, thr n x ∧ T (x / 9) (x % 9) = t)
theorem nt_l (n : Nat) (T : Nat → Nat → Nat) : ∀ t, ct (fun y => dc (thr n y ∧ T (y / 9) (y % 9) < t ∧ ∀ z, z < y → thr n z → tlt T z y ∨ tlt T y z)) 18 = ct (ntp n T) t
  | 0 => ct_none 18 (fun y _ => dc_f (fun q => absurd q.2.1 (Nat.not_lt_zero _)))
  | t + 1 => by
    have ih := nt_l n T t
    cases hd : ntp n T t with
    | true =>
      obtain ⟨s, hs, e⟩ := dc_t.mp hd
      obtain ⟨r, r1, r2, r3, r4⟩ := fst_rep (WO_tlt T) (s + 1) s (by omega) hs
      have h1 := RK_up (WO_tlt T) r1 r2 r3 r4 (P := fun y => T (y / 9) (y % 9) < t + 1) (fun y _ => by unfold tlt; omega)
      have h2 : RK n (tlt T) s = ct (ntp n T) t := by
        rw [← ih]
        exact ct_congr 18 (fun y _ => dc_congr (by unfold tlt; rw [e]))
      rw [h1, h2, ct_t hd]
    | false =>
      rw [ct_f hd, ← ih]
      refine ct_congr 18 (fun y _ => dc_congr ⟨fun q => ⟨q.1, ?_, q.2.2⟩, fun q => ⟨q.1, by omega, q.2.2⟩⟩)
      have : T (y / 9) (y % 9) ≠ t := fun w => by
        have : ntp n T t = true := dc_t.mpr ⟨y, q.1, w⟩
        rw [hd] at this
        exact absurd this (by decide)
      omega
theorem nt_rk {n : Nat} (T : Nat → Nat → Nat) (x : Nat) : RK n (tlt T) x = ct (ntp n T) (T (x / 9) (x % 9)) := (nt_l n T _)
theorem nt_cn {n : Nat} {T : Nat → Nat → Nat} (h : ∀ x, thr n x → T (x / 9) (x % 9) < 4) : CN n (tlt T) = ct (ntp n T) 4 := by
  rw [← nt_l]
  exact ct_congr 18 (fun y _ => dc_congr ⟨fun q => ⟨q.1, h y q.1, q.2⟩, fun q => ⟨q.1, q.2.2⟩⟩)
theorem MV.ts {I : SI} {n : Nat} {T : Nat → Nat → Nat} {L : Nat → Nat → Nat → Nat} (h : MV I n T L) {x : Nat} (hx : thr n x) : I 29 0 x = nI (T (x / 9) (x % 9)) ∧ T (x / 9) (x % 9) < 4 := by
  have h18 := hx.1
  have := h.2.2.1 (x / 9) (x % 9) (by omega) hx.2
  rw [show 9 * (x / 9) + x % 9 = x by omega] at this
  exact this
/-! ===== order ===== -/
theorem mny_kn {I : SI} {n : Nat} {T : Nat → Nat → Nat} {L : Nat → Nat → Nat → Nat} (hv : MV I n T L) {c : Nat → Nat} (hc : MC I n c) {s p x : Nat} (hs : thr n s) (hx : x < 18) : ct (mnp L c (s / 9) (s % 9) p x) n = kn n L c s (p * 18 + x) := by
  have hn9 := hv.1.2
  have h18 := hs.1
  have h9 := hs.2
  refine ct_congr n (fun w hw => ?_)
  unfold mnp ky1
  by_cases e : w = s % 9
  · rw [sel_v e, decide_eq_false (fun q => q.1 e)]; rfl
  · rw [sel_t e (Nat.zero_testBit w), Bool.true_and]
    have h1 := hv.l4 (g := s / 9) (by omega) h9 hw
    have h2 := hv.l4 (g := s / 9) (by omega) hw h9
    have h3 := (hc (9 * (s / 9) + w) ⟨by omega, by omega⟩).2
    unfold pr
    exact decide_eq_decide.mpr (by omega)
theorem kn_z {I : SI} {n : Nat} {T : Nat → Nat → Nat} {L : Nat → Nat → Nat → Nat} (hv : MV I n T L) {c : Nat → Nat} {m : Nat} (hcm : ∀ s, thr n s → c s < m) (hm : m ≤ 18) {s y : Nat} (hs : thr n s) (h : m ≤ y % 18 ∨ 288 ≤ y) : kn n L c s y = 0 := by
  have hn9 := hv.1.2
  have h18 := hs.1
  have h9 := hs.2
  refine ct_none n (fun w hw => ?_)
  have h1 := hv.l4 (g := s / 9) (by omega) h9 hw
  have h2 := hv.l4 (g := s / 9) (by omega) hw h9
  have h3 := hcm (9 * (s / 9) + w) ⟨by omega, by omega⟩
  have : decide (ky1 L c s w = y) = false := decide_eq_false (fun q => by unfold ky1 pr at q; omega)
  rw [this, Bool.and_false]
def osg (n : Nat) (L : Nat → Nat → Nat → Nat) (c : Nat → Nat) (a b : Nat) (d : Int32) : Prop := (d < 0 ∧ slt n L c a b) ∨ (d = 0 ∧ ¬ slt n L c a b ∧ ¬ slt n L c b a) ∨ (0 < d ∧ slt n L c b a)
theorem osg_lt {n : Nat} {L : Nat → Nat → Nat → Nat} {c : Nat → Nat} {a b : Nat} {d : Int32} (h : osg n L c a b d) (hd : ¬ 0 ≤ d) : slt n L c a b := by
  rcases h with ⟨_, h2⟩ | ⟨h1, _⟩ | ⟨h1, _⟩
  · exact h2
  · exact absurd (by rw [h1]; exact Int32.le_refl 0) hd
  · exact absurd (Int32.le_of_lt h1) hd
theorem osg_ge {n : Nat} {L : Nat → Nat → Nat → Nat} {c : Nat → Nat} {a b : Nat} {d : Int32} (h : osg n L c a b d) (hd : 0 ≤ d) : ¬ slt n L c a b := fun q => by
  rcases h with ⟨h1, _⟩ | ⟨_, h2⟩ | ⟨_, h2⟩
  · exact absurd hd (Int32.not_le.mpr h1)
  · exact h2.1 q
  · exact (WO_slt n L c).1 a ((WO_slt n L c).2.1 _ _ _ q h2)
theorem osg_0 {n : Nat} {L : Nat → Nat → Nat → Nat} {c : Nat → Nat} {a b : Nat} {d : Int32} (h : osg n L c a b d) (hd : d = 0) : ¬ slt n L c a b ∧ ¬ slt n L c b a := by
  rcases h with ⟨h1, _⟩ | ⟨_, h2⟩ | ⟨h1, _⟩
  · rw [hd] at h1; exact absurd h1 (Int32.lt_irrefl)
  · exact h2
  · rw [hd] at h1; exact absurd h1 (Int32.lt_irrefl)
theorem osg_n {n : Nat} {L : Nat → Nat → Nat → Nat} {c : Nat → Nat} {a b : Nat} {d : Int32} (h : osg n L c a b d) (hd : ¬ d = 0) : slt n L c a b ∨ slt n L c b a := by
  rcases h with ⟨_, h2⟩ | ⟨h1, _⟩ | ⟨_, h2⟩
  · exact Or.inl h2
  · exact absurd h1 hd
  · exact Or.inr h2
theorem osg_k {n : Nat} {L : Nat → Nat → Nat → Nat} {c : Nat → Nat} {a b y : Nat} (hn : n ≤ 9) (e : c a = c b) (h : ∀ z, z < y → kn n L c a z = kn n L c b z) (hne : kn n L c a y ≠ kn n L c b y) : osg n L c a b (nI (kn n L c b y) - nI (kn n L c a y)) := by
  have k1 : kn n L c a y ≤ n := ct_le _ n
  have k2 : kn n L c b y ≤ n := ct_le _ n
  rcases Nat.lt_or_gt_of_ne hne with q | q
  · exact Or.inr (Or.inr ⟨sub_pos (by omega) (by omega) q, Or.inr ⟨e.symm, y, fun z hz => (h z hz).symm, q⟩⟩)
  · exact Or.inl ⟨sub_neg (by omega) (by omega) q, Or.inr ⟨e, y, h, q⟩⟩
theorem osg_c {n : Nat} {L : Nat → Nat → Nat → Nat} {c : Nat → Nat} {a b : Nat} (ha : c a < 18) (hb : c b < 18) (hne : c a ≠ c b) : osg n L c a b (nI (c a) - nI (c b)) := by
  rcases Nat.lt_or_gt_of_ne hne with q | q
  · exact Or.inl ⟨sub_neg (by omega) (by omega) q, Or.inl q⟩
  · exact Or.inr (Or.inr ⟨sub_pos (by omega) (by omega) q, Or.inl q⟩)
theorem osg_e {n : Nat} {L : Nat → Nat → Nat → Nat} {c : Nat → Nat} {a b : Nat} (e : c a = c b) (h : ∀ z, kn n L c a z = kn n L c b z) : osg n L c a b (nI 0) := by
  refine Or.inr (Or.inl ⟨rfl, ?_, ?_⟩)
  · rintro (q | ⟨_, x, _, q⟩)
    · omega
    · rw [h x] at q; omega
  · rintro (q | ⟨_, x, _, q⟩)
    · omega
    · rw [h x] at q; omega
set_option maxRecDepth 100000 in
set_option maxHeartbeats 4000000 in
theorem l_X6_order_40 {X : Pk} {Z : Zk} {I : SI} {J : SJ} (hA : AJ Z.2.2.1) (C : Cx X cX6_order 7 RX6 Z 2 80) (hr : (xE X).sig.returnType = some .int) {n : Nat} {T : Nat → Nat → Nat} {L : Nat → Nat → Nat → Nat} (hv : MV I n T L) {c : Nat → Nat} (hc : MC I n c) {m : Nat} (hm : I 27 0 13 = nI m) (hm18 : m ≤ 18) (hcm : ∀ s, thr n s → c s < m) {a b : Nat} (ha : thr n a) (hb : thr n b) (e1 : c a = c b) {p : Nat} (hp : p < 16) (hex : ∀ x, (∀ z, z < (p + 1) * 18 → kn n L c a z = kn n L c b z) → G X 7 Z (QG X Z (fun v' I' J' => (∃ d : Int32, v' = some (.int d) ∧ osg n L c a b d) ∧ I' = I ∧ J' = J)) I J 102 [(0, .ref (Z.2.2.1 27 0)), (1, .int (nI a)), (2, .int (nI b)), (3, .int (nI p)), (4, .int (nI x))] []) : ∀ (k : Nat) (x : Nat), m - x < k → (x ≤ m) → (∀ z, z < p * 18 + x → kn n L c a z = kn n L c b z) → G X 7 Z (QG X Z (fun v' I' J' => (∃ d : Int32, v' = some (.int d) ∧ osg n L c a b d) ∧ I' = I ∧ J' = J)) (I) (J) 40 [(0, .ref (Z.2.2.1 27 0)), (1, .int (nI a)), (2, .int (nI b)), (3, .int (nI p)), (4, .int (nI x))] [] := by
  obtain ⟨⟨hn1, hn9⟩, -⟩ := id hv
  intro k
  induction k with
  | zero => intro x h; exact absurd h (by omega)
  | succ k ih =>
    intro x hk hx hin
    have ha18 := ha.1
    have hb18 := hb.1
    have k1 : kn n L c a (p * 18 + x) ≤ n := ct_le _ n
    have k2 : kn n L c b (p * 18 + x) ≤ n := ct_le _ n
    refine g_ild C dX6_order_40 rfl ?_
    refine g_aldn C dX6_order_42 rfl ?_
    refine g_get C 27 0 (by decide) (by decide) u6 rfl 13 rfl fX6_69 rfl rfl dX6_order_43 ?_
    refine g_top (y := (nI m)) hm ?_
    refine n_icmp_ge (tgt := 102) C dX6_order_46 rfl (by omega) (by omega) (fun c46 => ?_) (fun c46 => ?_)
    · refine g_lv [0, 1, 2, 3, 4] rfl ?_
      exact hex x (fun z hz => by rcases Nat.lt_or_ge z (p * 18 + x) with q | q; exact hin z q; rw [kn_z hv hcm hm18 ha (Or.inl (by omega)), kn_z hv hcm hm18 hb (Or.inl (by omega))])
    · refine g_aldn C dX6_order_49 rfl ?_
      refine g_ildn C dX6_order_50 rfl ?_
      refine g_bipush C ((nI 9)) dX6_order_51 (by decide) ?_
      refine g_idiv (v := (nI (a / 9))) C dX6_order_53 (nI_ne0 (by omega) (by omega)) (pk_div (by omega) (by omega) (by omega)) ?_
      refine g_ildn C dX6_order_54 rfl ?_
      refine g_bipush C ((nI 9)) dX6_order_55 (by decide) ?_
      refine g_irem (v := (nI (a % 9))) C dX6_order_57 (nI_ne0 (by omega) (by omega)) (pk_rem (by omega) (by omega) (by omega)) ?_
      refine g_ildn C dX6_order_58 rfl ?_
      refine g_ild C dX6_order_59 rfl ?_
      refine g_callV (As := [.int (nI (a / 9)), .int (nI (a % 9)), .int (nI p), .int (nI x)]) (st := []) C (c_X6_many hA hv hc (g := a / 9) (v := a % 9) (p := p) (x := x) (by have := ha.1; omega) ha.2 (by omega) (by omega)) wX6_many iX6_many sX6_many mX6_72 27 0 (by decide) (by decide) rfl rfl rfl rfl rfl rfl rfl rfl dX6_order_61 ?_
      rintro v9 I9 J9 ⟨h91, h92, h93⟩
      rw [mny_kn hv hc ha (show x < 18 by omega)] at h91
      rw [h91, h92, h93]
      clear h91 h92 h93 v9 I9 J9
      show G X _ Z _ I J 64 [(0, .ref (Z.2.2.1 27 0)), (1, .int (nI a)), (2, .int (nI b)), (3, .int (nI p)), (4, .int (nI x))] [.int (nI (kn n L c a (p * 18 + x)))]
      refine g_ist (lv' := [(5, .int (nI (kn n L c a (p * 18 + x)))), (0, .ref (Z.2.2.1 27 0)), (1, .int (nI a)), (2, .int (nI b)), (3, .int (nI p)), (4, .int (nI x))]) C dX6_order_64 rfl rfl ?_
      refine g_aldn C dX6_order_66 rfl ?_
      refine g_ildn C dX6_order_67 rfl ?_
      refine g_bipush C ((nI 9)) dX6_order_68 (by decide) ?_
      refine g_idiv (v := (nI (b / 9))) C dX6_order_70 (nI_ne0 (by omega) (by omega)) (pk_div (by omega) (by omega) (by omega)) ?_
      refine g_ildn C dX6_order_71 rfl ?_
      refine g_bipush C ((nI 9)) dX6_order_72 (by decide) ?_
      refine g_irem (v := (nI (b % 9))) C dX6_order_74 (nI_ne0 (by omega) (by omega)) (pk_rem (by omega) (by omega) (by omega)) ?_
      refine g_ildn C dX6_order_75 rfl ?_
      refine g_ild C dX6_order_76 rfl ?_
      refine g_callV (As := [.int (nI (b / 9)), .int (nI (b % 9)), .int (nI p), .int (nI x)]) (st := []) C (c_X6_many hA hv hc (g := b / 9) (v := b % 9) (p := p) (x := x) (by have := hb.1; omega) hb.2 (by omega) (by omega)) wX6_many iX6_many sX6_many mX6_72 27 0 (by decide) (by decide) rfl rfl rfl rfl rfl rfl rfl rfl dX6_order_78 ?_
      rintro v9 I9 J9 ⟨h91, h92, h93⟩
      rw [mny_kn hv hc hb (show x < 18 by omega)] at h91
      rw [h91, h92, h93]
      clear h91 h92 h93 v9 I9 J9
      show G X _ Z _ I J 81 [(5, .int (nI (kn n L c a (p * 18 + x)))), (0, .ref (Z.2.2.1 27 0)), (1, .int (nI a)), (2, .int (nI b)), (3, .int (nI p)), (4, .int (nI x))] [.int (nI (kn n L c b (p * 18 + x)))]
      refine g_ist (lv' := [(6, .int (nI (kn n L c b (p * 18 + x)))), (5, .int (nI (kn n L c a (p * 18 + x)))), (0, .ref (Z.2.2.1 27 0)), (1, .int (nI a)), (2, .int (nI b)), (3, .int (nI p)), (4, .int (nI x))]) C dX6_order_81 rfl rfl ?_
      refine g_ild C dX6_order_83 rfl ?_
      refine g_ild C dX6_order_85 rfl ?_
      refine n_icmp_eq (tgt := 96) C dX6_order_87 rfl (by omega) (by omega) (fun c87 => ?_) (fun c87 => ?_)
      · refine g_iinc (lv' := [(4, .int (nI (x + 1))), (6, .int (nI (kn n L c b (p * 18 + x)))), (5, .int (nI (kn n L c a (p * 18 + x)))), (0, .ref (Z.2.2.1 27 0)), (1, .int (nI a)), (2, .int (nI b)), (3, .int (nI p))]) C ((nI (x + 1))) dX6_order_96 rfl (inc1 _) rfl rfl ?_
        refine g_goto (tgt := 40) C dX6_order_99 rfl ?_
        refine g_lv [3, 4, 5, 6, 0] rfl ?_
        exact ih (x + 1) (by omega) (by omega) (fun z hz => (Nat.lt_or_eq_of_le (Nat.le_of_lt_succ (show z < p * 18 + x + 1 by omega))).elim (hin z) (fun e => by rw [e]; exact c87))
      · refine g_ild C dX6_order_90 rfl ?_
        refine g_ild C dX6_order_92 rfl ?_
        refine g_isub (v := (nI (kn n L c b (p * 18 + x)) - nI (kn n L c a (p * 18 + x)))) C dX6_order_94 rfl ?_
        exact g_ireturn C hr dX6_order_95 ⟨⟨_, rfl, osg_k hn9 e1 hin c87⟩, rfl, rfl⟩

set_option maxRecDepth 100000 in
set_option maxHeartbeats 4000000 in
theorem l_X6_order_31 {X : Pk} {Z : Zk} {I : SI} {J : SJ} (hA : AJ Z.2.2.1) (C : Cx X cX6_order 7 RX6 Z 2 80) (hr : (xE X).sig.returnType = some .int) {n : Nat} {T : Nat → Nat → Nat} {L : Nat → Nat → Nat → Nat} (hv : MV I n T L) {c : Nat → Nat} (hc : MC I n c) {m : Nat} (hm : I 27 0 13 = nI m) (hm18 : m ≤ 18) (hcm : ∀ s, thr n s → c s < m) {a b : Nat} (ha : thr n a) (hb : thr n b) (e1 : c a = c b) : ∀ (k : Nat) (p : Nat), 16 - p < k → (p ≤ 16) → (∀ z, z < p * 18 → kn n L c a z = kn n L c b z) → G X 7 Z (QG X Z (fun v' I' J' => (∃ d : Int32, v' = some (.int d) ∧ osg n L c a b d) ∧ I' = I ∧ J' = J)) (I) (J) 31 [(0, .ref (Z.2.2.1 27 0)), (1, .int (nI a)), (2, .int (nI b)), (3, .int (nI p))] [] := by
  obtain ⟨⟨hn1, hn9⟩, -⟩ := id hv
  intro k
  induction k with
  | zero => intro p h; exact absurd h (by omega)
  | succ k ih =>
    intro p hk hp hin
    refine g_ildn C dX6_order_31 rfl ?_
    refine g_bipush C ((nI 16)) dX6_order_32 (by decide) ?_
    refine n_icmp_ge (tgt := 108) C dX6_order_34 rfl (by omega) (by omega) (fun c34 => ?_) (fun c34 => ?_)
    · refine g_iconst C ((nI 0)) dX6_order_108 (by decide) ?_
      exact g_ireturn C hr dX6_order_109 ⟨⟨_, rfl, osg_e e1 (fun z => by rcases Nat.lt_or_ge z (p * 18) with q | q; exact hin z q; rw [kn_z hv hcm hm18 ha (Or.inr (by omega)), kn_z hv hcm hm18 hb (Or.inr (by omega))])⟩, rfl, rfl⟩
    · refine g_iconst C ((nI 0)) dX6_order_37 (by decide) ?_
      refine g_ist (lv' := [(4, .int (nI 0)), (0, .ref (Z.2.2.1 27 0)), (1, .int (nI a)), (2, .int (nI b)), (3, .int (nI p))]) C dX6_order_38 rfl rfl ?_
      refine g_lv [1, 2, 3, 4, 0] rfl ?_
      refine l_X6_order_40 hA C hr hv hc hm hm18 hcm ha hb e1 (p := p) (by omega) ?_ (m + 1) 0 (by omega) (by omega) (fun z hz => hin z (by omega))
      intro x2 hin2
      refine g_iinc (lv' := [(3, .int (nI (p + 1))), (0, .ref (Z.2.2.1 27 0)), (1, .int (nI a)), (2, .int (nI b)), (4, .int (nI x2))]) C ((nI (p + 1))) dX6_order_102 rfl (inc1 _) rfl rfl ?_
      refine g_goto (tgt := 31) C dX6_order_105 rfl ?_
      refine g_lv [1, 2, 3, 0] rfl ?_
      exact ih (p + 1) (by omega) (by omega) hin2

set_option maxRecDepth 100000 in
set_option maxHeartbeats 4000000 in
/-- order -/
theorem c_X6_order {l : Launch} {Y : Yk} (hA : AJ Y.2.2) {I : SI} {J : SJ} {n : Nat} {T : Nat → Nat → Nat} {L : Nat → Nat → Nat → Nat} (hv : MV I n T L) {c : Nat → Nat} (hc : MC I n c) {m : Nat} (hm : I 27 0 13 = nI m) (hm18 : m ≤ 18) (hcm : ∀ s, thr n s → c s < m) {a b : Nat} (ha : thr n a) (hb : thr n b)  : MX l Y yX6_order cX6_order 7 (some .int) 2 80 [.ref (Y.2.2 27 0), .int (nI a), .int (nI b)] I J (fun v' I' J' => (∃ d : Int32, v' = some (.int d) ∧ osg n L c a b d) ∧ I' = I ∧ J' = J) := by
  refine MX.of hA (by decide) (own := RX6) rfl rfl rfl ?_
  intro X Z hl hY1 hY2 hY3 C hr
  obtain ⟨D0, ca0, ad0⟩ := Y
  dsimp only at hA hY1 hY2 hY3
  subst hY1; subst hY2; subst hY3; subst hl
  show G X 7 Z (QG X Z _) I J 0 [(0, .ref (Z.2.2.1 27 0)), (1, .int (nI a)), (2, .int (nI b))] []
  obtain ⟨⟨hn1, hn9⟩, -⟩ := id hv
  have ha18 := ha.1
  have hb18 := hb.1
  have z1 := (hc a ha).2
  have z2 := (hc b hb).2
  refine g_aldn C dX6_order_0 rfl ?_
  refine g_get C 27 0 (by decide) (by decide) u6 rfl 11 rfl fX6_39 rfl rfl dX6_order_1 ?_
  refine g_ildn C dX6_order_4 rfl ?_
  refine g_iald C 36 0 (by decide) (by decide) (fun _ _ => rfl) a (show a < 18 by omega) rfl dX6_order_5 (v := (nI (c a))) (hc a ha).1 ?_
  refine g_aldn C dX6_order_6 rfl ?_
  refine g_get C 27 0 (by decide) (by decide) u6 rfl 11 rfl fX6_39 rfl rfl dX6_order_7 ?_
  refine g_ildn C dX6_order_10 rfl ?_
  refine g_iald C 36 0 (by decide) (by decide) (fun _ _ => rfl) b (show b < 18 by omega) rfl dX6_order_11 (v := (nI (c b))) (hc b hb).1 ?_
  refine n_icmp_eq (tgt := 29) C dX6_order_12 rfl (by omega) (by omega) (fun c12 => ?_) (fun c12 => ?_)
  · refine g_iconst C ((nI 0)) dX6_order_29 (by decide) ?_
    refine g_istn (lv' := [(3, .int (nI 0)), (0, .ref (Z.2.2.1 27 0)), (1, .int (nI a)), (2, .int (nI b))]) C dX6_order_30 rfl rfl ?_
    refine g_lv [1, 2, 3, 0] rfl ?_
    exact l_X6_order_31 hA C hr hv hc hm hm18 hcm ha hb c12 17 0 (by omega) (by omega) (fun z hz => absurd hz (by omega))
  · refine g_aldn C dX6_order_15 rfl ?_
    refine g_get C 27 0 (by decide) (by decide) u6 rfl 11 rfl fX6_39 rfl rfl dX6_order_16 ?_
    refine g_ildn C dX6_order_19 rfl ?_
    refine g_iald C 36 0 (by decide) (by decide) (fun _ _ => rfl) a (show a < 18 by omega) rfl dX6_order_20 (v := (nI (c a))) (hc a ha).1 ?_
    refine g_aldn C dX6_order_21 rfl ?_
    refine g_get C 27 0 (by decide) (by decide) u6 rfl 11 rfl fX6_39 rfl rfl dX6_order_22 ?_
    refine g_ildn C dX6_order_25 rfl ?_
    refine g_iald C 36 0 (by decide) (by decide) (fun _ _ => rfl) b (show b < 18 by omega) rfl dX6_order_26 (v := (nI (c b))) (hc b hb).1 ?_
    refine g_isub (v := (nI (c a) - nI (c b))) C dX6_order_27 rfl ?_
    exact g_ireturn C hr dX6_order_28 ⟨⟨_, rfl, osg_c (hc a ha).2 (hc b hb).2 c12⟩, rfl, rfl⟩

def alP (n : Nat) (L : Nat → Nat → Nat → Nat) (c : Nat → Nat) (y x z : Nat) : Prop := slt n L c y x ∧ ∀ t, t < z → thr n t → slt n L c t y ∨ slt n L c y t
def fsP (n : Nat) (L : Nat → Nat → Nat → Nat) (c : Nat → Nat) (x y : Nat) : Prop := thr n x ∧ ∀ t, t < y → t < x → thr n t → slt n L c t x ∨ slt n L c x t
theorem thr_d {n x : Nat} (h18 : x < 18) (h : decide (x % 9 < n) = true) : thr n x := ⟨h18, of_decide_eq_true h⟩
theorem thr_n {n x : Nat} (h : decide (x % 9 < n) = false) : ¬ thr n x := fun q => of_decide_eq_false h q.2
set_option maxRecDepth 100000 in
set_option maxHeartbeats 4000000 in
theorem l_X6_paint_185 {X : Pk} {Z : Zk} {Q : State → Prop} {I : SI} {J : SJ} (hA : AJ Z.2.2.1) (C : Cx X cX6_paint 9 RX6 Z 3 130) (hr : (xE X).sig.returnType = none) {n : Nat} {T : Nat → Nat → Nat} {L : Nat → Nat → Nat → Nat} (hv : MV I n T L) {c : Nat → Nat} (hc : MC I n c) {m : Nat} (hm : I 27 0 13 = nI m) (hm18 : m ≤ 18) (hcm : ∀ s, thr n s → c s < m) {bf ct0 x y : Nat} {fs : Bool} {od : Int32} (hy : thr n y) (hex : G X 9 Z Q I J 230 [(0, .ref (Z.2.2.1 27 0)), (1, .int (nI bf)), (2, .int (nI ct0)), (3, .int (nI x)), (4, .int (bI fs)), (5, .int (nI y)), (6, .int od), (7, .int (bI (dc (alP n L c y x y))))] []) : ∀ (k : Nat) (z : Nat), y - z < k → (z ≤ y) → G X 9 Z (Q) (I) (J) 185 [(0, .ref (Z.2.2.1 27 0)), (1, .int (nI bf)), (2, .int (nI ct0)), (3, .int (nI x)), (4, .int (bI fs)), (5, .int (nI y)), (6, .int od), (7, .int (bI (dc (alP n L c y x z)))), (8, .int (nI z))] [] := by
  obtain ⟨⟨hn1, hn9⟩, -⟩ := id hv
  intro k
  induction k with
  | zero => intro z h; exact absurd h (by omega)
  | succ k ih =>
    intro z hk hz
    have hy18 := hy.1
    refine g_ild C dX6_paint_185 rfl ?_
    refine g_ild C dX6_paint_187 rfl ?_
    refine n_icmp_ge (tgt := 230) C dX6_paint_189 rfl (by omega) (by omega) (fun c189 => ?_) (fun c189 => ?_)
    · refine g_lv (lv1 := [(0, .ref (Z.2.2.1 27 0)), (1, .int (nI bf)), (2, .int (nI ct0)), (3, .int (nI x)), (4, .int (bI fs)), (5, .int (nI y)), (6, .int od), (7, .int (bI (dc (alP n L c y x y))))]) [0, 1, 2, 3, 4, 5, 6, 7] (by rw [show dc (alP n L c y x y) = dc (alP n L c y x z) from dc_congr (by first | (rw [show z = y by omega]) | exact ⟨fun q => ⟨q.1, fun t ht => q.2 t (by omega)⟩, fun q => absurd (dc_t.mpr q) (by rw [c194]; decide)⟩)]; rfl) ?_
      exact hex
    · refine g_ild C dX6_paint_192 rfl ?_
      refine b_if_eq (tgt := 230) C dX6_paint_194 rfl (fun c194 => ?_) (fun c194 => ?_)
      · refine g_lv (lv1 := [(0, .ref (Z.2.2.1 27 0)), (1, .int (nI bf)), (2, .int (nI ct0)), (3, .int (nI x)), (4, .int (bI fs)), (5, .int (nI y)), (6, .int od), (7, .int (bI (dc (alP n L c y x y))))]) [0, 1, 2, 3, 4, 5, 6, 7] (by rw [show dc (alP n L c y x y) = dc (alP n L c y x z) from dc_congr (by first | (rw [show z = y by omega]) | exact ⟨fun q => ⟨q.1, fun t ht => q.2 t (by omega)⟩, fun q => absurd (dc_t.mpr q) (by rw [c194]; decide)⟩)]; rfl) ?_
        exact hex
      · refine g_aldn C dX6_paint_197 rfl ?_
        refine g_ild C dX6_paint_198 rfl ?_
        refine g_callV (As := [.int (nI z)]) (st := []) C (c_X6_isThere hA hv (x := z) (by omega)) wX6_isThere iX6_isThere sX6_isThere mX6_76 27 0 (by decide) (by decide) rfl rfl rfl rfl rfl rfl rfl rfl dX6_paint_200 ?_
        rintro v9 I9 J9 ⟨h91, h92, h93⟩
        rw [h91, h92, h93]
        clear h91 h92 h93 v9 I9 J9
        show G X _ Z _ I J 203 [(0, .ref (Z.2.2.1 27 0)), (1, .int (nI bf)), (2, .int (nI ct0)), (3, .int (nI x)), (4, .int (bI fs)), (5, .int (nI y)), (6, .int od), (7, .int (bI (dc (alP n L c y x z)))), (8, .int (nI z))] [.int (bI (decide (z % 9 < n)))]
        refine b_if_eq (tgt := 217) C dX6_paint_203 rfl (fun c203 => ?_) (fun c203 => ?_)
        · refine g_iconst C ((nI 1)) dX6_paint_217 (by decide) ?_
          refine g_goto (tgt := 222) C dX6_paint_218 rfl ?_
          refine g_ist (lv' := [(7, .int (nI 1)), (0, .ref (Z.2.2.1 27 0)), (1, .int (nI bf)), (2, .int (nI ct0)), (3, .int (nI x)), (4, .int (bI fs)), (5, .int (nI y)), (6, .int od), (8, .int (nI z))]) C dX6_paint_222 rfl rfl ?_
          refine g_iinc (lv' := [(8, .int (nI (z + 1))), (7, .int (nI 1)), (0, .ref (Z.2.2.1 27 0)), (1, .int (nI bf)), (2, .int (nI ct0)), (3, .int (nI x)), (4, .int (bI fs)), (5, .int (nI y)), (6, .int od)]) C ((nI (z + 1))) dX6_paint_224 rfl (inc1 _) rfl rfl ?_
          refine g_goto (tgt := 185) C dX6_paint_227 rfl ?_
          refine g_lv (lv1 := [(0, .ref (Z.2.2.1 27 0)), (1, .int (nI bf)), (2, .int (nI ct0)), (3, .int (nI x)), (4, .int (bI fs)), (5, .int (nI y)), (6, .int od), (7, .int (bI (dc (alP n L c y x (z + 1))))), (8, .int (nI (z + 1)))]) [2, 3, 4, 5, 6, 7, 8, 1, 0] (by rw [show dc (alP n L c y x (z + 1)) = true from dc_t.mpr ⟨(dc_t.mp c194).1, fun t ht hh => (Nat.lt_or_eq_of_le (Nat.le_of_lt_succ ht)).elim (fun q => (dc_t.mp c194).2 t q hh) (fun e => by subst e; first | exact absurd hh (thr_n c203) | exact osg_n hd c214)⟩]; rfl) ?_
          exact ih (z + 1) (by omega) (by omega)
        · refine g_aldn C dX6_paint_206 rfl ?_
          refine g_ild C dX6_paint_207 rfl ?_
          refine g_ild C dX6_paint_209 rfl ?_
          refine g_callV (As := [.int (nI z), .int (nI y)]) (st := []) C (c_X6_order hA hv hc hm hm18 hcm (a := z) (b := y) (thr_d (by omega) c203) hy) wX6_order iX6_order sX6_order mX6_79 27 0 (by decide) (by decide) rfl rfl rfl rfl rfl rfl rfl rfl dX6_paint_211 ?_
          rintro v9 I9 J9 ⟨⟨d, h91, hd⟩, h92, h93⟩
          rw [h91, h92, h93]
          clear h91 h92 h93 v9 I9 J9
          show G X _ Z _ I J 214 [(0, .ref (Z.2.2.1 27 0)), (1, .int (nI bf)), (2, .int (nI ct0)), (3, .int (nI x)), (4, .int (bI fs)), (5, .int (nI y)), (6, .int od), (7, .int (bI (dc (alP n L c y x z)))), (8, .int (nI z))] [.int d]
          refine g_if_eq (tgt := 221) C dX6_paint_214 rfl (fun c214 => ?_) (fun c214 => ?_)
          · refine g_iconst C ((nI 0)) dX6_paint_221 (by decide) ?_
            refine g_ist (lv' := [(7, .int (nI 0)), (0, .ref (Z.2.2.1 27 0)), (1, .int (nI bf)), (2, .int (nI ct0)), (3, .int (nI x)), (4, .int (bI fs)), (5, .int (nI y)), (6, .int od), (8, .int (nI z))]) C dX6_paint_222 rfl rfl ?_
            refine g_iinc (lv' := [(8, .int (nI (z + 1))), (7, .int (nI 0)), (0, .ref (Z.2.2.1 27 0)), (1, .int (nI bf)), (2, .int (nI ct0)), (3, .int (nI x)), (4, .int (bI fs)), (5, .int (nI y)), (6, .int od)]) C ((nI (z + 1))) dX6_paint_224 rfl (inc1 _) rfl rfl ?_
            refine g_goto (tgt := 185) C dX6_paint_227 rfl ?_
            refine g_lv (lv1 := [(0, .ref (Z.2.2.1 27 0)), (1, .int (nI bf)), (2, .int (nI ct0)), (3, .int (nI x)), (4, .int (bI fs)), (5, .int (nI y)), (6, .int od), (7, .int (bI (dc (alP n L c y x (z + 1))))), (8, .int (nI (z + 1)))]) [2, 3, 4, 5, 6, 7, 8, 1, 0] (by rw [show dc (alP n L c y x (z + 1)) = false from dc_f (fun q => (q.2 z (by omega) (thr_d (by omega) c203)).elim (osg_0 hd c214).1 (osg_0 hd c214).2)]; rfl) ?_
            exact ih (z + 1) (by omega) (by omega)
          · refine g_iconst C ((nI 1)) dX6_paint_217 (by decide) ?_
            refine g_goto (tgt := 222) C dX6_paint_218 rfl ?_
            refine g_ist (lv' := [(7, .int (nI 1)), (0, .ref (Z.2.2.1 27 0)), (1, .int (nI bf)), (2, .int (nI ct0)), (3, .int (nI x)), (4, .int (bI fs)), (5, .int (nI y)), (6, .int od), (8, .int (nI z))]) C dX6_paint_222 rfl rfl ?_
            refine g_iinc (lv' := [(8, .int (nI (z + 1))), (7, .int (nI 1)), (0, .ref (Z.2.2.1 27 0)), (1, .int (nI bf)), (2, .int (nI ct0)), (3, .int (nI x)), (4, .int (bI fs)), (5, .int (nI y)), (6, .int od)]) C ((nI (z + 1))) dX6_paint_224 rfl (inc1 _) rfl rfl ?_
            refine g_goto (tgt := 185) C dX6_paint_227 rfl ?_
            refine g_lv (lv1 := [(0, .ref (Z.2.2.1 27 0)), (1, .int (nI bf)), (2, .int (nI ct0)), (3, .int (nI x)), (4, .int (bI fs)), (5, .int (nI y)), (6, .int od), (7, .int (bI (dc (alP n L c y x (z + 1))))), (8, .int (nI (z + 1)))]) [2, 3, 4, 5, 6, 7, 8, 1, 0] (by rw [show dc (alP n L c y x (z + 1)) = true from dc_t.mpr ⟨(dc_t.mp c194).1, fun t ht hh => (Nat.lt_or_eq_of_le (Nat.le_of_lt_succ ht)).elim (fun q => (dc_t.mp c194).2 t q hh) (fun e => by subst e; first | exact absurd hh (thr_n c203) | exact osg_n hd c214)⟩]; rfl) ?_
            exact ih (z + 1) (by omega) (by omega)

theorem alP_rk {n : Nat} {L : Nat → Nat → Nat → Nat} {c : Nat → Nat} {y x : Nat} (hy : thr n y) : dc (thr n y ∧ slt n L c y x ∧ ∀ z, z < y → thr n z → slt n L c z y ∨ slt n L c y z) = dc (alP n L c y x y) := dc_congr ⟨fun q => q.2, fun q => ⟨hy, q⟩⟩
set_option maxRecDepth 100000 in
set_option maxHeartbeats 4000000 in
theorem l_X6_paint_137 {X : Pk} {Z : Zk} {Q : State → Prop} {I : SI} {J : SJ} (hA : AJ Z.2.2.1) (C : Cx X cX6_paint 9 RX6 Z 3 130) (hr : (xE X).sig.returnType = none) {n : Nat} {T : Nat → Nat → Nat} {L : Nat → Nat → Nat → Nat} (hv : MV I n T L) {c : Nat → Nat} (hc : MC I n c) {m : Nat} (hm : I 27 0 13 = nI m) (hm18 : m ≤ 18) (hcm : ∀ s, thr n s → c s < m) {bf ct0 x : Nat} (hx : x < 18) {E0 : Nat → Nat → Int32} (hex : ∀ E, (thr n x → E 0 x = nI (ct (fun t => dc (thr n t ∧ slt n L c t x ∧ ∀ z, z < t → thr n z → slt n L c z t ∨ slt n L c t z)) 18)) → (∀ r, r ≠ x → E 0 r = E0 0 r) → G X 9 Z Q (sK I 37 E) J 278 [(0, .ref (Z.2.2.1 27 0)), (1, .int (nI bf)), (2, .int (nI ct0)), (3, .int (nI x)), (4, .int (bI (dc (fsP n L c x 18)))), (5, .int (nI 18))] []) : ∀ (k : Nat) (y : Nat) (E : Nat → Nat → Int32), 18 - y < k → (y ≤ 18) → (thr n x → E 0 x = nI (ct (fun t => dc (thr n t ∧ slt n L c t x ∧ ∀ z, z < t → thr n z → slt n L c z t ∨ slt n L c t z)) y)) → (∀ r, r ≠ x → E 0 r = E0 0 r) → G X 9 Z (Q) (sK I 37 E) (J) 137 [(0, .ref (Z.2.2.1 27 0)), (1, .int (nI bf)), (2, .int (nI ct0)), (3, .int (nI x)), (4, .int (bI (dc (fsP n L c x y)))), (5, .int (nI y))] [] := by
  obtain ⟨⟨hn1, hn9⟩, -⟩ := id hv
  intro k
  induction k with
  | zero => intro y E h; exact absurd h (by omega)
  | succ k ih =>
    intro y E hk hy hE ho
    have hct := ct_le (fun t => dc (thr n t ∧ slt n L c t x ∧ ∀ z, z < t → thr n z → slt n L c z t ∨ slt n L c t z)) y
    refine g_ild C dX6_paint_137 rfl ?_
    refine g_bipush C ((nI 18)) dX6_paint_139 (by decide) ?_
    refine n_icmp_ge (tgt := 278) C dX6_paint_141 rfl (by omega) (by omega) (fun c141 => ?_) (fun c141 => ?_)
    · have e : y = 18 := by omega
      subst e
      refine g_lv [0, 1, 2, 3, 4, 5] rfl ?_
      exact hex E hE ho
    · refine g_aldn C dX6_paint_144 rfl ?_
      refine g_ildn C dX6_paint_145 rfl ?_
      refine g_callV (As := [.int (nI x)]) (st := []) C (c_X6_isThere hA (hv.of (I' := sK I 37 E) (by rw [sK_ne (by decide)]) (sK_ne (by decide)) (sK_ne (by decide))) (x := x) (by omega)) wX6_isThere iX6_isThere sX6_isThere mX6_76 27 0 (by decide) (by decide) rfl rfl rfl rfl rfl rfl rfl rfl dX6_paint_146 ?_
      rintro v9 I9 J9 ⟨h91, h92, h93⟩
      rw [h91, h92, h93]
      clear h91 h92 h93 v9 I9 J9
      show G X _ Z _ (sK I 37 E) J 149 [(0, .ref (Z.2.2.1 27 0)), (1, .int (nI bf)), (2, .int (nI ct0)), (3, .int (nI x)), (4, .int (bI (dc (fsP n L c x y)))), (5, .int (nI y))] [.int (bI (decide (x % 9 < n)))]
      refine b_if_eq (tgt := 272) C dX6_paint_149 rfl (fun c149 => ?_) (fun c149 => ?_)
      · refine g_iinc (lv' := [(5, .int (nI (y + 1))), (0, .ref (Z.2.2.1 27 0)), (1, .int (nI bf)), (2, .int (nI ct0)), (3, .int (nI x)), (4, .int (bI (dc (fsP n L c x y))))]) C ((nI (y + 1))) dX6_paint_272 rfl (inc1 _) rfl rfl ?_
        refine g_goto (tgt := 137) C dX6_paint_275 rfl ?_
        refine g_lv (lv1 := [(0, .ref (Z.2.2.1 27 0)), (1, .int (nI bf)), (2, .int (nI ct0)), (3, .int (nI x)), (4, .int (bI (dc (fsP n L c x (y + 1))))), (5, .int (nI (y + 1)))]) [1, 2, 3, 4, 5, 0] (by rw [show dc (fsP n L c x (y + 1)) = dc (fsP n L c x y) from dc_congr (by first | exact ⟨fun q => absurd q.1 (thr_n c149), fun q => absurd q.1 (thr_n c149)⟩ | exact ⟨fun q => ⟨q.1, fun t ht => q.2 t (by omega)⟩, fun q => ⟨q.1, fun t ht h2 hh => (Nat.lt_or_eq_of_le (Nat.le_of_lt_succ ht)).elim (fun z => q.2 t z h2 hh) (fun e => by subst e; exact absurd hh (thr_n c158))⟩⟩)]; rfl) ?_
        exact ih (y + 1) E (by omega) (by omega) (fun hx => by first | exact absurd hx (thr_n c149) | (rw [hE hx]; exact congrArg nI (ct_f (dc_f (fun q => thr_n c158 q.1))).symm)) ho
      · refine g_aldn C dX6_paint_152 rfl ?_
        refine g_ild C dX6_paint_153 rfl ?_
        refine g_callV (As := [.int (nI y)]) (st := []) C (c_X6_isThere hA (hv.of (I' := sK I 37 E) (by rw [sK_ne (by decide)]) (sK_ne (by decide)) (sK_ne (by decide))) (x := y) (by omega)) wX6_isThere iX6_isThere sX6_isThere mX6_76 27 0 (by decide) (by decide) rfl rfl rfl rfl rfl rfl rfl rfl dX6_paint_155 ?_
        rintro v9 I9 J9 ⟨h91, h92, h93⟩
        rw [h91, h92, h93]
        clear h91 h92 h93 v9 I9 J9
        show G X _ Z _ (sK I 37 E) J 158 [(0, .ref (Z.2.2.1 27 0)), (1, .int (nI bf)), (2, .int (nI ct0)), (3, .int (nI x)), (4, .int (bI (dc (fsP n L c x y)))), (5, .int (nI y))] [.int (bI (decide (y % 9 < n)))]
        refine b_if_eq (tgt := 272) C dX6_paint_158 rfl (fun c158 => ?_) (fun c158 => ?_)
        · refine g_iinc (lv' := [(5, .int (nI (y + 1))), (0, .ref (Z.2.2.1 27 0)), (1, .int (nI bf)), (2, .int (nI ct0)), (3, .int (nI x)), (4, .int (bI (dc (fsP n L c x y))))]) C ((nI (y + 1))) dX6_paint_272 rfl (inc1 _) rfl rfl ?_
          refine g_goto (tgt := 137) C dX6_paint_275 rfl ?_
          refine g_lv (lv1 := [(0, .ref (Z.2.2.1 27 0)), (1, .int (nI bf)), (2, .int (nI ct0)), (3, .int (nI x)), (4, .int (bI (dc (fsP n L c x (y + 1))))), (5, .int (nI (y + 1)))]) [1, 2, 3, 4, 5, 0] (by rw [show dc (fsP n L c x (y + 1)) = dc (fsP n L c x y) from dc_congr (by first | exact ⟨fun q => absurd q.1 (thr_n c149), fun q => absurd q.1 (thr_n c149)⟩ | exact ⟨fun q => ⟨q.1, fun t ht => q.2 t (by omega)⟩, fun q => ⟨q.1, fun t ht h2 hh => (Nat.lt_or_eq_of_le (Nat.le_of_lt_succ ht)).elim (fun z => q.2 t z h2 hh) (fun e => by subst e; exact absurd hh (thr_n c158))⟩⟩)]; rfl) ?_
          exact ih (y + 1) E (by omega) (by omega) (fun hx => by first | exact absurd hx (thr_n c149) | (rw [hE hx]; exact congrArg nI (ct_f (dc_f (fun q => thr_n c158 q.1))).symm)) ho
        · refine g_aldn C dX6_paint_161 rfl ?_
          refine g_ild C dX6_paint_162 rfl ?_
          refine g_ildn C dX6_paint_164 rfl ?_
          refine g_callV (As := [.int (nI y), .int (nI x)]) (st := []) C (c_X6_order hA (hv.of (I' := sK I 37 E) (by rw [sK_ne (by decide)]) (sK_ne (by decide)) (sK_ne (by decide))) (hc.of (I' := sK I 37 E) (sK_ne (by decide))) (show (sK I 37 E) 27 0 13 = nI m by rw [sK_ne (by decide)]; exact hm) hm18 hcm (a := y) (b := x) (thr_d (by omega) c158) (thr_d (by omega) c149)) wX6_order iX6_order sX6_order mX6_79 27 0 (by decide) (by decide) rfl rfl rfl rfl rfl rfl rfl rfl dX6_paint_165 ?_
          rintro v9 I9 J9 ⟨⟨od, h91, hod⟩, h92, h93⟩
          rw [h91, h92, h93]
          clear h91 h92 h93 v9 I9 J9
          show G X _ Z _ (sK I 37 E) J 168 [(0, .ref (Z.2.2.1 27 0)), (1, .int (nI bf)), (2, .int (nI ct0)), (3, .int (nI x)), (4, .int (bI (dc (fsP n L c x y)))), (5, .int (nI y))] [.int od]
          refine g_ist (lv' := [(6, .int od), (0, .ref (Z.2.2.1 27 0)), (1, .int (nI bf)), (2, .int (nI ct0)), (3, .int (nI x)), (4, .int (bI (dc (fsP n L c x y)))), (5, .int (nI y))]) C dX6_paint_168 rfl rfl ?_
          refine g_ild C dX6_paint_170 rfl ?_
          refine g_if_ge (tgt := 179) C dX6_paint_172 rfl (fun c172 => ?_) (fun c172 => ?_)
          · refine g_iconst C ((nI 0)) dX6_paint_179 (by decide) ?_
            refine g_ist (lv' := [(7, .int (nI 0)), (6, .int od), (0, .ref (Z.2.2.1 27 0)), (1, .int (nI bf)), (2, .int (nI ct0)), (3, .int (nI x)), (4, .int (bI (dc (fsP n L c x y)))), (5, .int (nI y))]) C dX6_paint_180 rfl rfl ?_
            refine g_iconst C ((nI 0)) dX6_paint_182 (by decide) ?_
            refine g_ist (lv' := [(8, .int (nI 0)), (7, .int (nI 0)), (6, .int od), (0, .ref (Z.2.2.1 27 0)), (1, .int (nI bf)), (2, .int (nI ct0)), (3, .int (nI x)), (4, .int (bI (dc (fsP n L c x y)))), (5, .int (nI y))]) C dX6_paint_183 rfl rfl ?_
            refine g_lv (lv1 := [(0, .ref (Z.2.2.1 27 0)), (1, .int (nI bf)), (2, .int (nI ct0)), (3, .int (nI x)), (4, .int (bI (dc (fsP n L c x y)))), (5, .int (nI y)), (6, .int od), (7, .int (bI (dc (alP n L c y x 0)))), (8, .int (nI 0))]) [3, 4, 5, 6, 7, 8, 2, 1, 0] (by rw [show dc (alP n L c y x 0) = false from dc_f (fun q => osg_ge hod c172 q.1)]; rfl) ?_
            refine l_X6_paint_185 (I := sK I 37 E) hA C hr (hv.of (I' := sK I 37 E) (by rw [sK_ne (by decide)]) (sK_ne (by decide)) (sK_ne (by decide))) (hc.of (I' := sK I 37 E) (sK_ne (by decide))) (show (sK I 37 E) 27 0 13 = nI m by rw [sK_ne (by decide)]; exact hm) hm18 hcm (thr_d (by omega) c158) ?_ (y + 1) 0 (by omega) (by omega)
            refine g_aldn C dX6_paint_230 rfl ?_
            refine g_get C 27 0 (by decide) (by decide) u6 rfl 12 rfl fX6_42 rfl rfl dX6_paint_231 ?_
            refine g_ildn C dX6_paint_234 rfl ?_
            refine g_dup2 C dX6_paint_235 rfl rfl ?_
            refine g_iald C 37 0 (by decide) (by decide) (fun _ _ => rfl) x (show x < 18 by omega) rfl dX6_paint_236 (v := (nI (ct (fun t => dc (thr n t ∧ slt n L c t x ∧ ∀ z, z < t → thr n z → slt n L c z t ∨ slt n L c t z)) y))) (by rw [sK_self]; exact hE (thr_d (by omega) c149)) ?_
            refine g_ild C dX6_paint_237 rfl ?_
            refine b_if_eq (tgt := 246) C dX6_paint_239 rfl (fun c239 => ?_) (fun c239 => ?_)
            · refine g_iconst C ((nI 0)) dX6_paint_246 (by decide) ?_
              refine g_iadd (v := (nI (ct (fun t => dc (thr n t ∧ slt n L c t x ∧ ∀ z, z < t → thr n z → slt n L c z t ∨ slt n L c t z)) y + 0))) C dX6_paint_247 (nI_add _ _) ?_
              refine g_iast C 37 0 (by decide) (by decide) (fun _ _ => rfl) x (show x < 18 by omega) rfl dX6_paint_248 ?_
              refine g_I (I1 := sK I 37 (up2 E 0 x (nI (ct (fun t => dc (thr n t ∧ slt n L c t x ∧ ∀ z, z < t → thr n z → slt n L c z t ∨ slt n L c t z)) y + 0)))) (by rw [sK_self, sK_sK]) ?_
              refine g_ild C dX6_paint_249 rfl ?_
              refine b_if_eq (tgt := 269) C dX6_paint_251 rfl (fun c251 => ?_) (fun c251 => ?_)
              · refine g_iconst C ((nI 0)) dX6_paint_269 (by decide) ?_
                refine g_ist (lv' := [(4, .int (nI 0)), (0, .ref (Z.2.2.1 27 0)), (1, .int (nI bf)), (2, .int (nI ct0)), (3, .int (nI x)), (5, .int (nI y)), (6, .int od), (7, .int (bI (dc (alP n L c y x y))))]) C dX6_paint_270 rfl rfl ?_
                refine g_iinc (lv' := [(5, .int (nI (y + 1))), (4, .int (nI 0)), (0, .ref (Z.2.2.1 27 0)), (1, .int (nI bf)), (2, .int (nI ct0)), (3, .int (nI x)), (6, .int od), (7, .int (bI (dc (alP n L c y x y))))]) C ((nI (y + 1))) dX6_paint_272 rfl (inc1 _) rfl rfl ?_
                refine g_goto (tgt := 137) C dX6_paint_275 rfl ?_
                refine g_lv (lv1 := [(0, .ref (Z.2.2.1 27 0)), (1, .int (nI bf)), (2, .int (nI ct0)), (3, .int (nI x)), (4, .int (bI (dc (fsP n L c x (y + 1))))), (5, .int (nI (y + 1)))]) [2, 3, 4, 5, 1, 0] (by rw [show dc (fsP n L c x (y + 1)) = false from dc_f (fun q => by first | exact absurd (dc_t.mpr (show fsP n L c x y from ⟨q.1, fun t ht => q.2 t (by omega)⟩)) (by rw [c251]; decide) | exact (q.2 y (by omega) (by omega) (thr_d (by omega) c158)).elim (osg_0 hod c262).1 (osg_0 hod c262).2)]; rfl) ?_
                exact ih (y + 1) _ (by omega) (by omega) (fun hx => by rw [up2_self]; exact congrArg nI (ct_f ((alP_rk (thr_d (by omega) c158)).trans c239)).symm) (fun r h => by rw [up2_ne h]; exact ho r h)
              · refine g_ild C dX6_paint_254 rfl ?_
                refine g_ildn C dX6_paint_256 rfl ?_
                refine n_icmp_ge (tgt := 265) C dX6_paint_257 rfl (by omega) (by omega) (fun c257 => ?_) (fun c257 => ?_)
                · refine g_iconst C ((nI 1)) dX6_paint_265 (by decide) ?_
                  refine g_goto (tgt := 270) C dX6_paint_266 rfl ?_
                  refine g_ist (lv' := [(4, .int (nI 1)), (0, .ref (Z.2.2.1 27 0)), (1, .int (nI bf)), (2, .int (nI ct0)), (3, .int (nI x)), (5, .int (nI y)), (6, .int od), (7, .int (bI (dc (alP n L c y x y))))]) C dX6_paint_270 rfl rfl ?_
                  refine g_iinc (lv' := [(5, .int (nI (y + 1))), (4, .int (nI 1)), (0, .ref (Z.2.2.1 27 0)), (1, .int (nI bf)), (2, .int (nI ct0)), (3, .int (nI x)), (6, .int od), (7, .int (bI (dc (alP n L c y x y))))]) C ((nI (y + 1))) dX6_paint_272 rfl (inc1 _) rfl rfl ?_
                  refine g_goto (tgt := 137) C dX6_paint_275 rfl ?_
                  refine g_lv (lv1 := [(0, .ref (Z.2.2.1 27 0)), (1, .int (nI bf)), (2, .int (nI ct0)), (3, .int (nI x)), (4, .int (bI (dc (fsP n L c x (y + 1))))), (5, .int (nI (y + 1)))]) [2, 3, 4, 5, 1, 0] (by rw [show dc (fsP n L c x (y + 1)) = true from dc_t.mpr ⟨thr_d (by omega) c149, fun t ht h2 hh => (Nat.lt_or_eq_of_le (Nat.le_of_lt_succ ht)).elim (fun z => (dc_t.mp c251).2 t z h2 hh) (fun e => by subst e; first | exact absurd h2 (by omega) | exact osg_n hod c262)⟩]; rfl) ?_
                  exact ih (y + 1) _ (by omega) (by omega) (fun hx => by rw [up2_self]; exact congrArg nI (ct_f ((alP_rk (thr_d (by omega) c158)).trans c239)).symm) (fun r h => by rw [up2_ne h]; exact ho r h)
                · refine g_ild C dX6_paint_260 rfl ?_
                  refine g_if_eq (tgt := 269) C dX6_paint_262 rfl (fun c262 => ?_) (fun c262 => ?_)
                  · refine g_iconst C ((nI 0)) dX6_paint_269 (by decide) ?_
                    refine g_ist (lv' := [(4, .int (nI 0)), (0, .ref (Z.2.2.1 27 0)), (1, .int (nI bf)), (2, .int (nI ct0)), (3, .int (nI x)), (5, .int (nI y)), (6, .int od), (7, .int (bI (dc (alP n L c y x y))))]) C dX6_paint_270 rfl rfl ?_
                    refine g_iinc (lv' := [(5, .int (nI (y + 1))), (4, .int (nI 0)), (0, .ref (Z.2.2.1 27 0)), (1, .int (nI bf)), (2, .int (nI ct0)), (3, .int (nI x)), (6, .int od), (7, .int (bI (dc (alP n L c y x y))))]) C ((nI (y + 1))) dX6_paint_272 rfl (inc1 _) rfl rfl ?_
                    refine g_goto (tgt := 137) C dX6_paint_275 rfl ?_
                    refine g_lv (lv1 := [(0, .ref (Z.2.2.1 27 0)), (1, .int (nI bf)), (2, .int (nI ct0)), (3, .int (nI x)), (4, .int (bI (dc (fsP n L c x (y + 1))))), (5, .int (nI (y + 1)))]) [2, 3, 4, 5, 1, 0] (by rw [show dc (fsP n L c x (y + 1)) = false from dc_f (fun q => by first | exact absurd (dc_t.mpr (show fsP n L c x y from ⟨q.1, fun t ht => q.2 t (by omega)⟩)) (by rw [c251]; decide) | exact (q.2 y (by omega) (by omega) (thr_d (by omega) c158)).elim (osg_0 hod c262).1 (osg_0 hod c262).2)]; rfl) ?_
                    exact ih (y + 1) _ (by omega) (by omega) (fun hx => by rw [up2_self]; exact congrArg nI (ct_f ((alP_rk (thr_d (by omega) c158)).trans c239)).symm) (fun r h => by rw [up2_ne h]; exact ho r h)
                  · refine g_iconst C ((nI 1)) dX6_paint_265 (by decide) ?_
                    refine g_goto (tgt := 270) C dX6_paint_266 rfl ?_
                    refine g_ist (lv' := [(4, .int (nI 1)), (0, .ref (Z.2.2.1 27 0)), (1, .int (nI bf)), (2, .int (nI ct0)), (3, .int (nI x)), (5, .int (nI y)), (6, .int od), (7, .int (bI (dc (alP n L c y x y))))]) C dX6_paint_270 rfl rfl ?_
                    refine g_iinc (lv' := [(5, .int (nI (y + 1))), (4, .int (nI 1)), (0, .ref (Z.2.2.1 27 0)), (1, .int (nI bf)), (2, .int (nI ct0)), (3, .int (nI x)), (6, .int od), (7, .int (bI (dc (alP n L c y x y))))]) C ((nI (y + 1))) dX6_paint_272 rfl (inc1 _) rfl rfl ?_
                    refine g_goto (tgt := 137) C dX6_paint_275 rfl ?_
                    refine g_lv (lv1 := [(0, .ref (Z.2.2.1 27 0)), (1, .int (nI bf)), (2, .int (nI ct0)), (3, .int (nI x)), (4, .int (bI (dc (fsP n L c x (y + 1))))), (5, .int (nI (y + 1)))]) [2, 3, 4, 5, 1, 0] (by rw [show dc (fsP n L c x (y + 1)) = true from dc_t.mpr ⟨thr_d (by omega) c149, fun t ht h2 hh => (Nat.lt_or_eq_of_le (Nat.le_of_lt_succ ht)).elim (fun z => (dc_t.mp c251).2 t z h2 hh) (fun e => by subst e; first | exact absurd h2 (by omega) | exact osg_n hod c262)⟩]; rfl) ?_
                    exact ih (y + 1) _ (by omega) (by omega) (fun hx => by rw [up2_self]; exact congrArg nI (ct_f ((alP_rk (thr_d (by omega) c158)).trans c239)).symm) (fun r h => by rw [up2_ne h]; exact ho r h)
            · refine g_iconst C ((nI 1)) dX6_paint_242 (by decide) ?_
              refine g_goto (tgt := 247) C dX6_paint_243 rfl ?_
              refine g_iadd (v := (nI (ct (fun t => dc (thr n t ∧ slt n L c t x ∧ ∀ z, z < t → thr n z → slt n L c z t ∨ slt n L c t z)) y + 1))) C dX6_paint_247 (nI_add _ _) ?_
              refine g_iast C 37 0 (by decide) (by decide) (fun _ _ => rfl) x (show x < 18 by omega) rfl dX6_paint_248 ?_
              refine g_I (I1 := sK I 37 (up2 E 0 x (nI (ct (fun t => dc (thr n t ∧ slt n L c t x ∧ ∀ z, z < t → thr n z → slt n L c z t ∨ slt n L c t z)) y + 1)))) (by rw [sK_self, sK_sK]) ?_
              refine g_ild C dX6_paint_249 rfl ?_
              refine b_if_eq (tgt := 269) C dX6_paint_251 rfl (fun c251 => ?_) (fun c251 => ?_)
              · refine g_iconst C ((nI 0)) dX6_paint_269 (by decide) ?_
                refine g_ist (lv' := [(4, .int (nI 0)), (0, .ref (Z.2.2.1 27 0)), (1, .int (nI bf)), (2, .int (nI ct0)), (3, .int (nI x)), (5, .int (nI y)), (6, .int od), (7, .int (bI (dc (alP n L c y x y))))]) C dX6_paint_270 rfl rfl ?_
                refine g_iinc (lv' := [(5, .int (nI (y + 1))), (4, .int (nI 0)), (0, .ref (Z.2.2.1 27 0)), (1, .int (nI bf)), (2, .int (nI ct0)), (3, .int (nI x)), (6, .int od), (7, .int (bI (dc (alP n L c y x y))))]) C ((nI (y + 1))) dX6_paint_272 rfl (inc1 _) rfl rfl ?_
                refine g_goto (tgt := 137) C dX6_paint_275 rfl ?_
                refine g_lv (lv1 := [(0, .ref (Z.2.2.1 27 0)), (1, .int (nI bf)), (2, .int (nI ct0)), (3, .int (nI x)), (4, .int (bI (dc (fsP n L c x (y + 1))))), (5, .int (nI (y + 1)))]) [2, 3, 4, 5, 1, 0] (by rw [show dc (fsP n L c x (y + 1)) = false from dc_f (fun q => by first | exact absurd (dc_t.mpr (show fsP n L c x y from ⟨q.1, fun t ht => q.2 t (by omega)⟩)) (by rw [c251]; decide) | exact (q.2 y (by omega) (by omega) (thr_d (by omega) c158)).elim (osg_0 hod c262).1 (osg_0 hod c262).2)]; rfl) ?_
                exact ih (y + 1) _ (by omega) (by omega) (fun hx => by rw [up2_self]; exact congrArg nI (ct_t ((alP_rk (thr_d (by omega) c158)).trans c239)).symm) (fun r h => by rw [up2_ne h]; exact ho r h)
              · refine g_ild C dX6_paint_254 rfl ?_
                refine g_ildn C dX6_paint_256 rfl ?_
                refine n_icmp_ge (tgt := 265) C dX6_paint_257 rfl (by omega) (by omega) (fun c257 => ?_) (fun c257 => ?_)
                · refine g_iconst C ((nI 1)) dX6_paint_265 (by decide) ?_
                  refine g_goto (tgt := 270) C dX6_paint_266 rfl ?_
                  refine g_ist (lv' := [(4, .int (nI 1)), (0, .ref (Z.2.2.1 27 0)), (1, .int (nI bf)), (2, .int (nI ct0)), (3, .int (nI x)), (5, .int (nI y)), (6, .int od), (7, .int (bI (dc (alP n L c y x y))))]) C dX6_paint_270 rfl rfl ?_
                  refine g_iinc (lv' := [(5, .int (nI (y + 1))), (4, .int (nI 1)), (0, .ref (Z.2.2.1 27 0)), (1, .int (nI bf)), (2, .int (nI ct0)), (3, .int (nI x)), (6, .int od), (7, .int (bI (dc (alP n L c y x y))))]) C ((nI (y + 1))) dX6_paint_272 rfl (inc1 _) rfl rfl ?_
                  refine g_goto (tgt := 137) C dX6_paint_275 rfl ?_
                  refine g_lv (lv1 := [(0, .ref (Z.2.2.1 27 0)), (1, .int (nI bf)), (2, .int (nI ct0)), (3, .int (nI x)), (4, .int (bI (dc (fsP n L c x (y + 1))))), (5, .int (nI (y + 1)))]) [2, 3, 4, 5, 1, 0] (by rw [show dc (fsP n L c x (y + 1)) = true from dc_t.mpr ⟨thr_d (by omega) c149, fun t ht h2 hh => (Nat.lt_or_eq_of_le (Nat.le_of_lt_succ ht)).elim (fun z => (dc_t.mp c251).2 t z h2 hh) (fun e => by subst e; first | exact absurd h2 (by omega) | exact osg_n hod c262)⟩]; rfl) ?_
                  exact ih (y + 1) _ (by omega) (by omega) (fun hx => by rw [up2_self]; exact congrArg nI (ct_t ((alP_rk (thr_d (by omega) c158)).trans c239)).symm) (fun r h => by rw [up2_ne h]; exact ho r h)
                · refine g_ild C dX6_paint_260 rfl ?_
                  refine g_if_eq (tgt := 269) C dX6_paint_262 rfl (fun c262 => ?_) (fun c262 => ?_)
                  · refine g_iconst C ((nI 0)) dX6_paint_269 (by decide) ?_
                    refine g_ist (lv' := [(4, .int (nI 0)), (0, .ref (Z.2.2.1 27 0)), (1, .int (nI bf)), (2, .int (nI ct0)), (3, .int (nI x)), (5, .int (nI y)), (6, .int od), (7, .int (bI (dc (alP n L c y x y))))]) C dX6_paint_270 rfl rfl ?_
                    refine g_iinc (lv' := [(5, .int (nI (y + 1))), (4, .int (nI 0)), (0, .ref (Z.2.2.1 27 0)), (1, .int (nI bf)), (2, .int (nI ct0)), (3, .int (nI x)), (6, .int od), (7, .int (bI (dc (alP n L c y x y))))]) C ((nI (y + 1))) dX6_paint_272 rfl (inc1 _) rfl rfl ?_
                    refine g_goto (tgt := 137) C dX6_paint_275 rfl ?_
                    refine g_lv (lv1 := [(0, .ref (Z.2.2.1 27 0)), (1, .int (nI bf)), (2, .int (nI ct0)), (3, .int (nI x)), (4, .int (bI (dc (fsP n L c x (y + 1))))), (5, .int (nI (y + 1)))]) [2, 3, 4, 5, 1, 0] (by rw [show dc (fsP n L c x (y + 1)) = false from dc_f (fun q => by first | exact absurd (dc_t.mpr (show fsP n L c x y from ⟨q.1, fun t ht => q.2 t (by omega)⟩)) (by rw [c251]; decide) | exact (q.2 y (by omega) (by omega) (thr_d (by omega) c158)).elim (osg_0 hod c262).1 (osg_0 hod c262).2)]; rfl) ?_
                    exact ih (y + 1) _ (by omega) (by omega) (fun hx => by rw [up2_self]; exact congrArg nI (ct_t ((alP_rk (thr_d (by omega) c158)).trans c239)).symm) (fun r h => by rw [up2_ne h]; exact ho r h)
                  · refine g_iconst C ((nI 1)) dX6_paint_265 (by decide) ?_
                    refine g_goto (tgt := 270) C dX6_paint_266 rfl ?_
                    refine g_ist (lv' := [(4, .int (nI 1)), (0, .ref (Z.2.2.1 27 0)), (1, .int (nI bf)), (2, .int (nI ct0)), (3, .int (nI x)), (5, .int (nI y)), (6, .int od), (7, .int (bI (dc (alP n L c y x y))))]) C dX6_paint_270 rfl rfl ?_
                    refine g_iinc (lv' := [(5, .int (nI (y + 1))), (4, .int (nI 1)), (0, .ref (Z.2.2.1 27 0)), (1, .int (nI bf)), (2, .int (nI ct0)), (3, .int (nI x)), (6, .int od), (7, .int (bI (dc (alP n L c y x y))))]) C ((nI (y + 1))) dX6_paint_272 rfl (inc1 _) rfl rfl ?_
                    refine g_goto (tgt := 137) C dX6_paint_275 rfl ?_
                    refine g_lv (lv1 := [(0, .ref (Z.2.2.1 27 0)), (1, .int (nI bf)), (2, .int (nI ct0)), (3, .int (nI x)), (4, .int (bI (dc (fsP n L c x (y + 1))))), (5, .int (nI (y + 1)))]) [2, 3, 4, 5, 1, 0] (by rw [show dc (fsP n L c x (y + 1)) = true from dc_t.mpr ⟨thr_d (by omega) c149, fun t ht h2 hh => (Nat.lt_or_eq_of_le (Nat.le_of_lt_succ ht)).elim (fun z => (dc_t.mp c251).2 t z h2 hh) (fun e => by subst e; first | exact absurd h2 (by omega) | exact osg_n hod c262)⟩]; rfl) ?_
                    exact ih (y + 1) _ (by omega) (by omega) (fun hx => by rw [up2_self]; exact congrArg nI (ct_t ((alP_rk (thr_d (by omega) c158)).trans c239)).symm) (fun r h => by rw [up2_ne h]; exact ho r h)
          · refine g_iconst C ((nI 1)) dX6_paint_175 (by decide) ?_
            refine g_goto (tgt := 180) C dX6_paint_176 rfl ?_
            refine g_ist (lv' := [(7, .int (nI 1)), (6, .int od), (0, .ref (Z.2.2.1 27 0)), (1, .int (nI bf)), (2, .int (nI ct0)), (3, .int (nI x)), (4, .int (bI (dc (fsP n L c x y)))), (5, .int (nI y))]) C dX6_paint_180 rfl rfl ?_
            refine g_iconst C ((nI 0)) dX6_paint_182 (by decide) ?_
            refine g_ist (lv' := [(8, .int (nI 0)), (7, .int (nI 1)), (6, .int od), (0, .ref (Z.2.2.1 27 0)), (1, .int (nI bf)), (2, .int (nI ct0)), (3, .int (nI x)), (4, .int (bI (dc (fsP n L c x y)))), (5, .int (nI y))]) C dX6_paint_183 rfl rfl ?_
            refine g_lv (lv1 := [(0, .ref (Z.2.2.1 27 0)), (1, .int (nI bf)), (2, .int (nI ct0)), (3, .int (nI x)), (4, .int (bI (dc (fsP n L c x y)))), (5, .int (nI y)), (6, .int od), (7, .int (bI (dc (alP n L c y x 0)))), (8, .int (nI 0))]) [3, 4, 5, 6, 7, 8, 2, 1, 0] (by rw [show dc (alP n L c y x 0) = true from dc_t.mpr ⟨osg_lt hod c172, fun t ht => absurd ht (Nat.not_lt_zero t)⟩]; rfl) ?_
            refine l_X6_paint_185 (I := sK I 37 E) hA C hr (hv.of (I' := sK I 37 E) (by rw [sK_ne (by decide)]) (sK_ne (by decide)) (sK_ne (by decide))) (hc.of (I' := sK I 37 E) (sK_ne (by decide))) (show (sK I 37 E) 27 0 13 = nI m by rw [sK_ne (by decide)]; exact hm) hm18 hcm (thr_d (by omega) c158) ?_ (y + 1) 0 (by omega) (by omega)
            refine g_aldn C dX6_paint_230 rfl ?_
            refine g_get C 27 0 (by decide) (by decide) u6 rfl 12 rfl fX6_42 rfl rfl dX6_paint_231 ?_
            refine g_ildn C dX6_paint_234 rfl ?_
            refine g_dup2 C dX6_paint_235 rfl rfl ?_
            refine g_iald C 37 0 (by decide) (by decide) (fun _ _ => rfl) x (show x < 18 by omega) rfl dX6_paint_236 (v := (nI (ct (fun t => dc (thr n t ∧ slt n L c t x ∧ ∀ z, z < t → thr n z → slt n L c z t ∨ slt n L c t z)) y))) (by rw [sK_self]; exact hE (thr_d (by omega) c149)) ?_
            refine g_ild C dX6_paint_237 rfl ?_
            refine b_if_eq (tgt := 246) C dX6_paint_239 rfl (fun c239 => ?_) (fun c239 => ?_)
            · refine g_iconst C ((nI 0)) dX6_paint_246 (by decide) ?_
              refine g_iadd (v := (nI (ct (fun t => dc (thr n t ∧ slt n L c t x ∧ ∀ z, z < t → thr n z → slt n L c z t ∨ slt n L c t z)) y + 0))) C dX6_paint_247 (nI_add _ _) ?_
              refine g_iast C 37 0 (by decide) (by decide) (fun _ _ => rfl) x (show x < 18 by omega) rfl dX6_paint_248 ?_
              refine g_I (I1 := sK I 37 (up2 E 0 x (nI (ct (fun t => dc (thr n t ∧ slt n L c t x ∧ ∀ z, z < t → thr n z → slt n L c z t ∨ slt n L c t z)) y + 0)))) (by rw [sK_self, sK_sK]) ?_
              refine g_ild C dX6_paint_249 rfl ?_
              refine b_if_eq (tgt := 269) C dX6_paint_251 rfl (fun c251 => ?_) (fun c251 => ?_)
              · refine g_iconst C ((nI 0)) dX6_paint_269 (by decide) ?_
                refine g_ist (lv' := [(4, .int (nI 0)), (0, .ref (Z.2.2.1 27 0)), (1, .int (nI bf)), (2, .int (nI ct0)), (3, .int (nI x)), (5, .int (nI y)), (6, .int od), (7, .int (bI (dc (alP n L c y x y))))]) C dX6_paint_270 rfl rfl ?_
                refine g_iinc (lv' := [(5, .int (nI (y + 1))), (4, .int (nI 0)), (0, .ref (Z.2.2.1 27 0)), (1, .int (nI bf)), (2, .int (nI ct0)), (3, .int (nI x)), (6, .int od), (7, .int (bI (dc (alP n L c y x y))))]) C ((nI (y + 1))) dX6_paint_272 rfl (inc1 _) rfl rfl ?_
                refine g_goto (tgt := 137) C dX6_paint_275 rfl ?_
                refine g_lv (lv1 := [(0, .ref (Z.2.2.1 27 0)), (1, .int (nI bf)), (2, .int (nI ct0)), (3, .int (nI x)), (4, .int (bI (dc (fsP n L c x (y + 1))))), (5, .int (nI (y + 1)))]) [2, 3, 4, 5, 1, 0] (by rw [show dc (fsP n L c x (y + 1)) = false from dc_f (fun q => by first | exact absurd (dc_t.mpr (show fsP n L c x y from ⟨q.1, fun t ht => q.2 t (by omega)⟩)) (by rw [c251]; decide) | exact (q.2 y (by omega) (by omega) (thr_d (by omega) c158)).elim (osg_0 hod c262).1 (osg_0 hod c262).2)]; rfl) ?_
                exact ih (y + 1) _ (by omega) (by omega) (fun hx => by rw [up2_self]; exact congrArg nI (ct_f ((alP_rk (thr_d (by omega) c158)).trans c239)).symm) (fun r h => by rw [up2_ne h]; exact ho r h)
              · refine g_ild C dX6_paint_254 rfl ?_
                refine g_ildn C dX6_paint_256 rfl ?_
                refine n_icmp_ge (tgt := 265) C dX6_paint_257 rfl (by omega) (by omega) (fun c257 => ?_) (fun c257 => ?_)
                · refine g_iconst C ((nI 1)) dX6_paint_265 (by decide) ?_
                  refine g_goto (tgt := 270) C dX6_paint_266 rfl ?_
                  refine g_ist (lv' := [(4, .int (nI 1)), (0, .ref (Z.2.2.1 27 0)), (1, .int (nI bf)), (2, .int (nI ct0)), (3, .int (nI x)), (5, .int (nI y)), (6, .int od), (7, .int (bI (dc (alP n L c y x y))))]) C dX6_paint_270 rfl rfl ?_
                  refine g_iinc (lv' := [(5, .int (nI (y + 1))), (4, .int (nI 1)), (0, .ref (Z.2.2.1 27 0)), (1, .int (nI bf)), (2, .int (nI ct0)), (3, .int (nI x)), (6, .int od), (7, .int (bI (dc (alP n L c y x y))))]) C ((nI (y + 1))) dX6_paint_272 rfl (inc1 _) rfl rfl ?_
                  refine g_goto (tgt := 137) C dX6_paint_275 rfl ?_
                  refine g_lv (lv1 := [(0, .ref (Z.2.2.1 27 0)), (1, .int (nI bf)), (2, .int (nI ct0)), (3, .int (nI x)), (4, .int (bI (dc (fsP n L c x (y + 1))))), (5, .int (nI (y + 1)))]) [2, 3, 4, 5, 1, 0] (by rw [show dc (fsP n L c x (y + 1)) = true from dc_t.mpr ⟨thr_d (by omega) c149, fun t ht h2 hh => (Nat.lt_or_eq_of_le (Nat.le_of_lt_succ ht)).elim (fun z => (dc_t.mp c251).2 t z h2 hh) (fun e => by subst e; first | exact absurd h2 (by omega) | exact osg_n hod c262)⟩]; rfl) ?_
                  exact ih (y + 1) _ (by omega) (by omega) (fun hx => by rw [up2_self]; exact congrArg nI (ct_f ((alP_rk (thr_d (by omega) c158)).trans c239)).symm) (fun r h => by rw [up2_ne h]; exact ho r h)
                · refine g_ild C dX6_paint_260 rfl ?_
                  refine g_if_eq (tgt := 269) C dX6_paint_262 rfl (fun c262 => ?_) (fun c262 => ?_)
                  · refine g_iconst C ((nI 0)) dX6_paint_269 (by decide) ?_
                    refine g_ist (lv' := [(4, .int (nI 0)), (0, .ref (Z.2.2.1 27 0)), (1, .int (nI bf)), (2, .int (nI ct0)), (3, .int (nI x)), (5, .int (nI y)), (6, .int od), (7, .int (bI (dc (alP n L c y x y))))]) C dX6_paint_270 rfl rfl ?_
                    refine g_iinc (lv' := [(5, .int (nI (y + 1))), (4, .int (nI 0)), (0, .ref (Z.2.2.1 27 0)), (1, .int (nI bf)), (2, .int (nI ct0)), (3, .int (nI x)), (6, .int od), (7, .int (bI (dc (alP n L c y x y))))]) C ((nI (y + 1))) dX6_paint_272 rfl (inc1 _) rfl rfl ?_
                    refine g_goto (tgt := 137) C dX6_paint_275 rfl ?_
                    refine g_lv (lv1 := [(0, .ref (Z.2.2.1 27 0)), (1, .int (nI bf)), (2, .int (nI ct0)), (3, .int (nI x)), (4, .int (bI (dc (fsP n L c x (y + 1))))), (5, .int (nI (y + 1)))]) [2, 3, 4, 5, 1, 0] (by rw [show dc (fsP n L c x (y + 1)) = false from dc_f (fun q => by first | exact absurd (dc_t.mpr (show fsP n L c x y from ⟨q.1, fun t ht => q.2 t (by omega)⟩)) (by rw [c251]; decide) | exact (q.2 y (by omega) (by omega) (thr_d (by omega) c158)).elim (osg_0 hod c262).1 (osg_0 hod c262).2)]; rfl) ?_
                    exact ih (y + 1) _ (by omega) (by omega) (fun hx => by rw [up2_self]; exact congrArg nI (ct_f ((alP_rk (thr_d (by omega) c158)).trans c239)).symm) (fun r h => by rw [up2_ne h]; exact ho r h)
                  · refine g_iconst C ((nI 1)) dX6_paint_265 (by decide) ?_
                    refine g_goto (tgt := 270) C dX6_paint_266 rfl ?_
                    refine g_ist (lv' := [(4, .int (nI 1)), (0, .ref (Z.2.2.1 27 0)), (1, .int (nI bf)), (2, .int (nI ct0)), (3, .int (nI x)), (5, .int (nI y)), (6, .int od), (7, .int (bI (dc (alP n L c y x y))))]) C dX6_paint_270 rfl rfl ?_
                    refine g_iinc (lv' := [(5, .int (nI (y + 1))), (4, .int (nI 1)), (0, .ref (Z.2.2.1 27 0)), (1, .int (nI bf)), (2, .int (nI ct0)), (3, .int (nI x)), (6, .int od), (7, .int (bI (dc (alP n L c y x y))))]) C ((nI (y + 1))) dX6_paint_272 rfl (inc1 _) rfl rfl ?_
                    refine g_goto (tgt := 137) C dX6_paint_275 rfl ?_
                    refine g_lv (lv1 := [(0, .ref (Z.2.2.1 27 0)), (1, .int (nI bf)), (2, .int (nI ct0)), (3, .int (nI x)), (4, .int (bI (dc (fsP n L c x (y + 1))))), (5, .int (nI (y + 1)))]) [2, 3, 4, 5, 1, 0] (by rw [show dc (fsP n L c x (y + 1)) = true from dc_t.mpr ⟨thr_d (by omega) c149, fun t ht h2 hh => (Nat.lt_or_eq_of_le (Nat.le_of_lt_succ ht)).elim (fun z => (dc_t.mp c251).2 t z h2 hh) (fun e => by subst e; first | exact absurd h2 (by omega) | exact osg_n hod c262)⟩]; rfl) ?_
                    exact ih (y + 1) _ (by omega) (by omega) (fun hx => by rw [up2_self]; exact congrArg nI (ct_f ((alP_rk (thr_d (by omega) c158)).trans c239)).symm) (fun r h => by rw [up2_ne h]; exact ho r h)
            · refine g_iconst C ((nI 1)) dX6_paint_242 (by decide) ?_
              refine g_goto (tgt := 247) C dX6_paint_243 rfl ?_
              refine g_iadd (v := (nI (ct (fun t => dc (thr n t ∧ slt n L c t x ∧ ∀ z, z < t → thr n z → slt n L c z t ∨ slt n L c t z)) y + 1))) C dX6_paint_247 (nI_add _ _) ?_
              refine g_iast C 37 0 (by decide) (by decide) (fun _ _ => rfl) x (show x < 18 by omega) rfl dX6_paint_248 ?_
              refine g_I (I1 := sK I 37 (up2 E 0 x (nI (ct (fun t => dc (thr n t ∧ slt n L c t x ∧ ∀ z, z < t → thr n z → slt n L c z t ∨ slt n L c t z)) y + 1)))) (by rw [sK_self, sK_sK]) ?_
              refine g_ild C dX6_paint_249 rfl ?_
              refine b_if_eq (tgt := 269) C dX6_paint_251 rfl (fun c251 => ?_) (fun c251 => ?_)
              · refine g_iconst C ((nI 0)) dX6_paint_269 (by decide) ?_
                refine g_ist (lv' := [(4, .int (nI 0)), (0, .ref (Z.2.2.1 27 0)), (1, .int (nI bf)), (2, .int (nI ct0)), (3, .int (nI x)), (5, .int (nI y)), (6, .int od), (7, .int (bI (dc (alP n L c y x y))))]) C dX6_paint_270 rfl rfl ?_
                refine g_iinc (lv' := [(5, .int (nI (y + 1))), (4, .int (nI 0)), (0, .ref (Z.2.2.1 27 0)), (1, .int (nI bf)), (2, .int (nI ct0)), (3, .int (nI x)), (6, .int od), (7, .int (bI (dc (alP n L c y x y))))]) C ((nI (y + 1))) dX6_paint_272 rfl (inc1 _) rfl rfl ?_
                refine g_goto (tgt := 137) C dX6_paint_275 rfl ?_
                refine g_lv (lv1 := [(0, .ref (Z.2.2.1 27 0)), (1, .int (nI bf)), (2, .int (nI ct0)), (3, .int (nI x)), (4, .int (bI (dc (fsP n L c x (y + 1))))), (5, .int (nI (y + 1)))]) [2, 3, 4, 5, 1, 0] (by rw [show dc (fsP n L c x (y + 1)) = false from dc_f (fun q => by first | exact absurd (dc_t.mpr (show fsP n L c x y from ⟨q.1, fun t ht => q.2 t (by omega)⟩)) (by rw [c251]; decide) | exact (q.2 y (by omega) (by omega) (thr_d (by omega) c158)).elim (osg_0 hod c262).1 (osg_0 hod c262).2)]; rfl) ?_
                exact ih (y + 1) _ (by omega) (by omega) (fun hx => by rw [up2_self]; exact congrArg nI (ct_t ((alP_rk (thr_d (by omega) c158)).trans c239)).symm) (fun r h => by rw [up2_ne h]; exact ho r h)
              · refine g_ild C dX6_paint_254 rfl ?_
                refine g_ildn C dX6_paint_256 rfl ?_
                refine n_icmp_ge (tgt := 265) C dX6_paint_257 rfl (by omega) (by omega) (fun c257 => ?_) (fun c257 => ?_)
                · refine g_iconst C ((nI 1)) dX6_paint_265 (by decide) ?_
                  refine g_goto (tgt := 270) C dX6_paint_266 rfl ?_
                  refine g_ist (lv' := [(4, .int (nI 1)), (0, .ref (Z.2.2.1 27 0)), (1, .int (nI bf)), (2, .int (nI ct0)), (3, .int (nI x)), (5, .int (nI y)), (6, .int od), (7, .int (bI (dc (alP n L c y x y))))]) C dX6_paint_270 rfl rfl ?_
                  refine g_iinc (lv' := [(5, .int (nI (y + 1))), (4, .int (nI 1)), (0, .ref (Z.2.2.1 27 0)), (1, .int (nI bf)), (2, .int (nI ct0)), (3, .int (nI x)), (6, .int od), (7, .int (bI (dc (alP n L c y x y))))]) C ((nI (y + 1))) dX6_paint_272 rfl (inc1 _) rfl rfl ?_
                  refine g_goto (tgt := 137) C dX6_paint_275 rfl ?_
                  refine g_lv (lv1 := [(0, .ref (Z.2.2.1 27 0)), (1, .int (nI bf)), (2, .int (nI ct0)), (3, .int (nI x)), (4, .int (bI (dc (fsP n L c x (y + 1))))), (5, .int (nI (y + 1)))]) [2, 3, 4, 5, 1, 0] (by rw [show dc (fsP n L c x (y + 1)) = true from dc_t.mpr ⟨thr_d (by omega) c149, fun t ht h2 hh => (Nat.lt_or_eq_of_le (Nat.le_of_lt_succ ht)).elim (fun z => (dc_t.mp c251).2 t z h2 hh) (fun e => by subst e; first | exact absurd h2 (by omega) | exact osg_n hod c262)⟩]; rfl) ?_
                  exact ih (y + 1) _ (by omega) (by omega) (fun hx => by rw [up2_self]; exact congrArg nI (ct_t ((alP_rk (thr_d (by omega) c158)).trans c239)).symm) (fun r h => by rw [up2_ne h]; exact ho r h)
                · refine g_ild C dX6_paint_260 rfl ?_
                  refine g_if_eq (tgt := 269) C dX6_paint_262 rfl (fun c262 => ?_) (fun c262 => ?_)
                  · refine g_iconst C ((nI 0)) dX6_paint_269 (by decide) ?_
                    refine g_ist (lv' := [(4, .int (nI 0)), (0, .ref (Z.2.2.1 27 0)), (1, .int (nI bf)), (2, .int (nI ct0)), (3, .int (nI x)), (5, .int (nI y)), (6, .int od), (7, .int (bI (dc (alP n L c y x y))))]) C dX6_paint_270 rfl rfl ?_
                    refine g_iinc (lv' := [(5, .int (nI (y + 1))), (4, .int (nI 0)), (0, .ref (Z.2.2.1 27 0)), (1, .int (nI bf)), (2, .int (nI ct0)), (3, .int (nI x)), (6, .int od), (7, .int (bI (dc (alP n L c y x y))))]) C ((nI (y + 1))) dX6_paint_272 rfl (inc1 _) rfl rfl ?_
                    refine g_goto (tgt := 137) C dX6_paint_275 rfl ?_
                    refine g_lv (lv1 := [(0, .ref (Z.2.2.1 27 0)), (1, .int (nI bf)), (2, .int (nI ct0)), (3, .int (nI x)), (4, .int (bI (dc (fsP n L c x (y + 1))))), (5, .int (nI (y + 1)))]) [2, 3, 4, 5, 1, 0] (by rw [show dc (fsP n L c x (y + 1)) = false from dc_f (fun q => by first | exact absurd (dc_t.mpr (show fsP n L c x y from ⟨q.1, fun t ht => q.2 t (by omega)⟩)) (by rw [c251]; decide) | exact (q.2 y (by omega) (by omega) (thr_d (by omega) c158)).elim (osg_0 hod c262).1 (osg_0 hod c262).2)]; rfl) ?_
                    exact ih (y + 1) _ (by omega) (by omega) (fun hx => by rw [up2_self]; exact congrArg nI (ct_t ((alP_rk (thr_d (by omega) c158)).trans c239)).symm) (fun r h => by rw [up2_ne h]; exact ho r h)
                  · refine g_iconst C ((nI 1)) dX6_paint_265 (by decide) ?_
                    refine g_goto (tgt := 270) C dX6_paint_266 rfl ?_
                    refine g_ist (lv' := [(4, .int (nI 1)), (0, .ref (Z.2.2.1 27 0)), (1, .int (nI bf)), (2, .int (nI ct0)), (3, .int (nI x)), (5, .int (nI y)), (6, .int od), (7, .int (bI (dc (alP n L c y x y))))]) C dX6_paint_270 rfl rfl ?_
                    refine g_iinc (lv' := [(5, .int (nI (y + 1))), (4, .int (nI 1)), (0, .ref (Z.2.2.1 27 0)), (1, .int (nI bf)), (2, .int (nI ct0)), (3, .int (nI x)), (6, .int od), (7, .int (bI (dc (alP n L c y x y))))]) C ((nI (y + 1))) dX6_paint_272 rfl (inc1 _) rfl rfl ?_
                    refine g_goto (tgt := 137) C dX6_paint_275 rfl ?_
                    refine g_lv (lv1 := [(0, .ref (Z.2.2.1 27 0)), (1, .int (nI bf)), (2, .int (nI ct0)), (3, .int (nI x)), (4, .int (bI (dc (fsP n L c x (y + 1))))), (5, .int (nI (y + 1)))]) [2, 3, 4, 5, 1, 0] (by rw [show dc (fsP n L c x (y + 1)) = true from dc_t.mpr ⟨thr_d (by omega) c149, fun t ht h2 hh => (Nat.lt_or_eq_of_le (Nat.le_of_lt_succ ht)).elim (fun z => (dc_t.mp c251).2 t z h2 hh) (fun e => by subst e; first | exact absurd h2 (by omega) | exact osg_n hod c262)⟩]; rfl) ?_
                    exact ih (y + 1) _ (by omega) (by omega) (fun hx => by rw [up2_self]; exact congrArg nI (ct_t ((alP_rk (thr_d (by omega) c158)).trans c239)).symm) (fun r h => by rw [up2_ne h]; exact ho r h)

theorem fsP_cn {n : Nat} {L : Nat → Nat → Nat → Nat} {c : Nat → Nat} {x : Nat} (hx : x < 18) : dc (thr n x ∧ ∀ z, z < x → thr n z → slt n L c z x ∨ slt n L c x z) = dc (fsP n L c x 18) := dc_congr ⟨fun q => ⟨q.1, fun t _ h2 hh => q.2 t h2 hh⟩, fun q => ⟨q.1, fun z hz hh => q.2 z (by omega) hz hh⟩⟩
set_option maxRecDepth 100000 in
set_option maxHeartbeats 4000000 in
theorem l_X6_paint_114 {X : Pk} {Z : Zk} {Q : State → Prop} {I : SI} {J : SJ} (hA : AJ Z.2.2.1) (C : Cx X cX6_paint 9 RX6 Z 3 130) (hr : (xE X).sig.returnType = none) {n : Nat} {T : Nat → Nat → Nat} {L : Nat → Nat → Nat → Nat} (hv : MV I n T L) {c : Nat → Nat} (hc : MC I n c) {m : Nat} (hm : I 27 0 13 = nI m) (hm18 : m ≤ 18) (hcm : ∀ s, thr n s → c s < m) {bf : Nat} (hex : ∀ E, (∀ r, r < 18 → thr n r → E 0 r = nI (RK n (slt n L c) r)) → G X 9 Z Q (sK I 37 E) J 297 [(0, .ref (Z.2.2.1 27 0)), (1, .int (nI bf)), (2, .int (nI (ct (fun y => dc (thr n y ∧ ∀ z, z < y → thr n z → slt n L c z y ∨ slt n L c y z)) 18))), (3, .int (nI 18))] []) : ∀ (k : Nat) (x : Nat) (E : Nat → Nat → Int32), 18 - x < k → (x ≤ 18) → (∀ r, r < x → thr n r → E 0 r = nI (RK n (slt n L c) r)) → G X 9 Z (Q) (sK I 37 E) (J) 114 [(0, .ref (Z.2.2.1 27 0)), (1, .int (nI bf)), (2, .int (nI (ct (fun y => dc (thr n y ∧ ∀ z, z < y → thr n z → slt n L c z y ∨ slt n L c y z)) x))), (3, .int (nI x))] [] := by
  obtain ⟨⟨hn1, hn9⟩, -⟩ := id hv
  intro k
  induction k with
  | zero => intro x E h; exact absurd h (by omega)
  | succ k ih =>
    intro x E hk hx hE
    have hct := ct_le (fun y => dc (thr n y ∧ ∀ z, z < y → thr n z → slt n L c z y ∨ slt n L c y z)) x
    refine g_ildn C dX6_paint_114 rfl ?_
    refine g_bipush C ((nI 18)) dX6_paint_115 (by decide) ?_
    refine n_icmp_ge (tgt := 297) C dX6_paint_117 rfl (by omega) (by omega) (fun c117 => ?_) (fun c117 => ?_)
    · have e : x = 18 := by omega
      subst e
      refine g_lv [0, 1, 2, 3] rfl ?_
      exact hex E hE
    · refine g_aldn C dX6_paint_120 rfl ?_
      refine g_get C 27 0 (by decide) (by decide) u6 rfl 12 rfl fX6_42 rfl rfl dX6_paint_121 ?_
      refine g_ildn C dX6_paint_124 rfl ?_
      refine g_iconst C ((nI 0)) dX6_paint_125 (by decide) ?_
      refine g_iast C 37 0 (by decide) (by decide) (fun _ _ => rfl) x (show x < 18 by omega) rfl dX6_paint_126 ?_
      refine g_I (I1 := sK I 37 (up2 E 0 x (nI 0))) (by rw [sK_self, sK_sK]) ?_
      refine g_aldn C dX6_paint_127 rfl ?_
      refine g_ildn C dX6_paint_128 rfl ?_
      refine g_callV (As := [.int (nI x)]) (st := []) C (c_X6_isThere hA (hv.of (I' := sK I 37 (up2 E 0 x (nI 0))) (by rw [sK_ne (by decide)]) (sK_ne (by decide)) (sK_ne (by decide))) (x := x) (by omega)) wX6_isThere iX6_isThere sX6_isThere mX6_76 27 0 (by decide) (by decide) rfl rfl rfl rfl rfl rfl rfl rfl dX6_paint_129 ?_
      rintro v9 I9 J9 ⟨h91, h92, h93⟩
      rw [h91, h92, h93]
      clear h91 h92 h93 v9 I9 J9
      show G X _ Z _ (sK I 37 (up2 E 0 x (nI 0))) J 132 [(0, .ref (Z.2.2.1 27 0)), (1, .int (nI bf)), (2, .int (nI (ct (fun y => dc (thr n y ∧ ∀ z, z < y → thr n z → slt n L c z y ∨ slt n L c y z)) x))), (3, .int (nI x))] [.int (bI (decide (x % 9 < n)))]
      refine g_ist (lv' := [(4, .int (bI (decide (x % 9 < n)))), (0, .ref (Z.2.2.1 27 0)), (1, .int (nI bf)), (2, .int (nI (ct (fun y => dc (thr n y ∧ ∀ z, z < y → thr n z → slt n L c z y ∨ slt n L c y z)) x))), (3, .int (nI x))]) C dX6_paint_132 rfl rfl ?_
      refine g_iconst C ((nI 0)) dX6_paint_134 (by decide) ?_
      refine g_ist (lv' := [(5, .int (nI 0)), (4, .int (bI (decide (x % 9 < n)))), (0, .ref (Z.2.2.1 27 0)), (1, .int (nI bf)), (2, .int (nI (ct (fun y => dc (thr n y ∧ ∀ z, z < y → thr n z → slt n L c z y ∨ slt n L c y z)) x))), (3, .int (nI x))]) C dX6_paint_135 rfl rfl ?_
      have hp0 : dc (fsP n L c x 0) = decide (x % 9 < n) := by
        cases hq : decide (x % 9 < n) with
        | true => exact dc_t.mpr ⟨thr_d (by omega) hq, fun t ht => absurd ht (Nat.not_lt_zero t)⟩
        | false => exact dc_f (fun q => thr_n hq q.1)
      refine g_lv (lv1 := [(0, .ref (Z.2.2.1 27 0)), (1, .int (nI bf)), (2, .int (nI (ct (fun y => dc (thr n y ∧ ∀ z, z < y → thr n z → slt n L c z y ∨ slt n L c y z)) x))), (3, .int (nI x)), (4, .int (bI (dc (fsP n L c x 0)))), (5, .int (nI 0))]) [2, 3, 4, 5, 1, 0] (by rw [hp0]; rfl) ?_
      refine l_X6_paint_137 hA C hr hv hc hm hm18 hcm (x := x) (by omega) (E0 := up2 E 0 x (nI 0)) ?_ 19 0 (up2 E 0 x (nI 0)) (by omega) (by omega) (fun _ => by rw [up2_self]; rfl) (fun _ _ => rfl)
      intro E2 hE2 ho2
      refine g_ildn C dX6_paint_278 rfl ?_
      refine g_ild C dX6_paint_279 rfl ?_
      refine b_if_eq (tgt := 288) C dX6_paint_281 rfl (fun c281 => ?_) (fun c281 => ?_)
      · refine g_iconst C ((nI 0)) dX6_paint_288 (by decide) ?_
        refine g_iadd (v := (nI (ct (fun y => dc (thr n y ∧ ∀ z, z < y → thr n z → slt n L c z y ∨ slt n L c y z)) x + 0))) C dX6_paint_289 (nI_add _ _) ?_
        refine g_istn (lv' := [(2, .int (nI (ct (fun y => dc (thr n y ∧ ∀ z, z < y → thr n z → slt n L c z y ∨ slt n L c y z)) x + 0))), (0, .ref (Z.2.2.1 27 0)), (1, .int (nI bf)), (3, .int (nI x)), (4, .int (bI (dc (fsP n L c x 18)))), (5, .int (nI 18))]) C dX6_paint_290 rfl rfl ?_
        refine g_iinc (lv' := [(3, .int (nI (x + 1))), (2, .int (nI (ct (fun y => dc (thr n y ∧ ∀ z, z < y → thr n z → slt n L c z y ∨ slt n L c y z)) x + 0))), (0, .ref (Z.2.2.1 27 0)), (1, .int (nI bf)), (4, .int (bI (dc (fsP n L c x 18)))), (5, .int (nI 18))]) C ((nI (x + 1))) dX6_paint_291 rfl (inc1 _) rfl rfl ?_
        refine g_goto (tgt := 114) C dX6_paint_294 rfl ?_
        refine g_lv (lv1 := [(0, .ref (Z.2.2.1 27 0)), (1, .int (nI bf)), (2, .int (nI (ct (fun y => dc (thr n y ∧ ∀ z, z < y → thr n z → slt n L c z y ∨ slt n L c y z)) (x + 1)))), (3, .int (nI (x + 1)))]) [2, 3, 1, 0] (by rw [show ct (fun y => dc (thr n y ∧ ∀ z, z < y → thr n z → slt n L c z y ∨ slt n L c y z)) (x + 1) = ct (fun y => dc (thr n y ∧ ∀ z, z < y → thr n z → slt n L c z y ∨ slt n L c y z)) x + 0 from ct_f ((fsP_cn (by omega)).trans c281)]; rfl) ?_
        exact ih (x + 1) E2 (by omega) (by omega) (fun r hr2 hh => (Nat.lt_or_eq_of_le (Nat.le_of_lt_succ hr2)).elim (fun q => by rw [ho2 r (by omega), up2_ne (by omega)]; exact hE r q hh) (fun e => by subst e; exact hE2 hh))
      · refine g_iconst C ((nI 1)) dX6_paint_284 (by decide) ?_
        refine g_goto (tgt := 289) C dX6_paint_285 rfl ?_
        refine g_iadd (v := (nI (ct (fun y => dc (thr n y ∧ ∀ z, z < y → thr n z → slt n L c z y ∨ slt n L c y z)) x + 1))) C dX6_paint_289 (nI_add _ _) ?_
        refine g_istn (lv' := [(2, .int (nI (ct (fun y => dc (thr n y ∧ ∀ z, z < y → thr n z → slt n L c z y ∨ slt n L c y z)) x + 1))), (0, .ref (Z.2.2.1 27 0)), (1, .int (nI bf)), (3, .int (nI x)), (4, .int (bI (dc (fsP n L c x 18)))), (5, .int (nI 18))]) C dX6_paint_290 rfl rfl ?_
        refine g_iinc (lv' := [(3, .int (nI (x + 1))), (2, .int (nI (ct (fun y => dc (thr n y ∧ ∀ z, z < y → thr n z → slt n L c z y ∨ slt n L c y z)) x + 1))), (0, .ref (Z.2.2.1 27 0)), (1, .int (nI bf)), (4, .int (bI (dc (fsP n L c x 18)))), (5, .int (nI 18))]) C ((nI (x + 1))) dX6_paint_291 rfl (inc1 _) rfl rfl ?_
        refine g_goto (tgt := 114) C dX6_paint_294 rfl ?_
        refine g_lv (lv1 := [(0, .ref (Z.2.2.1 27 0)), (1, .int (nI bf)), (2, .int (nI (ct (fun y => dc (thr n y ∧ ∀ z, z < y → thr n z → slt n L c z y ∨ slt n L c y z)) (x + 1)))), (3, .int (nI (x + 1)))]) [2, 3, 1, 0] (by rw [show ct (fun y => dc (thr n y ∧ ∀ z, z < y → thr n z → slt n L c z y ∨ slt n L c y z)) (x + 1) = ct (fun y => dc (thr n y ∧ ∀ z, z < y → thr n z → slt n L c z y ∨ slt n L c y z)) x + 1 from ct_t ((fsP_cn (by omega)).trans c281)]; rfl) ?_
        exact ih (x + 1) E2 (by omega) (by omega) (fun r hr2 hh => (Nat.lt_or_eq_of_le (Nat.le_of_lt_succ hr2)).elim (fun q => by rw [ho2 r (by omega), up2_ne (by omega)]; exact hE r q hh) (fun e => by subst e; exact hE2 hh))

set_option maxRecDepth 100000 in
set_option maxHeartbeats 4000000 in
theorem l_X6_paint_299 {X : Pk} {Z : Zk} {Q : State → Prop} {I : SI} {J : SJ} (hA : AJ Z.2.2.1) (C : Cx X cX6_paint 9 RX6 Z 3 130) (hr : (xE X).sig.returnType = none) {bf q2 : Nat} (hex : ∀ B, (∀ r, r < 18 → B 0 r = I 37 0 r) → G X 9 Z Q (sK I 36 B) J 323 [(0, .ref (Z.2.2.1 27 0)), (1, .int (nI bf)), (2, .int (nI q2)), (3, .int (nI 18))] []) : ∀ (k : Nat) (x : Nat) (B : Nat → Nat → Int32), 18 - x < k → (x ≤ 18) → (∀ r, r < x → B 0 r = I 37 0 r) → G X 9 Z (Q) (sK I 36 B) (J) 299 [(0, .ref (Z.2.2.1 27 0)), (1, .int (nI bf)), (2, .int (nI q2)), (3, .int (nI x))] [] := by
  intro k
  induction k with
  | zero => intro x B h; exact absurd h (by omega)
  | succ k ih =>
    intro x B hk hx hB
    refine g_ildn C dX6_paint_299 rfl ?_
    refine g_bipush C ((nI 18)) dX6_paint_300 (by decide) ?_
    refine n_icmp_ge (tgt := 323) C dX6_paint_302 rfl (by omega) (by omega) (fun c_1 => ?_) (fun c_1 => ?_)
    · have e : x = 18 := by omega
      subst e
      refine g_lv [0, 1, 2, 3] rfl ?_
      exact hex B hB
    · refine g_aldn C dX6_paint_305 rfl ?_
      refine g_get C 27 0 (by decide) (by decide) u6 rfl 11 rfl fX6_39 rfl rfl dX6_paint_306 ?_
      refine g_ildn C dX6_paint_309 rfl ?_
      refine g_aldn C dX6_paint_310 rfl ?_
      refine g_get C 27 0 (by decide) (by decide) u6 rfl 12 rfl fX6_42 rfl rfl dX6_paint_311 ?_
      refine g_ildn C dX6_paint_314 rfl ?_
      refine g_iald C 37 0 (by decide) (by decide) (fun _ _ => rfl) x (show x < 18 by omega) rfl dX6_paint_315 (v := (I 37 0 x)) (by rw [sK_ne (by decide)]) ?_
      refine g_iast C 36 0 (by decide) (by decide) (fun _ _ => rfl) x (show x < 18 by omega) rfl dX6_paint_316 ?_
      refine g_I (I1 := sK I 36 (up2 B 0 x (I 37 0 x))) (by rw [sK_self, sK_sK]) ?_
      refine g_iinc (lv' := [(3, .int (nI (x + 1))), (0, .ref (Z.2.2.1 27 0)), (1, .int (nI bf)), (2, .int (nI q2))]) C ((nI (x + 1))) dX6_paint_317 rfl (inc1 _) rfl rfl ?_
      refine g_goto (tgt := 299) C dX6_paint_320 rfl ?_
      refine g_lv [1, 2, 3, 0] rfl ?_
      exact ih (x + 1) _ (by omega) (by omega) (fun r hr2 => by rw [up2_at]; by_cases e : r = x; rw [if_pos ⟨rfl, e⟩, e]; rw [if_neg (fun q => e q.2)]; exact hB r (by omega))

