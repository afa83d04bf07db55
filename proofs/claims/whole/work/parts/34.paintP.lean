/-! ===== Painter: paint, paintsAlike ===== -/
/-- how many rounds: the first that gives no more colours (or the eighteenth) -/
def rnd (n : Nat) (T : Nat → Nat → Nat) (L : Nat → Nat → Nat → Nat) (k : Nat) : Prop := 1 ≤ k ∧ k ≤ 18 ∧ (∀ j, 1 ≤ j → j < k → ms n T L j ≠ ms n T L (j - 1)) ∧ (k = 18 ∨ ms n T L k = ms n T L (k - 1))
def paPost (n : Nat) (T : Nat → Nat → Nat) (L : Nat → Nat → Nat → Nat) (I : SI) (J : SJ) : Option Value → SI → SJ → Prop := fun v' I' J' =>
  ∃ (A B E F H K : Nat → Nat → Int32) (k : Nat), v' = none ∧ I' = sK (CP I A B E F H) 7 K ∧ J' = J ∧ rnd n T L k ∧ A 0 0 = nI (ms n T L k) ∧ ∀ g v, g < 2 → v < n → K g v = nI (cs n T L k (9 * g + v))
theorem ms_le (n : Nat) (T : Nat → Nat → Nat) (L : Nat → Nat → Nat → Nat) (k : Nat) : ms n T L k ≤ 18 := by cases k <;> exact CN_le _ _
set_option maxRecDepth 100000 in
set_option maxHeartbeats 4000000 in
theorem l_X3_paint_63 {X : Pk} {Z : Zk} {I : SI} {J : SJ} (hA : AJ Z.2.2.1) (C : Cx X cX3_paint 5 RX3 Z 4 160) (hr : (xE X).sig.returnType = none) {n : Nat} {T : Nat → Nat → Nat} {L : Nat → Nat → Nat → Nat} (hv : CV I n T L) {A B E F H : Nat → Nat → Int32} {k : Nat} (hk : rnd n T L k) (hA0 : A 0 0 = nI (ms n T L k)) (hB : ∀ y, thr n y → B 0 y = nI (cs n T L k y)) : ∀ t q (K : Nat → Nat → Int32), 2 - q < t → q ≤ 2 → (∀ g v, g < q → v < n → K g v = nI (cs n T L k (9 * g + v))) → G X 5 Z (QG X Z (paPost n T L I J)) (sK (CP I A B E F H) 7 K) J 63 [(0, .ref (Z.2.2.1 10 0)), (1, .ref (Z.2.2.1 1 0)), (2, .int (nI n)), (3, .int (nI q))] [] := by
  obtain ⟨⟨hn1, hn9⟩, -⟩ := id hv
  intro t
  induction t with
  | zero => intro q K h; exact absurd h (by omega)
  | succ t ih =>
    intro q K ht hq hK
    refine g_ildn C dX3_paint_63 rfl ?_
    refine g_iconst C ((nI 2)) dX3_paint_64 (by decide) ?_
    refine n_icmp_ge (tgt := 93) C dX3_paint_65 rfl (by omega) (by omega) (fun c65 => ?_) (fun c65 => ?_)
    · exact g_return C hr dX3_paint_93 ⟨A, B, E, F, H, K, k, rfl, rfl, rfl, hk, hA0, fun g v hg hvn => hK g v (by omega) hvn⟩
    · refine g_aldn C dX3_paint_68 rfl ?_
      refine g_get C 10 0 (by decide) (by decide) u3 rfl 1 rfl fX3_11 rfl rfl dX3_paint_69 ?_
      refine g_ildn C dX3_paint_72 rfl ?_
      refine g_bipush C ((nI 9)) dX3_paint_73 (by decide) ?_
      refine g_imul (v := (nI (q * 9))) C dX3_paint_75 (pk_mul _ _) ?_
      refine g_aldn C dX3_paint_76 rfl ?_
      refine g_ildn C dX3_paint_77 rfl ?_
      refine g_aald C 1 0 2 (by decide) (by decide) (fun _ _ => rfl) rfl rfl q (show q < 2 by omega) rfl dX3_paint_78 ?_
      refine g_get C 2 q (by decide) (show q < 2 by omega) u1 rfl 3 rfl fX3_49 rfl rfl dX3_paint_79 ?_
      refine g_iconst C ((nI 0)) dX3_paint_82 (by decide) ?_
      refine g_ildn C dX3_paint_83 rfl ?_
      refine g_copyi C mX3_52 11 0 7 q (by decide) (by decide) (by decide) (show q < 2 by omega) (fun _ _ => rfl) (fun _ _ => rfl) (q * 9) 0 n (by omega) (by omega) rfl rfl rfl rfl dX3_paint_84 ?_
      refine g_I (I1 := sK (CP I A B E F H) 7 (va_up K q (va_cpy (B 0) (K q) (q * 9) 0 n))) (by rw [sK_self, sK_ne (by decide : (11 : Nat) ≠ 7), cp_11, sK_sK]) ?_
      refine g_iinc (lv' := [(3, .int (nI (q + 1))), (0, .ref (Z.2.2.1 10 0)), (1, .ref (Z.2.2.1 1 0)), (2, .int (nI n))]) C ((nI (q + 1))) dX3_paint_87 rfl (inc1 _) rfl rfl ?_
      refine g_goto (tgt := 63) C dX3_paint_90 rfl ?_
      refine g_lv [1, 2, 3, 0] rfl ?_
      refine ih (q + 1) _ (by omega) (by omega) (fun g v hg hvn => ?_)
      by_cases e : g = q
      · subst e; rw [va_up_self, pk_cpy_in (by omega) (by omega), show g * 9 + (v - 0) = 9 * g + v by omega]; exact hB _ ⟨by omega, by omega⟩
      · rw [va_up_ne _ _ e]; exact hK g v (by omega) hvn

set_option maxRecDepth 100000 in
set_option maxHeartbeats 4000000 in
theorem l_X3_paint_15 {X : Pk} {Z : Zk} {I : SI} {J : SJ} (hA : AJ Z.2.2.1) (C : Cx X cX3_paint 5 RX3 Z 4 160) (hr : (xE X).sig.returnType = none) {n : Nat} {T : Nat → Nat → Nat} {L : Nat → Nat → Nat → Nat} (hv : CV I n T L) : ∀ t r (A B E F H : Nat → Nat → Int32) (s : Nat → Nat), 18 - r < t → r ≤ 18 → A 0 0 = nI (ms n T L r) → (∀ y, thr n y → B 0 y = nI (cs n T L r y)) → (∀ j, j < 2 * n → F 0 j = nI (s j) ∧ thr n (s j)) → (∀ y, thr n y → ∃ j, j < 2 * n ∧ s j = y) → (∀ j, 1 ≤ j → j ≤ r → ms n T L j ≠ ms n T L (j - 1)) → G X 5 Z (QG X Z (paPost n T L I J)) (CP I A B E F H) J 15 [(0, .ref (Z.2.2.1 10 0)), (1, .ref (Z.2.2.1 1 0)), (2, .int (nI n)), (3, .int (nI r))] [] := by
  obtain ⟨⟨hn1, hn9⟩, -⟩ := id hv
  intro t
  induction t with
  | zero => intro r A B E F H s h; exact absurd h (by omega)
  | succ t ih =>
    intro r A B E F H s ht hr18 hA0 hB hF hsu hh
    have hv2 := (hv.of (I' := CP I A B E F H) (cp_o (by decide)) (cp_o (by decide)) (cp_o (by decide)))
    have z1 := ms_le n T L r
    have z2 := ms_le n T L (r + 1)
    refine g_ildn C dX3_paint_15 rfl ?_
    refine g_bipush C ((nI 18)) dX3_paint_16 (by decide) ?_
    refine n_icmp_ge (tgt := 61) C dX3_paint_18 rfl (by omega) (by omega) (fun c18 => ?_) (fun c18 => ?_)
    · refine g_iconst C ((nI 0)) dX3_paint_61 (by decide) ?_
      refine g_istn (lv' := [(3, .int (nI 0)), (0, .ref (Z.2.2.1 10 0)), (1, .ref (Z.2.2.1 1 0)), (2, .int (nI n))]) C dX3_paint_62 rfl rfl ?_
      refine g_lv [1, 2, 3, 0] rfl ?_
      refine g_I (I1 := sK (CP I A B E F H) 7 (I 7)) (by conv => lhs; rw [← sK_id (CP I A B E F H) 7, cp_o (by decide)]) ?_
      exact l_X3_paint_63 hA C hr hv (k := r) ⟨by omega, by omega, fun j h1 h2 => hh j h1 (by omega), Or.inl (by omega)⟩ hA0 hB 3 0 (I 7) (by omega) (by omega) (fun g v h => absurd h (by omega))
    · refine g_aldn C dX3_paint_21 rfl ?_
      refine g_get C 10 0 (by decide) (by decide) u3 rfl 0 rfl fX3_39 rfl rfl dX3_paint_22 ?_
      refine g_top (y := (nI (ms n T L r))) ((congrFun (congrFun (cp_10 _ _ _ _ _ _) 0) 0).trans hA0) ?_
      refine g_ist (lv' := [(4, .int (nI (ms n T L r))), (0, .ref (Z.2.2.1 10 0)), (1, .ref (Z.2.2.1 1 0)), (2, .int (nI n)), (3, .int (nI r))]) C dX3_paint_25 rfl rfl ?_
      refine g_aldn C dX3_paint_27 rfl ?_
      refine g_aldn C dX3_paint_28 rfl ?_
      refine g_ildn C dX3_paint_29 rfl ?_
      refine g_callV (As := [.ref (Z.2.2.1 1 0), .int (nI n)]) (st := []) C (c_X3_gatherKeys hA hv2 (c := cs n T L r) (fun u hu => ⟨by rw [cp_11]; exact hB u hu, cs_lt r hu⟩)) wX3_gatherKeys iX3_gatherKeys sX3_gatherKeys mX3_42 10 0 (by decide) (by decide) rfl rfl rfl rfl rfl rfl rfl rfl dX3_paint_30 ?_
      rintro v9 I9 J9 ⟨H2, ky, h91, h92, h93, hky⟩
      rw [h91, h92, h93, cp16]
      clear h91 h92 h93 v9 I9 J9
      show G X _ Z _ (CP I A B E F H2) J 33 [(4, .int (nI (ms n T L r))), (0, .ref (Z.2.2.1 10 0)), (1, .ref (Z.2.2.1 1 0)), (2, .int (nI n)), (3, .int (nI r))] []
      refine g_aldn C dX3_paint_33 rfl ?_
      refine g_iconst C ((nI 2)) dX3_paint_34 (by decide) ?_
      refine g_ildn C dX3_paint_35 rfl ?_
      refine g_imul (v := (nI (2 * n))) C dX3_paint_36 (pk_mul _ _) ?_
      refine g_ildn C dX3_paint_37 rfl ?_
      refine g_iconst C ((nI 1)) dX3_paint_38 (by decide) ?_
      refine g_isub (v := (nI (n - 1))) C dX3_paint_39 (pk_sub (by omega)) ?_
      refine g_callV (As := [.int (nI (2 * n)), .int (nI (n - 1))]) (st := []) C (c_X3_renumber hA (n := n) (kc := n - 1) hn9 (by omega) (c := cs n T L r) (Kf := ky) (fun u hu => ⟨by rw [cp_11]; exact hB u hu, cs_lt r hu⟩) (fun u hu j hj => ⟨by rw [cp_16]; exact (hky u hu).2 j hj, (hky u hu).1.2.2.1 j hj⟩) (m := 2 * n) (by omega) (by omega) (so := s) (fun j hj => by rw [cp_13]; exact hF j hj) hsu) wX3_renumber iX3_renumber sX3_renumber mX3_45 10 0 (by decide) (by decide) rfl rfl rfl rfl rfl rfl rfl rfl dX3_paint_40 ?_
      rintro v9 I9 J9 ⟨B3, E3, F3, s3, h91, h92, h93, k1, k2, k3⟩
      rw [h91, h92, h93, cp_cp, cp_10, cp_16]
      have hs1 : ∀ a b, thr n a → thr n b → (lx (n - 1 + 1) (Qs (cs n T L r) ky a) (Qs (cs n T L r) ky b) ↔ slt n L (cs n T L r) a b) := fun a b ha hb => slt_iff (hky a ha).1 (hky b hb).1
      rw [CN_congr hs1, show CN n (slt n L (cs n T L r)) = ms n T L (r + 1) from rfl]
      have k1 : ∀ y, thr n y → B3 0 y = nI (cs n T L (r + 1) y) := fun y hy => (k1 y hy).trans (congrArg nI (RK_congr hs1 hy))
      clear h91 h92 h93 v9 I9 J9
      show G X _ Z _ (CP I (up2 A 0 0 (nI (ms n T L (r + 1)))) B3 E3 F3 H2) J 43 [(4, .int (nI (ms n T L r))), (0, .ref (Z.2.2.1 10 0)), (1, .ref (Z.2.2.1 1 0)), (2, .int (nI n)), (3, .int (nI r))] []
      refine g_aldn C dX3_paint_43 rfl ?_
      refine g_get C 10 0 (by decide) (by decide) u3 rfl 0 rfl fX3_39 rfl rfl dX3_paint_44 ?_
      refine g_top (y := (nI (ms n T L (r + 1)))) ((congrFun (congrFun (cp_10 _ _ _ _ _ _) 0) 0).trans up2_self) ?_
      refine g_ild C dX3_paint_47 rfl ?_
      refine n_icmp_ne (tgt := 55) C dX3_paint_49 rfl (by omega) (by omega) (fun c49 => ?_) (fun c49 => ?_)
      · refine g_iinc (lv' := [(3, .int (nI (r + 1))), (4, .int (nI (ms n T L r))), (0, .ref (Z.2.2.1 10 0)), (1, .ref (Z.2.2.1 1 0)), (2, .int (nI n))]) C ((nI (r + 1))) dX3_paint_55 rfl (inc1 _) rfl rfl ?_
        refine g_goto (tgt := 15) C dX3_paint_58 rfl ?_
        refine g_lv [2, 3, 4, 0] rfl ?_
        exact ih (r + 1) _ _ _ _ _ s3 (by omega) (by omega) up2_self k1 k2 k3 (fun j h1 h2 => by rcases Nat.lt_or_eq_of_le h2 with q | q; exact hh j h1 (by omega); subst q; rw [Nat.add_sub_cancel]; exact c49)
      · refine g_goto (tgt := 61) C dX3_paint_52 rfl ?_
        refine g_iconst C ((nI 0)) dX3_paint_61 (by decide) ?_
        refine g_istn (lv' := [(3, .int (nI 0)), (4, .int (nI (ms n T L r))), (0, .ref (Z.2.2.1 10 0)), (1, .ref (Z.2.2.1 1 0)), (2, .int (nI n))]) C dX3_paint_62 rfl rfl ?_
        refine g_lv [2, 3, 4, 0] rfl ?_
        refine g_I (I1 := sK (CP I (up2 A 0 0 (nI (ms n T L (r + 1)))) B3 E3 F3 H2) 7 (I 7)) (by conv => lhs; rw [← sK_id (CP I (up2 A 0 0 (nI (ms n T L (r + 1)))) B3 E3 F3 H2) 7, cp_o (by decide)]) ?_
        exact l_X3_paint_63 hA C hr hv (k := (r + 1)) ⟨by omega, by omega, fun j h1 h2 => hh j h1 (by omega), Or.inr (by rw [Nat.add_sub_cancel]; exact c49)⟩ up2_self k1 3 0 (I 7) (by omega) (by omega) (fun g v h => absurd h (by omega))

set_option maxRecDepth 100000 in
set_option maxHeartbeats 4000000 in
/-- Painter.paint -/
theorem c_X3_paint {l : Launch} {Y : Yk} (hA : AJ Y.2.2) {I : SI} {J : SJ} {n : Nat} {T : Nat → Nat → Nat} {L : Nat → Nat → Nat → Nat} (hv : CV I n T L)  : MX l Y yX3_paint cX3_paint 5 (none) 4 160 [.ref (Y.2.2 10 0), .ref (Y.2.2 1 0)] I J (paPost n T L I J) := by
  refine MX.of hA (by decide) (own := RX3) rfl rfl rfl ?_
  intro X Z hl hY1 hY2 hY3 C hr
  obtain ⟨D0, ca0, ad0⟩ := Y
  dsimp only at hA hY1 hY2 hY3
  subst hY1; subst hY2; subst hY3; subst hl
  show G X 5 Z (QG X Z _) I J 0 [(0, .ref (Z.2.2.1 10 0)), (1, .ref (Z.2.2.1 1 0))] []
  obtain ⟨⟨hn1, hn9⟩, -⟩ := id hv
  refine g_aldn C dX3_paint_0 rfl ?_
  refine g_iconst C ((nI 0)) dX3_paint_1 (by decide) ?_
  refine g_aald C 1 0 2 (by decide) (by decide) (fun _ _ => rfl) rfl rfl 0 (show 0 < 2 by omega) rfl dX3_paint_2 ?_
  refine g_get C 2 0 (by decide) (by decide) u1 rfl 0 rfl fX3_29 rfl rfl dX3_paint_3 ?_
  refine g_top (y := (nI n)) (hv.sz (by decide)) ?_
  refine g_istn (lv' := [(2, .int (nI n)), (0, .ref (Z.2.2.1 10 0)), (1, .ref (Z.2.2.1 1 0))]) C dX3_paint_6 rfl rfl ?_
  refine g_aldn C dX3_paint_7 rfl ?_
  refine g_aldn C dX3_paint_8 rfl ?_
  refine g_ildn C dX3_paint_9 rfl ?_
  refine g_callV (As := [.ref (Z.2.2.1 1 0), .int (nI n)]) (st := []) C (c_X3_paintTints hA hv) wX3_paintTints iX3_paintTints sX3_paintTints mX3_35 10 0 (by decide) (by decide) rfl rfl rfl rfl rfl rfl rfl rfl dX3_paint_10 ?_
  rintro v9 I9 J9 ⟨A, B, E, F, H, s, h91, h92, h93, k1, k2, k3, k4⟩
  rw [h91, h92, h93]
  clear h91 h92 h93 v9 I9 J9
  show G X _ Z _ (CP I A B E F H) J 13 [(2, .int (nI n)), (0, .ref (Z.2.2.1 10 0)), (1, .ref (Z.2.2.1 1 0))] []
  refine g_iconst C ((nI 0)) dX3_paint_13 (by decide) ?_
  refine g_istn (lv' := [(3, .int (nI 0)), (2, .int (nI n)), (0, .ref (Z.2.2.1 10 0)), (1, .ref (Z.2.2.1 1 0))]) C dX3_paint_14 rfl rfl ?_
  refine g_lv [2, 3, 1, 0] rfl ?_
  exact l_X3_paint_15 hA C hr hv 19 0 A B E F H s (by omega) (by omega) k1 k2 k3 k4 (fun j h1 h2 => absurd h1 (by omega))

theorem up2_r {α : Type} (F : Nat → Nat → α) (r i j : Nat) (x : α) : up2 F r i x r j = if j = i then x else F r j := by
  rw [up2_at]
  by_cases h : j = i
  · rw [if_pos ⟨rfl, h⟩, if_pos h]
  · rw [if_neg (fun q => h q.2), if_neg h]
def tI (z : Int) : Int32 := Int32.ofInt z
theorem tI_inc (z : Int) : tI z + nI 1 = tI (z + 1) := (Int32.ofInt_add z 1).symm
theorem tI_dec (z : Int) : tI z - nI 1 = tI (z - 1) := (Int32.ofInt_sub z 1).symm
theorem tI_0 {z : Int} (h1 : -100 < z) (h2 : z < 100) : tI z = 0 ↔ z = 0 := by
  constructor
  · intro h
    have h3 := congrArg Int32.toInt h
    rw [show (tI z).toInt = z from Int32.toInt_ofInt_of_le (by omega) (by omega)] at h3
    exact h3
  · intro h; rw [h]; rfl
set_option maxRecDepth 100000 in
set_option maxHeartbeats 4000000 in
theorem l_X3_paintsAlike_62 {X : Pk} {Z : Zk} {I : SI} {J : SJ} (hA : AJ Z.2.2.1) (C : Cx X cX3_paintsAlike 3 RX3 Z 1 40) (hr : (xE X).sig.returnType = some .boolean) {n : Nat} {T : Nat → Nat → Nat} {L : Nat → Nat → Nat → Nat} (hv : CV I n T L) {K : Nat → Nat → Nat} (hc : CC I n K) {m : Nat} (hm : m ≤ 18) (hnum : I 10 0 0 = nI m) {F : Nat → Nat → Int32} (hF : ∀ x, x < 18 → F 0 x = tI (((ct (fun u => decide (K 0 u = x)) n : Nat) : Int) - ((ct (fun u => decide (K 1 u = x)) n : Nat) : Int))) : ∀ k y, m - y < k → y ≤ m → (∀ x, x < y → ct (fun u => decide (K 0 u = x)) n = ct (fun u => decide (K 1 u = x)) n) → G X 3 Z (QG X Z (fun v' I' J' => ∃ (b : Bool) (F : Nat → Nat → Int32), v' = some (.int (bI b)) ∧ I' = sK I 14 F ∧ J' = J ∧ (b = true ↔ ∀ x, x < m → ct (fun u => decide (K 0 u = x)) n = ct (fun u => decide (K 1 u = x)) n))) (sK I 14 F) J 62 [(0, .ref (Z.2.2.1 10 0)), (1, .ref (Z.2.2.1 1 0)), (2, .int (nI y))] [] := by
  obtain ⟨⟨hn1, hn9⟩, -⟩ := id hv
  intro k
  induction k with
  | zero => intro y h; exact absurd h (by omega)
  | succ k ih =>
    intro y hk hy hin
    have z1 := ct_le (fun u => decide (K 0 u = y)) n
    have z2 := ct_le (fun u => decide (K 1 u = y)) n
    refine g_ildn C dX3_paintsAlike_62 rfl ?_
    refine g_aldn C dX3_paintsAlike_63 rfl ?_
    refine g_get C 10 0 (by decide) (by decide) u3 rfl 0 rfl fX3_39 rfl rfl dX3_paintsAlike_64 ?_
    refine g_top (y := (nI m)) ((congrFun (congrFun (sK_ne (by decide)) 0) 0).trans hnum) ?_
    refine n_icmp_ge (tgt := 87) C dX3_paintsAlike_67 rfl (by omega) (by omega) (fun c67 => ?_) (fun c67 => ?_)
    · refine g_iconst C ((nI 1)) dX3_paintsAlike_87 (by decide) ?_
      exact g_zreturn C hr (by decide) dX3_paintsAlike_88 ⟨true, F, rfl, rfl, rfl, ⟨fun _ x hx => hin x (by omega), fun _ => rfl⟩⟩
    · refine g_aldn C dX3_paintsAlike_70 rfl ?_
      refine g_get C 10 0 (by decide) (by decide) u3 rfl 4 rfl fX3_21 rfl rfl dX3_paintsAlike_71 ?_
      refine g_ildn C dX3_paintsAlike_74 rfl ?_
      refine g_iald C 14 0 (by decide) (by decide) (fun _ _ => rfl) y (show y < 18 by omega) rfl dX3_paintsAlike_75 (v := (tI (((ct (fun u => decide (K 0 u = y)) n : Nat) : Int) - ((ct (fun u => decide (K 1 u = y)) n : Nat) : Int)))) (by rw [sK_self]; exact hF y (by omega)) ?_
      refine g_if_eq (tgt := 81) C dX3_paintsAlike_76 rfl (fun c76 => ?_) (fun c76 => ?_)
      · refine g_iinc (lv' := [(2, .int (nI (y + 1))), (0, .ref (Z.2.2.1 10 0)), (1, .ref (Z.2.2.1 1 0))]) C ((nI (y + 1))) dX3_paintsAlike_81 rfl (inc1 _) rfl rfl ?_
        refine g_goto (tgt := 62) C dX3_paintsAlike_84 rfl ?_
        refine g_lv [1, 2, 0] rfl ?_
        exact ih (y + 1) (by omega) (by omega) (fun x hx => (Nat.lt_or_eq_of_le (Nat.le_of_lt_succ hx)).elim (hin x) (fun e => by rw [e]; have := (tI_0 (by omega) (by omega)).mp c76; omega))
      · refine g_iconst C ((nI 0)) dX3_paintsAlike_79 (by decide) ?_
        exact g_zreturn C hr (by decide) dX3_paintsAlike_80 ⟨false, F, rfl, rfl, rfl, ⟨fun h => absurd h (by decide), fun h => absurd ((tI_0 (by omega) (by omega)).mpr (by have := h y (by omega); omega)) c76⟩⟩

set_option maxRecDepth 100000 in
set_option maxHeartbeats 4000000 in
theorem l_X3_paintsAlike_10 {X : Pk} {Z : Zk} {I : SI} {J : SJ} (hA : AJ Z.2.2.1) (C : Cx X cX3_paintsAlike 3 RX3 Z 1 40) (hr : (xE X).sig.returnType = some .boolean) {n : Nat} {T : Nat → Nat → Nat} {L : Nat → Nat → Nat → Nat} (hv : CV I n T L) {K : Nat → Nat → Nat} (hc : CC I n K) {m : Nat} (hm : m ≤ 18) (hnum : I 10 0 0 = nI m) : ∀ k v (F : Nat → Nat → Int32), n - v < k → v ≤ n → (∀ x, x < 18 → F 0 x = tI (((ct (fun u => decide (K 0 u = x)) v : Nat) : Int) - ((ct (fun u => decide (K 1 u = x)) v : Nat) : Int))) → G X 3 Z (QG X Z (fun v' I' J' => ∃ (b : Bool) (F : Nat → Nat → Int32), v' = some (.int (bI b)) ∧ I' = sK I 14 F ∧ J' = J ∧ (b = true ↔ ∀ x, x < m → ct (fun u => decide (K 0 u = x)) n = ct (fun u => decide (K 1 u = x)) n))) (sK I 14 F) J 10 [(0, .ref (Z.2.2.1 10 0)), (1, .ref (Z.2.2.1 1 0)), (2, .int (nI v))] [] := by
  obtain ⟨⟨hn1, hn9⟩, -⟩ := id hv
  intro k
  induction k with
  | zero => intro v F h; exact absurd h (by omega)
  | succ k ih =>
    intro v F hk hvn hF
    have z0 : v < n → K 0 v < 18 := fun h => (hc 0 (by decide) v h).2
    have z1 : v < n → K 1 v < 18 := fun h => (hc 1 (by decide) v h).2
    refine g_ildn C dX3_paintsAlike_10 rfl ?_
    refine g_aldn C dX3_paintsAlike_11 rfl ?_
    refine g_iconst C ((nI 0)) dX3_paintsAlike_12 (by decide) ?_
    refine g_aald C 1 0 2 (by decide) (by decide) (fun _ _ => rfl) rfl rfl 0 (show 0 < 2 by omega) rfl dX3_paintsAlike_13 ?_
    refine g_get C 2 0 (by decide) (by decide) u1 rfl 0 rfl fX3_29 rfl rfl dX3_paintsAlike_14 ?_
    refine g_top (y := (nI n)) ((hv.of (sK_ne (by decide)) (sK_ne (by decide)) (sK_ne (by decide)) : CV (sK I 14 F) n T L).sz (by decide)) ?_
    refine n_icmp_ge (tgt := 60) C dX3_paintsAlike_17 rfl (by omega) (by omega) (fun c17 => ?_) (fun c17 => ?_)
    · have evn : v = n := by omega
      subst evn
      refine g_iconst C ((nI 0)) dX3_paintsAlike_60 (by decide) ?_
      refine g_istn (lv' := [(2, .int (nI 0)), (0, .ref (Z.2.2.1 10 0)), (1, .ref (Z.2.2.1 1 0))]) C dX3_paintsAlike_61 rfl rfl ?_
      refine g_lv [1, 2, 0] rfl ?_
      exact l_X3_paintsAlike_62 hA C hr hv hc hm hnum hF (m + 1) 0 (by omega) (by omega) (fun x hx => absurd hx (by omega))
    · refine g_aldn C dX3_paintsAlike_20 rfl ?_
      refine g_get C 10 0 (by decide) (by decide) u3 rfl 4 rfl fX3_21 rfl rfl dX3_paintsAlike_21 ?_
      refine g_aldn C dX3_paintsAlike_24 rfl ?_
      refine g_iconst C ((nI 0)) dX3_paintsAlike_25 (by decide) ?_
      refine g_aald C 1 0 2 (by decide) (by decide) (fun _ _ => rfl) rfl rfl 0 (show 0 < 2 by omega) rfl dX3_paintsAlike_26 ?_
      refine g_get C 2 0 (by decide) (by decide) u1 rfl 3 rfl fX3_49 rfl rfl dX3_paintsAlike_27 ?_
      refine g_ildn C dX3_paintsAlike_30 rfl ?_
      refine g_iald C 7 0 (by decide) (by decide) (fun _ _ => rfl) v (show v < 9 by omega) rfl dX3_paintsAlike_31 (v := (nI (K 0 v))) (by rw [sK_ne (by decide)]; exact (hc 0 (by decide) v (by omega)).1) ?_
      refine g_dup2 C dX3_paintsAlike_32 rfl rfl ?_
      refine g_iald C 14 0 (by decide) (by decide) (fun _ _ => rfl) (K 0 v) (show K 0 v < 18 by omega) rfl dX3_paintsAlike_33 (v := (tI (((ct (fun u => decide (K 0 u = K 0 v)) v : Nat) : Int) - ((ct (fun u => decide (K 1 u = K 0 v)) v : Nat) : Int)))) (by rw [sK_self]; exact hF (K 0 v) (by omega)) ?_
      refine g_iconst C ((nI 1)) dX3_paintsAlike_34 (by decide) ?_
      refine g_iadd (v := (tI (((ct (fun u => decide (K 0 u = K 0 v)) v : Nat) : Int) - ((ct (fun u => decide (K 1 u = K 0 v)) v : Nat) : Int) + 1))) C dX3_paintsAlike_35 (tI_inc _) ?_
      refine g_iast C 14 0 (by decide) (by decide) (fun _ _ => rfl) (K 0 v) (show K 0 v < 18 by omega) rfl dX3_paintsAlike_36 ?_
      refine g_I (I1 := sK I 14 (up2 F 0 (K 0 v) (tI (((ct (fun u => decide (K 0 u = K 0 v)) v : Nat) : Int) - ((ct (fun u => decide (K 1 u = K 0 v)) v : Nat) : Int) + 1)))) (by rw [sK_self, sK_sK]) ?_
      refine g_aldn C dX3_paintsAlike_37 rfl ?_
      refine g_get C 10 0 (by decide) (by decide) u3 rfl 4 rfl fX3_21 rfl rfl dX3_paintsAlike_38 ?_
      refine g_aldn C dX3_paintsAlike_41 rfl ?_
      refine g_iconst C ((nI 1)) dX3_paintsAlike_42 (by decide) ?_
      refine g_aald C 1 0 2 (by decide) (by decide) (fun _ _ => rfl) rfl rfl 1 (show 1 < 2 by omega) rfl dX3_paintsAlike_43 ?_
      refine g_get C 2 1 (by decide) (by decide) u1 rfl 3 rfl fX3_49 rfl rfl dX3_paintsAlike_44 ?_
      refine g_ildn C dX3_paintsAlike_47 rfl ?_
      refine g_iald C 7 1 (by decide) (by decide) (fun _ _ => rfl) v (show v < 9 by omega) rfl dX3_paintsAlike_48 (v := (nI (K 1 v))) (by rw [sK_ne (by decide)]; exact (hc 1 (by decide) v (by omega)).1) ?_
      refine g_dup2 C dX3_paintsAlike_49 rfl rfl ?_
      refine g_iald C 14 0 (by decide) (by decide) (fun _ _ => rfl) (K 1 v) (show K 1 v < 18 by omega) rfl dX3_paintsAlike_50 (v := (up2 F 0 (K 0 v) (tI (((ct (fun u => decide (K 0 u = K 0 v)) v : Nat) : Int) - ((ct (fun u => decide (K 1 u = K 0 v)) v : Nat) : Int) + 1)) 0 (K 1 v))) (by rw [sK_self]) ?_
      refine g_iconst C ((nI 1)) dX3_paintsAlike_51 (by decide) ?_
      refine g_isub (v := (up2 F 0 (K 0 v) (tI (((ct (fun u => decide (K 0 u = K 0 v)) v : Nat) : Int) - ((ct (fun u => decide (K 1 u = K 0 v)) v : Nat) : Int) + 1)) 0 (K 1 v) - nI 1)) C dX3_paintsAlike_52 rfl ?_
      refine g_iast C 14 0 (by decide) (by decide) (fun _ _ => rfl) (K 1 v) (show K 1 v < 18 by omega) rfl dX3_paintsAlike_53 ?_
      refine g_I (I1 := sK I 14 (up2 (up2 F 0 (K 0 v) (tI (((ct (fun u => decide (K 0 u = K 0 v)) v : Nat) : Int) - ((ct (fun u => decide (K 1 u = K 0 v)) v : Nat) : Int) + 1))) 0 (K 1 v) ((up2 F 0 (K 0 v) (tI (((ct (fun u => decide (K 0 u = K 0 v)) v : Nat) : Int) - ((ct (fun u => decide (K 1 u = K 0 v)) v : Nat) : Int) + 1)) 0 (K 1 v) - nI 1)))) (by rw [sK_self, sK_sK]) ?_
      refine g_iinc (lv' := [(2, .int (nI (v + 1))), (0, .ref (Z.2.2.1 10 0)), (1, .ref (Z.2.2.1 1 0))]) C ((nI (v + 1))) dX3_paintsAlike_54 rfl (inc1 _) rfl rfl ?_
      refine g_goto (tgt := 10) C dX3_paintsAlike_57 rfl ?_
      refine g_lv [1, 2, 0] rfl ?_
      refine ih (v + 1) _ (by omega) (by omega) (fun x hx => ?_)
      simp only [up2_r, ct_s]
      by_cases e1 : x = K 1 v
      · rw [if_pos e1]
        by_cases e0 : x = K 0 v
        · have e2 : K 1 v = K 0 v := by omega
          rw [if_pos e2, tI_dec, if_pos (decide_eq_true e0.symm), if_pos (decide_eq_true e1.symm), ← e0]
          congr 1; omega
        · have e2 : ¬ K 1 v = K 0 v := by omega
          rw [if_neg e2, hF (K 1 v) (by omega), tI_dec, ← e1, if_neg (by rw [decide_eq_true_iff]; omega), if_pos (decide_eq_true rfl)]
          congr 1; omega
      · rw [if_neg e1]
        by_cases e0 : x = K 0 v
        · rw [if_pos e0, if_pos (decide_eq_true e0.symm), if_neg (by rw [decide_eq_true_iff]; omega), ← e0]
          congr 1; omega
        · rw [if_neg e0, hF x hx, if_neg (by rw [decide_eq_true_iff]; omega), if_neg (by rw [decide_eq_true_iff]; omega)]
          rfl

set_option maxRecDepth 100000 in
set_option maxHeartbeats 4000000 in
/-- paintsAlike -/
theorem c_X3_paintsAlike {l : Launch} {Y : Yk} (hA : AJ Y.2.2) {I : SI} {J : SJ} {n : Nat} {T : Nat → Nat → Nat} {L : Nat → Nat → Nat → Nat} (hv : CV I n T L) {K : Nat → Nat → Nat} (hc : CC I n K) {m : Nat} (hm : m ≤ 18) (hnum : I 10 0 0 = nI m)  : MX l Y yX3_paintsAlike cX3_paintsAlike 3 (some .boolean) 1 40 [.ref (Y.2.2 10 0), .ref (Y.2.2 1 0)] I J (fun v' I' J' => ∃ (b : Bool) (F : Nat → Nat → Int32), v' = some (.int (bI b)) ∧ I' = sK I 14 F ∧ J' = J ∧ (b = true ↔ ∀ x, x < m → ct (fun u => decide (K 0 u = x)) n = ct (fun u => decide (K 1 u = x)) n)) := by
  refine MX.of hA (by decide) (own := RX3) rfl rfl rfl ?_
  intro X Z hl hY1 hY2 hY3 C hr
  obtain ⟨D0, ca0, ad0⟩ := Y
  dsimp only at hA hY1 hY2 hY3
  subst hY1; subst hY2; subst hY3; subst hl
  show G X 3 Z (QG X Z _) I J 0 [(0, .ref (Z.2.2.1 10 0)), (1, .ref (Z.2.2.1 1 0))] []
  obtain ⟨⟨hn1, hn9⟩, -⟩ := id hv
  refine g_aldn C dX3_paintsAlike_0 rfl ?_
  refine g_get C 10 0 (by decide) (by decide) u3 rfl 4 rfl fX3_21 rfl rfl dX3_paintsAlike_1 ?_
  refine g_iconst C ((nI 0)) dX3_paintsAlike_4 (by decide) ?_
  refine g_callS (As := [.ref (Z.2.2.1 14 0), .int (nI 0)]) (st := []) C (c_fillI hA (k := 14) (r := 0) (n := 18) (by decide) (by decide) (fun _ _ => rfl) (by decide)) wJ7_fill_53178 tJ7_fill_53178 mX3_58 rfl rfl rfl rfl dX3_paintsAlike_5 ?_
  rintro v9 I9 J9 ⟨h91, h92, h93⟩
  rw [h91, h92, h93]
  clear h91 h92 h93 v9 I9 J9
  show G X _ Z _ (sK I 14 (va_up (I 14) 0 (fl (I 14 0) 18 (nI 0)))) J 8 [(0, .ref (Z.2.2.1 10 0)), (1, .ref (Z.2.2.1 1 0))] []
  refine g_iconst C ((nI 0)) dX3_paintsAlike_8 (by decide) ?_
  refine g_istn (lv' := [(2, .int (nI 0)), (0, .ref (Z.2.2.1 10 0)), (1, .ref (Z.2.2.1 1 0))]) C dX3_paintsAlike_9 rfl rfl ?_
  refine g_lv [1, 2, 0] rfl ?_
  exact l_X3_paintsAlike_10 hA C hr hv hc hm hnum (n + 1) 0 _ (by omega) (by omega) (fun x hx => by rw [va_up_self, fl_lt hx]; rfl)

