/-! ===== the reference: write, form, compare ===== -/
def wrP (I : SI) (J : SJ) (n : Nat) (T : Nat → Nat → Nat) (L : Nat → Nat → Nat → Nat) (ah : Bool) (nm : Nat → Nat) (g : Nat) : Option Value → SI → SJ → Prop := fun v' I' J' => v' = none ∧ J' = J ∧ (∀ q, q < 27 → I' q = I q) ∧ MI I' n T L ah nm ∧ MFk I' n T L g ∧ ∀ h, h < 2 → MFk I n T L h → MFk I' n T L h
theorem wr_fin {I K : SI} {J : SJ} {n : Nat} {T : Nat → Nat → Nat} {L : Nat → Nat → Nat → Nat} {ah : Bool} {nm : Nat → Nat} {g : Nat} {fb : Nat → Nat} {no : Bool} (hg : g < 2) (hm : MI I n T L ah nm) (hK : (∀ q, q ≠ 31 → q ≠ 34 → q ≠ 35 → K q = (sK I 33 (up2 (I 33) 0 g (nI 1))) q) ∧ (∀ h, h < 2 → h ≠ g → ∀ k, k < 81 → K 34 0 (81 * h + k) = (sK I 33 (up2 (I 33) 0 g (nI 1))) 34 0 (81 * h + k)) ∧ (no = false → nmg n fb ∧ ∀ k, k < n * n → K 34 0 (81 * g + k) = nI (Df T L g fb k))) (hc : ∀ f2, nmg n f2 → Cvr n T L g no fb f2) : wrP I J n T L ah nm g none K J := by
  obtain ⟨h1, h2, h3⟩ := hK
  have hn9 := hm.1.1.2
  have hnn : n * n ≤ 9 * 9 := Nat.mul_le_mul hn9 hn9
  have hid : nmg n (fun i => i) := ⟨fun i hi => hi, fun i j _ _ e => e⟩
  have hno := (hc _ hid).1
  obtain ⟨h4, h5⟩ := h3 hno
  have hmf : MFk K n T L g := ⟨Df T L g fb, fun k hk => ⟨h5 k hk, Df4 (hm.1.sm4 hg) (fun a ha => h4.1 a ha) hk⟩, ⟨fb, h4, fun _ _ => rfl⟩, fun f2 hf => (hc f2 hf).2⟩
  have ho : ∀ q, q ≠ 31 → q ≠ 34 → q ≠ 35 → q ≠ 33 → K q = I q := fun q a b c d => by rw [h1 q a b c, sK_ne d]
  have hkp : ∀ h, h < 2 → MFk I n T L h → MFk K n T L h := fun h hh q => by
    by_cases e : h = g
    · rw [e]; exact hmf
    · obtain ⟨R, q1, q2⟩ := q
      exact ⟨R, fun k hk => by rw [h2 h hh e k (by omega), sK_ne (by decide)]; exact q1 k hk, q2⟩
  refine ⟨rfl, rfl, fun q hq => ho q (by omega) (by omega) (by omega) (by omega), ⟨hm.1.of (by rw [ho 27 (by decide) (by decide) (by decide) (by decide)]) (ho 28 (by decide) (by decide) (by decide) (by decide)) (ho 29 (by decide) (by decide) (by decide) (by decide)), by rw [ho 27 (by decide) (by decide) (by decide) (by decide)]; exact hm.2.1, by rw [ho 30 (by decide) (by decide) (by decide) (by decide)]; exact hm.2.2.1, ?_, fun h hh => ?_⟩, hmf, hkp⟩
  · unfold MPk
    rw [ho 27 (by decide) (by decide) (by decide) (by decide), ho 36 (by decide) (by decide) (by decide) (by decide)]
    exact hm.2.2.2.1
  · have e33 : K 33 = up2 (I 33) 0 g (nI 1) := by rw [h1 33 (by decide) (by decide) (by decide), sK_self]
    by_cases e : h = g
    · subst e
      exact ⟨true, by rw [e33, up2_self]; rfl, fun _ => hmf⟩
    · obtain ⟨hf, q1, q2⟩ := hm.2.2.2.2 h hh
      exact ⟨hf, by rw [e33, up2_ne e]; exact q1, fun q => hkp h hh (q2 q)⟩
theorem WC.zero {n : Nat} {Cv : (Nat → Nat) → Prop} {f : Nat → Nat} (hn : 1 ≤ n) : WC n Cv f 0 0 := ⟨by omega, Nat.zero_le n, fun a ha => absurd ha (Nat.not_lt_zero a), fun f2 _ => Or.inr (fun ⟨k, q1, _, q3⟩ => by
  have e : k = 0 := by omega
  subst e
  rw [va_up_self] at q3
  omega)⟩
set_option maxRecDepth 100000 in
set_option maxHeartbeats 4000000 in
/-- write -/
theorem c_X6_write {l : Launch} {Y : Yk} (hA : AJ Y.2.2) {I : SI} {J : SJ} {n : Nat} {T : Nat → Nat → Nat} {L : Nat → Nat → Nat → Nat} {ah : Bool} {nm : Nat → Nat} (hm : MI I n T L ah nm) {g : Nat} (hg : g < 2)  : MX l Y yX6_write cX6_write 6 (none) 2 120 [.ref (Y.2.2 27 0), .int (nI g)] I J (wrP I J n T L ah nm g) := by
  refine MX.of hA (by decide) (own := RX6) rfl rfl rfl ?_
  intro X Z hl hY1 hY2 hY3 C hr
  obtain ⟨D0, ca0, ad0⟩ := Y
  dsimp only at hA hY1 hY2 hY3
  subst hY1; subst hY2; subst hY3; subst hl
  show G X 6 Z (QG X Z _) I J 0 [(0, .ref (Z.2.2.1 27 0)), (1, .int (nI g))] []
  have hv := hm.1
  obtain ⟨⟨hn1, hn9⟩, -⟩ := id hv
  obtain ⟨hf, hf1, hf2⟩ := hm.2.2.2.2 g hg
  refine g_aldn C dX6_write_0 rfl ?_
  refine g_get C 27 0 (by decide) (by decide) u6 rfl 7 rfl fX6_29 rfl rfl dX6_write_1 ?_
  refine g_ildn C dX6_write_4 rfl ?_
  refine g_zald C 33 0 (by decide) (by decide) (fun _ _ => rfl) g (show g < 2 by omega) rfl dX6_write_5 (v := (bI hf)) hf1 ?_
  refine b_if_eq (tgt := 10) C dX6_write_6 rfl (fun c6 => ?_) (fun c6 => ?_)
  · refine g_aldn C dX6_write_10 rfl ?_
    refine g_get C 27 0 (by decide) (by decide) u6 rfl 7 rfl fX6_29 rfl rfl dX6_write_11 ?_
    refine g_ildn C dX6_write_14 rfl ?_
    refine g_iconst C ((nI 1)) dX6_write_15 (by decide) ?_
    refine g_zast C 33 0 (by decide) (by decide) (fun _ _ => rfl) g (show g < 2 by omega) rfl (by decide) dX6_write_16 ?_
    refine g_I (I1 := sK I 33 (up2 (I 33) 0 g (nI 1))) rfl ?_
    refine g_iconst C ((nI 1)) dX6_write_17 (by decide) ?_
    refine g_istn (lv' := [(2, .int (nI 1)), (0, .ref (Z.2.2.1 27 0)), (1, .int (nI g))]) C dX6_write_18 rfl rfl ?_
    refine g_iconst C ((nI 0)) dX6_write_19 (by decide) ?_
    refine g_istn (lv' := [(3, .int (nI 0)), (2, .int (nI 1)), (0, .ref (Z.2.2.1 27 0)), (1, .int (nI g))]) C dX6_write_20 rfl rfl ?_
    refine g_aldn C dX6_write_21 rfl ?_
    refine g_get C 27 0 (by decide) (by decide) u6 rfl 5 rfl fX6_23 rfl rfl dX6_write_22 ?_
    refine g_iconst C ((nI 0)) dX6_write_25 (by decide) ?_
    refine g_iconst C ((-1)) dX6_write_26 (by decide) ?_
    refine g_iast C 31 0 (by decide) (by decide) (fun _ _ => rfl) 0 (show 0 < 9 by omega) rfl dX6_write_27 ?_
    refine g_I (I1 := sK (sK I 33 (up2 (I 33) 0 g (nI 1))) 31 (up2 ((sK I 33 (up2 (I 33) 0 g (nI 1))) 31) 0 0 (-1))) rfl ?_
    refine g_lv (lv1 := [(0, .ref (Z.2.2.1 27 0)), (1, .int (nI g)), (2, .int (bI true)), (3, .int (nI 0))]) [2, 3, 1, 0] rfl ?_
    exact l_X6_write_28 (I := (sK I 33 (up2 (I 33) 0 g (nI 1)))) hA C hr (hv.of (I' := (sK I 33 (up2 (I 33) 0 g (nI 1)))) (by rw [sK_ne (by decide)]) (sK_ne (by decide)) (sK_ne (by decide))) hg (fun K fb no h1 h2 => wr_fin hg hm h1 h2) (10 ^ n * 10 + 10 + 1) (fun i => i) 0 0 true (fun i => i) _ (by omega) (WC.zero hn1) ⟨fun q z1 _ _ => sK_ne z1, fun a ha => absurd ha (Nat.not_lt_zero a), fun r hr3 => absurd hr3 (Nat.not_lt_zero r), fun h _ _ k _ => by rw [sK_ne (by decide)], fun q => absurd q (by decide)⟩ (by rw [sK_self, up2_self]; decide)
  · exact g_return C hr dX6_write_9 ⟨rfl, rfl, fun _ _ => rfl, hm, hf2 c6, fun _ _ h => h⟩

set_option maxRecDepth 100000 in
set_option maxHeartbeats 4000000 in
/-- form -/
theorem c_X6_form {l : Launch} {Y : Yk} (hA : AJ Y.2.2) {I : SI} {J : SJ} {n : Nat} {T : Nat → Nat → Nat} {L : Nat → Nat → Nat → Nat} {ah : Bool} {nm : Nat → Nat} (hm : MI I n T L ah nm) (g i : Int32) : MX l Y yX6_form cX6_form 3 (some .int) 3 160 [.ref (Y.2.2 27 0), .int g, .int i] I J (fun v' I' J' => if isG g && decide (0 ≤ i ∧ i < nI (n * n)) then ∃ a ki R, a < 2 ∧ g = nI a ∧ i = nI ki ∧ ki < n * n ∧ mfr n T L a R ∧ mP I J (nI (R ki)) n T L ah nm v' I' J' else mP I J (-1) n T L ah nm v' I' J') := by
  refine MX.of hA (by decide) (own := RX6) rfl rfl rfl ?_
  intro X Z hl hY1 hY2 hY3 C hr
  obtain ⟨D0, ca0, ad0⟩ := Y
  dsimp only at hA hY1 hY2 hY3
  subst hY1; subst hY2; subst hY3; subst hl
  show G X 3 Z (QG X Z _) I J 0 [(0, .ref (Z.2.2.1 27 0)), (1, .int g), (2, .int i)] []
  have hv := hm.1
  obtain ⟨⟨hn1, hn9⟩, -⟩ := id hv
  refine g_ildn C dX6_form_0 rfl ?_
  refine g_callS (As := [.int g]) (st := []) C (c_X6_isGraph hA g) wX6_isGraph tX6_isGraph mX6_55 rfl rfl rfl rfl dX6_form_1 ?_
  rintro v9 I9 J9 ⟨h91, h92, h93⟩
  rw [h91, h92, h93]
  clear h91 h92 h93 v9 I9 J9
  show G X _ Z _ I J 4 [(0, .ref (Z.2.2.1 27 0)), (1, .int g), (2, .int i)] [.int (bI (isG g))]
  refine b_if_eq (tgt := 24) C dX6_form_4 rfl (fun c4 => ?_) (fun c4 => ?_)
  · refine g_iconst C ((-1)) dX6_form_24 (by decide) ?_
    exact g_ireturn C hr dX6_form_25 (by rw [if_neg (by first | (rw [c4]; simp; done) | (rw [decide_eq_false (fun q => absurd q.1 (Int32.not_le.mpr c8))]; simp; done) | (rw [decide_eq_false (fun q => c21 q.2)]; simp; done))]; exact ⟨rfl, rfl, fun _ _ => rfl, hm⟩)
  · refine g_ildn C dX6_form_7 rfl ?_
    refine g_if_lt (tgt := 24) C dX6_form_8 rfl (fun c8 => ?_) (fun c8 => ?_)
    · refine g_iconst C ((-1)) dX6_form_24 (by decide) ?_
      exact g_ireturn C hr dX6_form_25 (by rw [if_neg (by first | (rw [c4]; simp; done) | (rw [decide_eq_false (fun q => absurd q.1 (Int32.not_le.mpr c8))]; simp; done) | (rw [decide_eq_false (fun q => c21 q.2)]; simp; done))]; exact ⟨rfl, rfl, fun _ _ => rfl, hm⟩)
    · refine g_ildn C dX6_form_11 rfl ?_
      refine g_aldn C dX6_form_12 rfl ?_
      refine g_get C 27 0 (by decide) (by decide) u6 rfl 0 rfl fX6_7 rfl rfl dX6_form_13 ?_
      refine g_top (y := (nI n)) hv.2.1 ?_
      refine g_aldn C dX6_form_16 rfl ?_
      refine g_get C 27 0 (by decide) (by decide) u6 rfl 0 rfl fX6_7 rfl rfl dX6_form_17 ?_
      refine g_top (y := (nI n)) hv.2.1 ?_
      refine g_imul (v := (nI (n * n))) C dX6_form_20 (pk_mul _ _) ?_
      refine g_icmp_lt (tgt := 26) C dX6_form_21 rfl (fun c21 => ?_) (fun c21 => ?_)
      · have hok : (isG g && decide (0 ≤ i ∧ i < nI (n * n))) = true := by rw [c4, decide_eq_true ⟨Int32.not_lt.mp c8, c21⟩]; rfl
        obtain ⟨a, ha, rfl⟩ := isG_t c4
        obtain ⟨ki, hk0, rfl⟩ := ge0_of (Int32.not_lt.mp c8)
        have hnn : n * n ≤ 9 * 9 := Nat.mul_le_mul hn9 hn9
        have hki : ki < n * n := (nI_ltI hk0 (by omega)).mp c21
        refine g_aldn C dX6_form_26 rfl ?_
        refine g_ildn C dX6_form_27 rfl ?_
        refine g_callV (As := [.int (nI a)]) (st := []) C (c_X6_write hA hm (g := a) (by omega)) wX6_write iX6_write sX6_write mX6_114 27 0 (by decide) (by decide) rfl rfl rfl rfl rfl rfl rfl rfl dX6_form_28 ?_
        rintro v9 I2 J9 ⟨h91, h93, hkI2, hmI2, hfI2, hpI2⟩
        rw [h91, h93]
        clear h91 h93 v9 J9
        show G X _ Z _ I2 J 31 [(0, .ref (Z.2.2.1 27 0)), (1, .int (nI a)), (2, .int (nI ki))] []
        obtain ⟨R, hR1, hR2⟩ := hfI2
        refine g_aldn C dX6_form_31 rfl ?_
        refine g_get C 27 0 (by decide) (by decide) u6 rfl 8 rfl fX6_33 rfl rfl dX6_form_32 ?_
        refine g_bipush C ((nI 81)) dX6_form_35 (by decide) ?_
        refine g_ildn C dX6_form_37 rfl ?_
        refine g_imul (v := (nI (81 * a))) C dX6_form_38 (pk_mul _ _) ?_
        refine g_ildn C dX6_form_39 rfl ?_
        refine g_iadd (v := (nI (81 * a + ki))) C dX6_form_40 (nI_add _ _) ?_
        refine g_iald C 34 0 (by decide) (by decide) (fun _ _ => rfl) (81 * a + ki) (show 81 * a + ki < 162 by omega) rfl dX6_form_41 (v := (nI (R ki))) (hR1 ki hki).1 ?_
        exact g_ireturn C hr dX6_form_42 (by rw [if_pos hok]; exact ⟨a, ki, R, ha, rfl, rfl, hki, hR2, rfl, rfl, hkI2, hmI2⟩)
      · refine g_iconst C ((-1)) dX6_form_24 (by decide) ?_
        exact g_ireturn C hr dX6_form_25 (by rw [if_neg (by first | (rw [c4]; simp; done) | (rw [decide_eq_false (fun q => absurd q.1 (Int32.not_le.mpr c8))]; simp; done) | (rw [decide_eq_false (fun q => c21 q.2)]; simp; done))]; exact ⟨rfl, rfl, fun _ _ => rfl, hm⟩)

set_option maxRecDepth 100000 in
set_option maxHeartbeats 4000000 in
theorem l_X6_compare_22 {X : Pk} {Z : Zk} {I : SI} {J : SJ} (hA : AJ Z.2.2.1) (C : Cx X cX6_compare 5 RX6 Z 3 160) (hr : (xE X).sig.returnType = some .int) {n : Nat} {T : Nat → Nat → Nat} {L : Nat → Nat → Nat → Nat} (hv : MV I n T L) {a : Nat} (ha : a < 2) {A B : Nat → Nat} (hA1 : ∀ k, k < n * n → I 34 0 (81 * a + k) = nI (A k) ∧ A k < 4) (hB1 : ∀ k, k < n * n → I 34 0 (81 * (1 - a) + k) = nI (B k) ∧ B k < 4) {post : Option Value → SI → SJ → Prop} (hpost : ∀ c : Int32, ((c = -1 ∧ lx (n * n) A B) ∨ (c = 0 ∧ ∀ k, k < n * n → A k = B k) ∨ (c = 1 ∧ lx (n * n) B A)) → post (some (.int c)) I J) : ∀ (k : Nat) (k2 : Nat), n * n - k2 < k → (k2 ≤ n * n) → (∀ j, j < k2 → A j = B j) → G X 5 Z (QG X Z post) (I) (J) 22 [(0, .ref (Z.2.2.1 27 0)), (1, .int (nI a)), (2, .int (nI k2))] [] := by
  obtain ⟨⟨hn1, hn9⟩, -⟩ := id hv
  intro k
  induction k with
  | zero => intro k2 h; exact absurd h (by omega)
  | succ k ih =>
    intro k2 hk hk2 hin
    have hnn : n * n ≤ 9 * 9 := Nat.mul_le_mul hn9 hn9
    have a4 : k2 < n * n → A k2 < 4 := fun h => (hA1 k2 h).2
    have b4 : k2 < n * n → B k2 < 4 := fun h => (hB1 k2 h).2
    refine g_ildn C dX6_compare_22 rfl ?_
    refine g_aldn C dX6_compare_23 rfl ?_
    refine g_get C 27 0 (by decide) (by decide) u6 rfl 0 rfl fX6_7 rfl rfl dX6_compare_24 ?_
    refine g_top (y := (nI n)) hv.2.1 ?_
    refine g_aldn C dX6_compare_27 rfl ?_
    refine g_get C 27 0 (by decide) (by decide) u6 rfl 0 rfl fX6_7 rfl rfl dX6_compare_28 ?_
    refine g_top (y := (nI n)) hv.2.1 ?_
    refine g_imul (v := (nI (n * n))) C dX6_compare_31 (pk_mul _ _) ?_
    refine n_icmp_ge (tgt := 86) C dX6_compare_32 rfl (by omega) (by omega) (fun c32 => ?_) (fun c32 => ?_)
    · refine g_iconst C ((nI 0)) dX6_compare_86 (by decide) ?_
      exact g_ireturn C hr dX6_compare_87 (hpost 0 (Or.inr (Or.inl ⟨rfl, fun k hk => hin k (by omega)⟩)))
    · refine g_aldn C dX6_compare_35 rfl ?_
      refine g_get C 27 0 (by decide) (by decide) u6 rfl 8 rfl fX6_33 rfl rfl dX6_compare_36 ?_
      refine g_bipush C ((nI 81)) dX6_compare_39 (by decide) ?_
      refine g_ildn C dX6_compare_41 rfl ?_
      refine g_imul (v := (nI (81 * a))) C dX6_compare_42 (pk_mul _ _) ?_
      refine g_ildn C dX6_compare_43 rfl ?_
      refine g_iadd (v := (nI (81 * a + k2))) C dX6_compare_44 (nI_add _ _) ?_
      refine g_iald C 34 0 (by decide) (by decide) (fun _ _ => rfl) (81 * a + k2) (show 81 * a + k2 < 162 by omega) rfl dX6_compare_45 (v := (nI (A k2))) (hA1 k2 (by omega)).1 ?_
      refine g_istn (lv' := [(3, .int (nI (A k2))), (0, .ref (Z.2.2.1 27 0)), (1, .int (nI a)), (2, .int (nI k2))]) C dX6_compare_46 rfl rfl ?_
      refine g_aldn C dX6_compare_47 rfl ?_
      refine g_get C 27 0 (by decide) (by decide) u6 rfl 8 rfl fX6_33 rfl rfl dX6_compare_48 ?_
      refine g_bipush C ((nI 81)) dX6_compare_51 (by decide) ?_
      refine g_iconst C ((nI 1)) dX6_compare_53 (by decide) ?_
      refine g_ildn C dX6_compare_54 rfl ?_
      refine g_isub (v := (nI (1 - a))) C dX6_compare_55 (pk_sub (by omega)) ?_
      refine g_imul (v := (nI (81 * (1 - a)))) C dX6_compare_56 (pk_mul _ _) ?_
      refine g_ildn C dX6_compare_57 rfl ?_
      refine g_iadd (v := (nI (81 * (1 - a) + k2))) C dX6_compare_58 (nI_add _ _) ?_
      refine g_iald C 34 0 (by decide) (by decide) (fun _ _ => rfl) (81 * (1 - a) + k2) (show 81 * (1 - a) + k2 < 162 by omega) rfl dX6_compare_59 (v := (nI (B k2))) (hB1 k2 (by omega)).1 ?_
      refine g_ist (lv' := [(4, .int (nI (B k2))), (3, .int (nI (A k2))), (0, .ref (Z.2.2.1 27 0)), (1, .int (nI a)), (2, .int (nI k2))]) C dX6_compare_60 rfl rfl ?_
      refine g_ildn C dX6_compare_62 rfl ?_
      refine g_ild C dX6_compare_63 rfl ?_
      refine n_icmp_eq (tgt := 80) C dX6_compare_65 rfl (by omega) (by omega) (fun c65 => ?_) (fun c65 => ?_)
      · refine g_iinc (lv' := [(2, .int (nI (k2 + 1))), (4, .int (nI (B k2))), (3, .int (nI (A k2))), (0, .ref (Z.2.2.1 27 0)), (1, .int (nI a))]) C ((nI (k2 + 1))) dX6_compare_80 rfl (inc1 _) rfl rfl ?_
        refine g_goto (tgt := 22) C dX6_compare_83 rfl ?_
        refine g_lv [3, 4, 0] rfl ?_
        exact ih (k2 + 1) (by omega) (by omega) (fun j hj => (Nat.lt_or_eq_of_le (Nat.le_of_lt_succ hj)).elim (hin j) (fun e => by rw [e]; exact c65))
      · refine g_ildn C dX6_compare_68 rfl ?_
        refine g_ild C dX6_compare_69 rfl ?_
        refine n_icmp_ge (tgt := 78) C dX6_compare_71 rfl (by omega) (by omega) (fun c71 => ?_) (fun c71 => ?_)
        · refine g_iconst C ((nI 1)) dX6_compare_78 (by decide) ?_
          exact g_ireturn C hr dX6_compare_79 (hpost 1 (Or.inr (Or.inr ⟨rfl, k2, by omega, fun j hj => (hin j hj).symm, by omega⟩)))
        · refine g_iconst C ((-1)) dX6_compare_74 (by decide) ?_
          refine g_goto (tgt := 79) C dX6_compare_75 rfl ?_
          exact g_ireturn C hr dX6_compare_79 (hpost (-1) (Or.inl ⟨rfl, k2, by omega, hin, by omega⟩))

set_option maxRecDepth 100000 in
set_option maxHeartbeats 4000000 in
/-- compare -/
theorem c_X6_compare {l : Launch} {Y : Yk} (hA : AJ Y.2.2) {I : SI} {J : SJ} {n : Nat} {T : Nat → Nat → Nat} {L : Nat → Nat → Nat → Nat} {ah : Bool} {nm : Nat → Nat} (hm : MI I n T L ah nm) (g : Int32) : MX l Y yX6_compare cX6_compare 5 (some .int) 3 160 [.ref (Y.2.2 27 0), .int g] I J (fun v' I' J' => if isG g then ∃ a c R R2, a < 2 ∧ g = nI a ∧ mfr n T L a R ∧ mfr n T L (1 - a) R2 ∧ ((c = -1 ∧ lx (n * n) R R2) ∨ (c = 0 ∧ ∀ k, k < n * n → R k = R2 k) ∨ (c = 1 ∧ lx (n * n) R2 R)) ∧ mP I J c n T L ah nm v' I' J' else mP I J (-2) n T L ah nm v' I' J') := by
  refine MX.of hA (by decide) (own := RX6) rfl rfl rfl ?_
  intro X Z hl hY1 hY2 hY3 C hr
  obtain ⟨D0, ca0, ad0⟩ := Y
  dsimp only at hA hY1 hY2 hY3
  subst hY1; subst hY2; subst hY3; subst hl
  show G X 5 Z (QG X Z _) I J 0 [(0, .ref (Z.2.2.1 27 0)), (1, .int g)] []
  have hv := hm.1
  obtain ⟨⟨hn1, hn9⟩, -⟩ := id hv
  refine g_ildn C dX6_compare_0 rfl ?_
  refine g_callS (As := [.int g]) (st := []) C (c_X6_isGraph hA g) wX6_isGraph tX6_isGraph mX6_55 rfl rfl rfl rfl dX6_compare_1 ?_
  rintro v9 I9 J9 ⟨h91, h92, h93⟩
  rw [h91, h92, h93]
  clear h91 h92 h93 v9 I9 J9
  show G X _ Z _ I J 4 [(0, .ref (Z.2.2.1 27 0)), (1, .int g)] [.int (bI (isG g))]
  refine b_if_ne (tgt := 10) C dX6_compare_4 rfl (fun c4 => ?_) (fun c4 => ?_)
  · obtain ⟨a, ha, rfl⟩ := isG_t c4
    refine g_aldn C dX6_compare_10 rfl ?_
    refine g_iconst C ((nI 0)) dX6_compare_11 (by decide) ?_
    refine g_callV (As := [.int (nI 0)]) (st := []) C (c_X6_write hA hm (g := 0) (by omega)) wX6_write iX6_write sX6_write mX6_114 27 0 (by decide) (by decide) rfl rfl rfl rfl rfl rfl rfl rfl dX6_compare_12 ?_
    rintro v9 I2 J9 ⟨h91, h93, hkI2, hmI2, hfI2, hpI2⟩
    rw [h91, h93]
    clear h91 h93 v9 J9
    show G X _ Z _ I2 J 15 [(0, .ref (Z.2.2.1 27 0)), (1, .int (nI a))] []
    refine g_aldn C dX6_compare_15 rfl ?_
    refine g_iconst C ((nI 1)) dX6_compare_16 (by decide) ?_
    refine g_callV (As := [.int (nI 1)]) (st := []) C (c_X6_write hA hmI2 (g := 1) (by omega)) wX6_write iX6_write sX6_write mX6_114 27 0 (by decide) (by decide) rfl rfl rfl rfl rfl rfl rfl rfl dX6_compare_17 ?_
    rintro v9 I3 J9 ⟨h91, h93, hkI3, hmI3, hfI3, hpI3⟩
    rw [h91, h93]
    clear h91 h93 v9 J9
    show G X _ Z _ I3 J 20 [(0, .ref (Z.2.2.1 27 0)), (1, .int (nI a))] []
    refine g_iconst C ((nI 0)) dX6_compare_20 (by decide) ?_
    refine g_istn (lv' := [(2, .int (nI 0)), (0, .ref (Z.2.2.1 27 0)), (1, .int (nI a))]) C dX6_compare_21 rfl rfl ?_
    refine g_lv [1, 2, 0] rfl ?_
    have hall : ∀ h, h < 2 → MFk I3 n T L h := fun h hh => by rcases (show h = 0 ∨ h = 1 by omega) with q | q; rw [q]; exact hpI3 0 (by decide) hfI2; rw [q]; exact hfI3
    obtain ⟨R, hR1, hR2⟩ := hall a ha
    obtain ⟨R2, hS1, hS2⟩ := hall (1 - a) (by omega)
    exact l_X6_compare_22 hA C hr hmI3.1 ha hR1 hS1 (fun c hc => by rw [if_pos c4]; exact ⟨a, c, R, R2, ha, rfl, hR2, hS2, hc, rfl, rfl, fun q hq => (hkI3 q hq).trans (hkI2 q hq), hmI3⟩) (n * n + 1) 0 (by omega) (by omega) (fun j hj => absurd hj (by omega))
  · refine g_bipush C ((-2)) dX6_compare_7 (by decide) ?_
    exact g_ireturn C hr dX6_compare_9 (by rw [if_neg (by rw [c4]; decide)]; exact ⟨rfl, rfl, fun _ _ => rfl, hm⟩)

