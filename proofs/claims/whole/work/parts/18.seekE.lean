/-! ===== NamingSeeker: findFirst, findNext, findSymmetry ===== -/
theorem tkn_0 (f : Nat → Nat) : tkn 0 f 0 := ⟨by decide, fun w => ⟨fun h => absurd h (by simp), fun ⟨j, hj, _⟩ => absurd hj (Nat.not_lt_zero j)⟩⟩
theorem tkn_id {v : Nat} (hv : v ≤ 9) : tkn (2 ^ v - 1) (fun i => i) v := by
  refine ⟨?_, fun w => ?_⟩
  · have h1 : 2 ^ v ≤ 2 ^ 9 := Nat.pow_le_pow_right (by decide) hv
    have h2 : 0 < 2 ^ v := Nat.pow_pos (by decide)
    omega
  · rw [Nat.testBit_two_pow_sub_one, decide_eq_true_iff]
    exact ⟨fun h => ⟨w, h, rfl⟩, fun ⟨j, hj, e⟩ => by subst e; exact hj⟩
theorem tr_id (n : Nat) (K : Nat → Nat → Nat) (L : Nat → Nat → Nat → Nat) (g : Nat) {v : Nat} (hv : v ≤ n) : tr n K L g g (fun i => i) v := fun i hi => ⟨by show i < n; omega, fun j hj => by show j ≠ i; omega, rfl, fun u _ => ⟨rfl, rfl⟩⟩
set_option maxRecDepth 100000 in
set_option maxHeartbeats 4000000 in
/-- findFirst -/
theorem c_X2_findFirst {l : Launch} {Y : Yk} (hA : AJ Y.2.2) {I : SI} {J : SJ} {n : Nat} {T : Nat → Nat → Nat} {K : Nat → Nat → Nat} {L : Nat → Nat → Nat → Nat} (hv : CV I n T L) (hc : CC I n K) {g h q : Nat} (hg : g < 2) (hh : h < 2) (hq : q < 2) {f : Nat → Nat}  : MX l Y yX2_findFirst cX2_findFirst 3 (some .boolean) 12 500 [.ref (Y.2.2 17 q), .ref (Y.2.2 2 g), .ref (Y.2.2 2 h)] I J (plPost n K L g h q 0 false f I J) := by
  refine MX.of hA (by decide) (own := RX2) rfl rfl rfl ?_
  intro X Z hl hY1 hY2 hY3 C hr
  obtain ⟨D0, ca0, ad0⟩ := Y
  dsimp only at hA hY1 hY2 hY3
  subst hY1; subst hY2; subst hY3; subst hl
  show G X 3 Z (QG X Z _) I J 0 [(0, .ref (Z.2.2.1 17 q)), (1, .ref (Z.2.2.1 2 g)), (2, .ref (Z.2.2.1 2 h))] []
  obtain ⟨⟨hn1, hn9⟩, -⟩ := id hv
  refine g_aldn C dX2_findFirst_0 rfl ?_
  refine g_aldn C dX2_findFirst_1 rfl ?_
  refine g_aldn C dX2_findFirst_2 rfl ?_
  refine g_iconst C ((nI 0)) dX2_findFirst_3 (by decide) ?_
  refine g_iconst C ((nI 0)) dX2_findFirst_4 (by decide) ?_
  refine g_iconst C ((nI 0)) dX2_findFirst_5 (by decide) ?_
  refine g_top (y := bI false) rfl ?_
  refine g_callV (As := [.ref (Z.2.2.1 2 g), .ref (Z.2.2.1 2 h), .int (nI 0), .int (nI 0), .int (bI false)]) (st := []) C (c_X2_place hA hg hh hq n I J 0 0 false f (by omega) ⟨hv, hc, Nat.zero_le _, fun i hi => absurd hi (by omega), tkn_0 f, fun i hi => absurd hi (by omega), fun h => absurd h (by decide)⟩) wX2_place iX2_place sX2_place mX2_15 17 q (by decide) (show q < 2 by omega) rfl rfl rfl rfl rfl rfl rfl (Bool.and_eq_true_iff.mpr ⟨Nat.ble_eq.mpr (by omega), Nat.ble_eq.mpr (by omega)⟩) dX2_findFirst_6 ?_
  rintro v9 I9 J9 hpost
  obtain ⟨b, F, h91, -⟩ := id hpost
  rw [h91]
  show G X _ Z _ I9 J9 9 [(0, .ref (Z.2.2.1 17 q)), (1, .ref (Z.2.2.1 2 g)), (2, .ref (Z.2.2.1 2 h))] [.int (bI b)]
  exact g_zreturn C hr (nar_b _) dX2_findFirst_9 (by rw [← h91]; exact hpost)

set_option maxRecDepth 100000 in
set_option maxHeartbeats 4000000 in
/-- findNext -/
theorem c_X2_findNext {l : Launch} {Y : Yk} (hA : AJ Y.2.2) {I : SI} {J : SJ} {n : Nat} {T : Nat → Nat → Nat} {K : Nat → Nat → Nat} {L : Nat → Nat → Nat → Nat} (hv : CV I n T L) (hc : CC I n K) {g h q : Nat} (hg : g < 2) (hh : h < 2) (hq : q < 2) {f : Nat → Nat} (htr : tr n K L g h f n) (hrow : ∀ i, i < n → I 18 q i = nI (f i))  : MX l Y yX2_findNext cX2_findNext 3 (some .boolean) 12 500 [.ref (Y.2.2 17 q), .ref (Y.2.2 2 g), .ref (Y.2.2 2 h)] I J (plPost n K L g h q 0 true f I J) := by
  refine MX.of hA (by decide) (own := RX2) rfl rfl rfl ?_
  intro X Z hl hY1 hY2 hY3 C hr
  obtain ⟨D0, ca0, ad0⟩ := Y
  dsimp only at hA hY1 hY2 hY3
  subst hY1; subst hY2; subst hY3; subst hl
  show G X 3 Z (QG X Z _) I J 0 [(0, .ref (Z.2.2.1 17 q)), (1, .ref (Z.2.2.1 2 g)), (2, .ref (Z.2.2.1 2 h))] []
  obtain ⟨⟨hn1, hn9⟩, -⟩ := id hv
  refine g_aldn C dX2_findNext_0 rfl ?_
  refine g_aldn C dX2_findNext_1 rfl ?_
  refine g_aldn C dX2_findNext_2 rfl ?_
  refine g_iconst C ((nI 0)) dX2_findNext_3 (by decide) ?_
  refine g_iconst C ((nI 0)) dX2_findNext_4 (by decide) ?_
  refine g_iconst C ((nI 1)) dX2_findNext_5 (by decide) ?_
  refine g_top (y := bI true) rfl ?_
  refine g_callV (As := [.ref (Z.2.2.1 2 g), .ref (Z.2.2.1 2 h), .int (nI 0), .int (nI 0), .int (bI true)]) (st := []) C (c_X2_place hA hg hh hq n I J 0 0 true f (by omega) ⟨hv, hc, Nat.zero_le _, fun i hi => absurd hi (by omega), tkn_0 f, fun i hi => absurd hi (by omega), fun _ => ⟨htr, hrow⟩⟩) wX2_place iX2_place sX2_place mX2_15 17 q (by decide) (show q < 2 by omega) rfl rfl rfl rfl rfl rfl rfl (Bool.and_eq_true_iff.mpr ⟨Nat.ble_eq.mpr (by omega), Nat.ble_eq.mpr (by omega)⟩) dX2_findNext_6 ?_
  rintro v9 I9 J9 hpost
  obtain ⟨b, F, h91, -⟩ := id hpost
  rw [h91]
  show G X _ Z _ I9 J9 9 [(0, .ref (Z.2.2.1 17 q)), (1, .ref (Z.2.2.1 2 g)), (2, .ref (Z.2.2.1 2 h))] [.int (bI b)]
  exact g_zreturn C hr (nar_b _) dX2_findNext_9 (by rw [← h91]; exact hpost)

/-- f leaves each vertex before v and leads v to w -/
def syn (n : Nat) (K : Nat → Nat → Nat) (L : Nat → Nat → Nat → Nat) (g v w : Nat) (f : Nat → Nat) : Prop := tr n K L g g f n ∧ (∀ i, i < v → f i = i) ∧ f v = w
def fsPost (n : Nat) (K : Nat → Nat → Nat) (L : Nat → Nat → Nat → Nat) (g q v w : Nat) (I : SI) (J : SJ) : Option Value → SI → SJ → Prop := fun v' I' J' =>
  ∃ (b : Bool) (F : Nat → Nat → Int32), v' = some (.int (bI b)) ∧ I' = sK I 18 F ∧ J' = J ∧ (∀ r, r ≠ q → F r = I 18 r) ∧ (b = true → ∃ f', (∀ i, i < n → F q i = nI (f' i)) ∧ syn n K L g v w f') ∧ (b = false → ∀ f2, ¬ syn n K L g v w f2)
set_option maxRecDepth 100000 in
set_option maxHeartbeats 4000000 in
theorem l_X2_findSymmetry_3 {X : Pk} {Z : Zk} {I : SI} {J : SJ} (hA : AJ Z.2.2.1) (C : Cx X cX2_findSymmetry 5 RX2 Z 12 500) (hr : (xE X).sig.returnType = some .boolean) {n : Nat} {T : Nat → Nat → Nat} {K : Nat → Nat → Nat} {L : Nat → Nat → Nat → Nat} (hv : CV I n T L) (hc : CC I n K) {g q : Nat} (hg : g < 2) (hq : q < 2) {v w : Nat} (hvw : v < w) (hwn : w < n)  : ∀ k u F, v - u < k → u ≤ v → (∀ r, r ≠ q → F r = I 18 r) → (∀ i, i < u → F q i = nI i) → G X 5 Z (QG X Z (fsPost n K L g q v w I J)) (sK I 18 F) J 3 [(0, .ref (Z.2.2.1 17 q)), (1, .ref (Z.2.2.1 2 g)), (2, .int (nI v)), (3, .int (nI w)), (4, .int (nI u))] [] := by
  obtain ⟨⟨hn1, hn9⟩, -⟩ := id hv
  have hp2 : 1 ≤ 2 ^ v := Nat.pow_pos (by decide)
  intro k
  induction k with
  | zero => intro u F h; exact absurd h (by omega)
  | succ k ih =>
    intro u F hk huv hF1 hF2
    refine g_ild C dX2_findSymmetry_3 rfl ?_
    refine g_ildn C dX2_findSymmetry_5 rfl ?_
    refine n_icmp_ge (tgt := 24) C dX2_findSymmetry_6 rfl (by omega) (by omega) (fun c6 => ?_) (fun c6 => ?_)
    · refine g_aldn C dX2_findSymmetry_24 rfl ?_
      refine g_aldn C dX2_findSymmetry_25 rfl ?_
      refine g_aldn C dX2_findSymmetry_26 rfl ?_
      refine g_ildn C dX2_findSymmetry_27 rfl ?_
      refine g_ildn C dX2_findSymmetry_28 rfl ?_
      refine g_callV (As := [.ref (Z.2.2.1 2 g), .ref (Z.2.2.1 2 g), .int (nI v), .int (nI w)]) (st := []) C (c_X2_fits hA (f := fun i => i) (hv.of (sK_ne (by decide)) (sK_ne (by decide)) (sK_ne (by decide))) (hc.of (sK_ne (by decide))) hg hg hq (show v < n by omega) hwn (fun i hi => ⟨hF2 i (by omega), by show i < n; omega⟩)) wX2_fits iX2_fits sX2_fits mX2_19 17 q (by decide) (show q < 2 by omega) rfl rfl rfl rfl rfl rfl rfl rfl dX2_findSymmetry_29 ?_
      rintro v9 I9 J9 ⟨b, h91, hb, h92, h93⟩
      rw [h91, h92, h93]
      clear h91 h92 h93 v9 I9 J9
      show G X _ Z _ (sK I 18 F) J 32 [(0, .ref (Z.2.2.1 17 q)), (1, .ref (Z.2.2.1 2 g)), (2, .int (nI v)), (3, .int (nI w)), (4, .int (nI u))] [.int (bI b)]
      refine b_if_ne (tgt := 37) C dX2_findSymmetry_32 rfl (fun c32 => ?_) (fun c32 => ?_)
      · refine g_aldn C dX2_findSymmetry_37 rfl ?_
        refine g_get C 17 q (by decide) (show q < 2 by omega) u2 rfl 0 rfl fX2_9 rfl rfl dX2_findSymmetry_38 ?_
        refine g_ildn C dX2_findSymmetry_41 rfl ?_
        refine g_ildn C dX2_findSymmetry_42 rfl ?_
        refine g_iast C 18 q (by decide) (show q < 2 by omega) (fun _ _ => rfl) v (show v < 9 by omega) rfl dX2_findSymmetry_43 ?_
        refine g_I (I1 := sK I 18 (up2 F q v (nI w))) (by rw [sK_self, sK_sK]) ?_
        refine g_iconst C ((nI 1)) dX2_findSymmetry_44 (by decide) ?_
        refine g_ildn C dX2_findSymmetry_45 rfl ?_
        refine g_ishl (v := (nI (2 ^ v))) C dX2_findSymmetry_46 (shl1 v (by omega)) ?_
        refine g_iconst C ((nI 1)) dX2_findSymmetry_47 (by decide) ?_
        refine g_isub (v := (nI (2 ^ v - 1))) C dX2_findSymmetry_48 (pk_sub hp2) ?_
        refine g_iconst C ((nI 1)) dX2_findSymmetry_49 (by decide) ?_
        refine g_ildn C dX2_findSymmetry_50 rfl ?_
        refine g_ishl (v := (nI (2 ^ w))) C dX2_findSymmetry_51 (shl1 w (by omega)) ?_
        refine g_ior (v := (nI (2 ^ v - 1 ||| 2 ^ w))) C dX2_findSymmetry_52 (orI _ _) ?_
        refine g_ist (lv' := [(4, .int (nI (2 ^ v - 1 ||| 2 ^ w))), (0, .ref (Z.2.2.1 17 q)), (1, .ref (Z.2.2.1 2 g)), (2, .int (nI v)), (3, .int (nI w))]) C dX2_findSymmetry_53 rfl rfl ?_
        refine g_aldn C dX2_findSymmetry_55 rfl ?_
        refine g_aldn C dX2_findSymmetry_56 rfl ?_
        refine g_aldn C dX2_findSymmetry_57 rfl ?_
        refine g_ildn C dX2_findSymmetry_58 rfl ?_
        refine g_iconst C ((nI 1)) dX2_findSymmetry_59 (by decide) ?_
        refine g_iadd (v := (nI (v + 1))) C dX2_findSymmetry_60 (nI_add _ _) ?_
        refine g_ild C dX2_findSymmetry_61 rfl ?_
        refine g_iconst C ((nI 0)) dX2_findSymmetry_63 (by decide) ?_
        refine g_top (y := bI false) rfl ?_
        have hpp : plPre (sK I 18 (up2 F q v (nI w))) n T K L g g q (v + 1) (2 ^ v - 1 ||| 2 ^ w) false (va_up (fun i => i) v w) := by
          refine ⟨hv.of (sK_ne (by decide)) (sK_ne (by decide)) (sK_ne (by decide)), hc.of (sK_ne (by decide)), by omega, (tr_id n K L g (by omega)).step hwn (fun j hj => by show j ≠ w; omega) (hb.mp c32), (tkn_id (by omega)).step (by omega), fun i hi => ?_, fun h => absurd h (by decide)⟩
          rw [sK_self]
          by_cases e : i = v
          · subst e; rw [up2_self, va_up_self]
          · rw [up2_ne e, va_up_ne _ _ e]; exact hF2 i (by omega)
        refine g_callV (As := [.ref (Z.2.2.1 2 g), .ref (Z.2.2.1 2 g), .int (nI (v + 1)), .int (nI (2 ^ v - 1 ||| 2 ^ w)), .int (bI false)]) (st := []) C (c_X2_place hA hg hg hq (n - (v + 1)) (sK I 18 (up2 F q v (nI w))) J (v + 1) (2 ^ v - 1 ||| 2 ^ w) false (va_up (fun i => i) v w) (by omega) hpp) wX2_place iX2_place sX2_place mX2_15 17 q (by decide) (show q < 2 by omega) rfl rfl rfl rfl rfl rfl rfl (Bool.and_eq_true_iff.mpr ⟨Nat.ble_eq.mpr (by omega), Nat.ble_eq.mpr (by omega)⟩) dX2_findSymmetry_64 ?_
        rintro v9 I9 J9 ⟨b2, F2, h91, h92, h93, k1, k2, k3, k4⟩
        rw [h91, h92, h93, sK_sK]
        clear h91 h92 h93 v9 I9 J9
        show G X _ Z _ (sK I 18 F2) J 67 [(4, .int (nI (2 ^ v - 1 ||| 2 ^ w))), (0, .ref (Z.2.2.1 17 q)), (1, .ref (Z.2.2.1 2 g)), (2, .int (nI v)), (3, .int (nI w))] [.int (bI b2)]
        exact g_zreturn C hr (nar_b _) dX2_findSymmetry_67 ⟨b2, F2, rfl, rfl, rfl, fun r hr => by rw [k1 r hr, sK_self, up2_row hr]; exact hF1 r hr, fun h => by obtain ⟨f1, m1, m2, m3⟩ := k3 h; exact ⟨f1, m1, m2.1, fun i hi => by rw [m2.2.1 i (by omega), va_up_ne _ _ (by omega)], by rw [m2.2.1 v (by omega), va_up_self]⟩, fun h f2 h2 => k4 h f2 ⟨h2.1, fun i hi => (Nat.lt_or_eq_of_le (Nat.le_of_lt_succ hi)).elim (fun e => by rw [va_up_ne _ _ (by omega)]; exact h2.2.1 i e) (fun e => by subst e; rw [va_up_self]; exact h2.2.2), fun h => absurd h (by decide)⟩⟩
      · refine g_iconst C ((nI 0)) dX2_findSymmetry_35 (by decide) ?_
        exact g_zreturn C hr (by decide) dX2_findSymmetry_36 ⟨false, F, rfl, rfl, rfl, hF1, fun h => absurd h (by decide), fun _ f2 h2 => by obtain ⟨a1, a2, a3⟩ := h2; have a4 := (a1 v (by omega)).2.2; rw [a3] at a4; exact absurd (hb.mpr (a4.of (fun i hi => (a2 i hi).symm))) (by rw [c32]; decide)⟩
    · refine g_aldn C dX2_findSymmetry_9 rfl ?_
      refine g_get C 17 q (by decide) (show q < 2 by omega) u2 rfl 0 rfl fX2_9 rfl rfl dX2_findSymmetry_10 ?_
      refine g_ild C dX2_findSymmetry_13 rfl ?_
      refine g_ild C dX2_findSymmetry_15 rfl ?_
      refine g_iast C 18 q (by decide) (show q < 2 by omega) (fun _ _ => rfl) u (show u < 9 by omega) rfl dX2_findSymmetry_17 ?_
      refine g_I (I1 := sK I 18 (up2 F q u (nI u))) (by rw [sK_self, sK_sK]) ?_
      refine g_iinc (lv' := [(4, .int (nI (u + 1))), (0, .ref (Z.2.2.1 17 q)), (1, .ref (Z.2.2.1 2 g)), (2, .int (nI v)), (3, .int (nI w))]) C ((nI (u + 1))) dX2_findSymmetry_18 rfl (inc1 _) rfl rfl ?_
      refine g_goto (tgt := 3) C dX2_findSymmetry_21 rfl ?_
      refine g_lv [1, 2, 3, 4, 0] rfl ?_
      refine ih (u + 1) _ (by omega) (by omega) (fun r hr => by rw [up2_row hr]; exact hF1 r hr) (fun i hi => ?_)
      rw [up2_at]
      by_cases e : i = u
      · rw [if_pos ⟨rfl, e⟩, e]
      · rw [if_neg (fun q => e q.2)]; exact hF2 i (by omega)

set_option maxRecDepth 100000 in
set_option maxHeartbeats 4000000 in
/-- findSymmetry -/
theorem c_X2_findSymmetry {l : Launch} {Y : Yk} (hA : AJ Y.2.2) {I : SI} {J : SJ} {n : Nat} {T : Nat → Nat → Nat} {K : Nat → Nat → Nat} {L : Nat → Nat → Nat → Nat} (hv : CV I n T L) (hc : CC I n K) {g q : Nat} (hg : g < 2) (hq : q < 2) {v w : Nat} (hvw : v < w) (hwn : w < n)  : MX l Y yX2_findSymmetry cX2_findSymmetry 5 (some .boolean) 12 500 [.ref (Y.2.2 17 q), .ref (Y.2.2 2 g), .int (nI v), .int (nI w)] I J (fsPost n K L g q v w I J) := by
  refine MX.of hA (by decide) (own := RX2) rfl rfl rfl ?_
  intro X Z hl hY1 hY2 hY3 C hr
  obtain ⟨D0, ca0, ad0⟩ := Y
  dsimp only at hA hY1 hY2 hY3
  subst hY1; subst hY2; subst hY3; subst hl
  show G X 5 Z (QG X Z _) I J 0 [(0, .ref (Z.2.2.1 17 q)), (1, .ref (Z.2.2.1 2 g)), (2, .int (nI v)), (3, .int (nI w))] []
  obtain ⟨⟨hn1, hn9⟩, -⟩ := id hv
  refine g_iconst C ((nI 0)) dX2_findSymmetry_0 (by decide) ?_
  refine g_ist (lv' := [(4, .int (nI 0)), (0, .ref (Z.2.2.1 17 q)), (1, .ref (Z.2.2.1 2 g)), (2, .int (nI v)), (3, .int (nI w))]) C dX2_findSymmetry_1 rfl rfl ?_
  refine g_lv [1, 2, 3, 4, 0] rfl ?_
  refine g_I (I1 := sK I 18 (I 18)) (sK_id _ _).symm ?_
  exact l_X2_findSymmetry_3 hA C hr hv hc hg hq hvw hwn (v + 1) 0 (I 18) (by omega) (by omega) (fun _ _ => rfl) (fun i hi => absurd hi (by omega))

