/-! ===== Graph: isAlike, formNumber, empty, become, swap ===== -/
/-- nothing changes if only u and v are exchanged -/
def alk (n : Nat) (T : Nat → Nat → Nat) (L : Nat → Nat → Nat → Nat) (g u v : Nat) : Prop := T g u = T g v ∧ L g u v = L g v u ∧ ∀ w, w < n → w ≠ u → w ≠ v → pr L g u w = pr L g v w
set_option maxRecDepth 100000 in
set_option maxHeartbeats 4000000 in
theorem l_X1_isAlike_38 {X : Pk} {Z : Zk} {I : SI} {J : SJ} (hA : AJ Z.2.2.1) (C : Cx X cX1_isAlike 4 RX1 Z 1 40) (hr : (xE X).sig.returnType = some .boolean) {n : Nat} {T : Nat → Nat → Nat} {L : Nat → Nat → Nat → Nat} (hv : CV I n T L) {g u v : Nat} (hg : g < 2) (hu : u < n) (hw : v < n) (e1 : T g u = T g v) (e2 : L g u v = L g v u) : ∀ k w, n - w < k → w ≤ n → (∀ a, a < w → a ≠ u → a ≠ v → pr L g u a = pr L g v a) → G X 4 Z (QG X Z (fun v' I' J' => ∃ b : Bool, v' = some (.int (bI b)) ∧ (b = true ↔ alk n T L g u v) ∧ I' = I ∧ J' = J)) I J 38 [(0, .ref (Z.2.2.1 2 g)), (1, .int (nI u)), (2, .int (nI v)), (3, .int (nI w))] [] := by
  obtain ⟨⟨hn1, hn9⟩, -⟩ := id hv
  have hp : ∀ a b, a < n → b < n → pr L g a b < 20 := fun a b h1 h2 => by have := hv.l4 hg h1 h2; have := hv.l4 hg h2 h1; unfold pr; omega
  intro k
  induction k with
  | zero => intro v h; exact absurd h (by omega)
  | succ k ih =>
    intro w hk hwn hin
    have hq1 : w < n → pr L g u w < 20 := fun h => hp _ _ hu h
    have hq2 : w < n → pr L g v w < 20 := fun h => hp _ _ hw h
    refine g_ildn C dX1_isAlike_38 rfl ?_
    refine g_aldn C dX1_isAlike_39 rfl ?_
    refine g_get C 2 g (by decide) (show g < 2 by omega) u1 rfl 0 rfl fX1_9 rfl rfl dX1_isAlike_40 ?_
    refine g_top (y := (nI n)) (hv.sz (by omega)) ?_
    refine n_icmp_ge (tgt := 79) C dX1_isAlike_43 rfl (by omega) (by omega) (fun c_1 => ?_) (fun c_1 => ?_)
    · refine g_iconst C ((nI 1)) dX1_isAlike_79 (by decide) ?_
      exact g_zreturn C hr (by decide) dX1_isAlike_80 ⟨true, rfl, ⟨fun _ => ⟨e1, e2, fun w h => hin w (by omega)⟩, fun _ => rfl⟩, rfl, rfl⟩
    · refine g_ildn C dX1_isAlike_46 rfl ?_
      refine g_ildn C dX1_isAlike_47 rfl ?_
      refine n_icmp_eq (tgt := 73) C dX1_isAlike_48 rfl (by omega) (by omega) (fun c_2 => ?_) (fun c_2 => ?_)
      · refine g_iinc (lv' := [(3, .int (nI (w + 1))), (0, .ref (Z.2.2.1 2 g)), (1, .int (nI u)), (2, .int (nI v))]) C ((nI (w + 1))) dX1_isAlike_73 rfl (inc1 _) rfl rfl ?_
        refine g_goto (tgt := 38) C dX1_isAlike_76 rfl ?_
        refine g_lv [1, 2, 3, 0] rfl ?_
        exact ih (w + 1) (by omega) (by omega) (fun a ha h1 h2 => (Nat.lt_or_eq_of_le (Nat.le_of_lt_succ ha)).elim (fun h => hin a h h1 h2) (fun h => by subst h; first | exact absurd rfl h1 | exact absurd rfl h2 | (exfalso; omega) | assumption))
      · refine g_ildn C dX1_isAlike_51 rfl ?_
        refine g_ildn C dX1_isAlike_52 rfl ?_
        refine n_icmp_eq (tgt := 73) C dX1_isAlike_53 rfl (by omega) (by omega) (fun c_3 => ?_) (fun c_3 => ?_)
        · refine g_iinc (lv' := [(3, .int (nI (w + 1))), (0, .ref (Z.2.2.1 2 g)), (1, .int (nI u)), (2, .int (nI v))]) C ((nI (w + 1))) dX1_isAlike_73 rfl (inc1 _) rfl rfl ?_
          refine g_goto (tgt := 38) C dX1_isAlike_76 rfl ?_
          refine g_lv [1, 2, 3, 0] rfl ?_
          exact ih (w + 1) (by omega) (by omega) (fun a ha h1 h2 => (Nat.lt_or_eq_of_le (Nat.le_of_lt_succ ha)).elim (fun h => hin a h h1 h2) (fun h => by subst h; first | exact absurd rfl h1 | exact absurd rfl h2 | (exfalso; omega) | assumption))
        · refine g_aldn C dX1_isAlike_56 rfl ?_
          refine g_ildn C dX1_isAlike_57 rfl ?_
          refine g_ildn C dX1_isAlike_58 rfl ?_
          refine g_callV (As := [.int (nI u), .int (nI w)]) (st := []) C (c_X1_pair hA hv hg (show u < n by omega) (show w < n by omega)) wX1_pair iX1_pair sX1_pair mX1_46 2 g (by decide) (show g < 2 by omega) rfl rfl rfl rfl rfl rfl rfl rfl dX1_isAlike_59 ?_
          rintro v9 I9 J9 ⟨h91, h92, h93⟩
          rw [h91, h92, h93]
          clear h91 h92 h93 v9 I9 J9
          show G X _ Z _ I J 62 [(0, .ref (Z.2.2.1 2 g)), (1, .int (nI u)), (2, .int (nI v)), (3, .int (nI w))] [.int (nI (pr L g u w))]
          refine g_aldn C dX1_isAlike_62 rfl ?_
          refine g_ildn C dX1_isAlike_63 rfl ?_
          refine g_ildn C dX1_isAlike_64 rfl ?_
          refine g_callV (As := [.int (nI v), .int (nI w)]) (st := [.int (nI (pr L g u w))]) C (c_X1_pair hA hv hg (show v < n by omega) (show w < n by omega)) wX1_pair iX1_pair sX1_pair mX1_46 2 g (by decide) (show g < 2 by omega) rfl rfl rfl rfl rfl rfl rfl rfl dX1_isAlike_65 ?_
          rintro v9 I9 J9 ⟨h91, h92, h93⟩
          rw [h91, h92, h93]
          clear h91 h92 h93 v9 I9 J9
          show G X _ Z _ I J 68 [(0, .ref (Z.2.2.1 2 g)), (1, .int (nI u)), (2, .int (nI v)), (3, .int (nI w))] [.int (nI (pr L g v w)), .int (nI (pr L g u w))]
          refine n_icmp_eq (tgt := 73) C dX1_isAlike_68 rfl (by omega) (by omega) (fun c_4 => ?_) (fun c_4 => ?_)
          · refine g_iinc (lv' := [(3, .int (nI (w + 1))), (0, .ref (Z.2.2.1 2 g)), (1, .int (nI u)), (2, .int (nI v))]) C ((nI (w + 1))) dX1_isAlike_73 rfl (inc1 _) rfl rfl ?_
            refine g_goto (tgt := 38) C dX1_isAlike_76 rfl ?_
            refine g_lv [1, 2, 3, 0] rfl ?_
            exact ih (w + 1) (by omega) (by omega) (fun a ha h1 h2 => (Nat.lt_or_eq_of_le (Nat.le_of_lt_succ ha)).elim (fun h => hin a h h1 h2) (fun h => by subst h; first | exact absurd rfl h1 | exact absurd rfl h2 | (exfalso; omega) | assumption))
          · refine g_iconst C ((nI 0)) dX1_isAlike_71 (by decide) ?_
            exact g_zreturn C hr (by decide) dX1_isAlike_72 ⟨false, rfl, ⟨fun h => absurd h (by decide), fun h => absurd (h.2.2 w (by omega) (by assumption) (by assumption)) (by assumption)⟩, rfl, rfl⟩

set_option maxRecDepth 100000 in
set_option maxHeartbeats 4000000 in
/-- isAlike -/
theorem c_X1_isAlike {l : Launch} {Y : Yk} (hA : AJ Y.2.2) {I : SI} {J : SJ} {n : Nat} {T : Nat → Nat → Nat} {L : Nat → Nat → Nat → Nat} (hv : CV I n T L) {g u v : Nat} (hg : g < 2) (hu : u < n) (hw : v < n) : MX l Y yX1_isAlike cX1_isAlike 4 (some .boolean) 1 40 [.ref (Y.2.2 2 g), .int (nI u), .int (nI v)] I J (fun v' I' J' => ∃ b : Bool, v' = some (.int (bI b)) ∧ (b = true ↔ alk n T L g u v) ∧ I' = I ∧ J' = J) := by
  refine MX.of hA (by decide) (own := RX1) rfl rfl rfl ?_
  intro X Z hl hY1 hY2 hY3 C hr
  obtain ⟨D0, ca0, ad0⟩ := Y
  dsimp only at hA hY1 hY2 hY3
  subst hY1; subst hY2; subst hY3; subst hl
  show G X 4 Z (QG X Z _) I J 0 [(0, .ref (Z.2.2.1 2 g)), (1, .int (nI u)), (2, .int (nI v))] []
  obtain ⟨⟨hn1, hn9⟩, -⟩ := id hv
  have q1 := hv.t4 hg hu
  have q2 := hv.t4 hg hw
  have q3 := hv.l4 hg hu hw
  have q4 := hv.l4 hg hw hu
  refine g_aldn C dX1_isAlike_0 rfl ?_
  refine g_get C 2 g (by decide) (show g < 2 by omega) u1 rfl 1 rfl fX1_15 rfl rfl dX1_isAlike_1 ?_
  refine g_ildn C dX1_isAlike_4 rfl ?_
  refine g_iald C 3 g (by decide) (show g < 2 by omega) (fun _ _ => rfl) u (show u < 9 by omega) rfl dX1_isAlike_5 (v := (nI (T g u))) (hv.t (by omega) (by omega)) ?_
  refine g_aldn C dX1_isAlike_6 rfl ?_
  refine g_get C 2 g (by decide) (show g < 2 by omega) u1 rfl 1 rfl fX1_15 rfl rfl dX1_isAlike_7 ?_
  refine g_ildn C dX1_isAlike_10 rfl ?_
  refine g_iald C 3 g (by decide) (show g < 2 by omega) (fun _ _ => rfl) v (show v < 9 by omega) rfl dX1_isAlike_11 (v := (nI (T g v))) (hv.t (by omega) (by omega)) ?_
  refine n_icmp_ne (tgt := 34) C dX1_isAlike_12 rfl (by omega) (by omega) (fun c_1 => ?_) (fun c_1 => ?_)
  · refine g_iconst C ((nI 0)) dX1_isAlike_34 (by decide) ?_
    exact g_zreturn C hr (by decide) dX1_isAlike_35 ⟨false, rfl, ⟨fun h => absurd h (by decide), fun h => by first | exact absurd h.1 c_1 | exact absurd h.2.1 c_2⟩, rfl, rfl⟩
  · refine g_aldn C dX1_isAlike_15 rfl ?_
    refine g_get C 2 g (by decide) (show g < 2 by omega) u1 rfl 2 rfl fX1_21 rfl rfl dX1_isAlike_16 ?_
    refine g_ildn C dX1_isAlike_19 rfl ?_
    refine g_aald C 4 g 3 (by decide) (show g < 2 by omega) (fun _ _ => rfl) rfl rfl u (show u < 9 by omega) rfl dX1_isAlike_20 ?_
    refine g_ildn C dX1_isAlike_21 rfl ?_
    refine g_iald C 5 (9 * g + u) (by decide) (show 9 * g + u < 18 by omega) (fun _ _ => rfl) v (show v < 9 by omega) rfl dX1_isAlike_22 (v := (nI (L g u v))) (hv.l (by omega) (by omega) (by omega)) ?_
    refine g_aldn C dX1_isAlike_23 rfl ?_
    refine g_get C 2 g (by decide) (show g < 2 by omega) u1 rfl 2 rfl fX1_21 rfl rfl dX1_isAlike_24 ?_
    refine g_ildn C dX1_isAlike_27 rfl ?_
    refine g_aald C 4 g 3 (by decide) (show g < 2 by omega) (fun _ _ => rfl) rfl rfl v (show v < 9 by omega) rfl dX1_isAlike_28 ?_
    refine g_ildn C dX1_isAlike_29 rfl ?_
    refine g_iald C 5 (9 * g + v) (by decide) (show 9 * g + v < 18 by omega) (fun _ _ => rfl) u (show u < 9 by omega) rfl dX1_isAlike_30 (v := (nI (L g v u))) (hv.l (by omega) (by omega) (by omega)) ?_
    refine n_icmp_eq (tgt := 36) C dX1_isAlike_31 rfl (by omega) (by omega) (fun c_2 => ?_) (fun c_2 => ?_)
    · refine g_iconst C ((nI 0)) dX1_isAlike_36 (by decide) ?_
      refine g_istn (lv' := [(3, .int (nI 0)), (0, .ref (Z.2.2.1 2 g)), (1, .int (nI u)), (2, .int (nI v))]) C dX1_isAlike_37 rfl rfl ?_
      refine g_lv [1, 2, 3, 0] rfl ?_
      exact l_X1_isAlike_38 hA C hr hv hg hu hw c_1 c_2 (n + 1) 0 (by omega) (by omega) (fun a h => absurd h (by omega))
    · refine g_iconst C ((nI 0)) dX1_isAlike_34 (by decide) ?_
      exact g_zreturn C hr (by decide) dX1_isAlike_35 ⟨false, rfl, ⟨fun h => absurd h (by decide), fun h => by first | exact absurd h.1 c_1 | exact absurd h.2.1 c_2⟩, rfl, rfl⟩

set_option maxRecDepth 100000 in
set_option maxHeartbeats 4000000 in
theorem l_X1_formNumber_2 {X : Pk} {Z : Zk} {fr lo : Nat} {I : SI} {J : SJ} (C : Cx X cX1_formNumber 4 RX1 Z fr lo) (hr : (xE X).sig.returnType = some .int) {n : Nat} {T : Nat → Nat → Nat} {L : Nat → Nat → Nat → Nat} (hv : CV I n T L) {g : Nat} (hg : g < 2) {F : Nat → Nat} (hF : ∀ r, r < n → J 9 g r = lN (F r) ∧ F r < 2 ^ 40) {i : Nat} (hi : i < n * n) : ∀ k row, n - row < k → row < n → row * row ≤ i → G X 4 Z (QG X Z (fun v' I' J' => (∃ row, row < n ∧ row * row ≤ i ∧ i < (row + 1) * (row + 1) ∧ v' = some (.int (nI (F row / 2 ^ (2 * (row * row + 2 * row - i)) % 4)))) ∧ I' = I ∧ J' = J)) I J 2 [(0, .ref (Z.2.2.1 2 g)), (1, .int (nI i)), (2, .int (nI row))] [] := by
  obtain ⟨⟨hn1, hn9⟩, -⟩ := id hv
  have hnn : n * n ≤ 9 * 9 := Nat.mul_le_mul hn9 hn9
  intro k
  induction k with
  | zero => intro v h; exact absurd h (by omega)
  | succ k ih =>
    intro row hk hrow h1
    have hrr : (row + 1) * (row + 1) ≤ 9 * 9 := Nat.mul_le_mul (by omega) (by omega)
    have hrr2 : row * row ≤ 8 * 8 := Nat.mul_le_mul (by omega) (by omega)
    refine g_ildn C dX1_formNumber_2 rfl ?_
    refine g_aldn C dX1_formNumber_3 rfl ?_
    refine g_get C 2 g (by decide) (show g < 2 by omega) u1 rfl 0 rfl fX1_9 rfl rfl dX1_formNumber_4 ?_
    refine g_top (y := (nI n)) (hv.sz (by omega)) ?_
    refine g_iconst C ((nI 1)) dX1_formNumber_7 (by decide) ?_
    refine g_isub (v := (nI (n - 1))) C dX1_formNumber_8 (pk_sub (by omega)) ?_
    refine n_icmp_ge (tgt := 29) C dX1_formNumber_9 rfl (by omega) (by omega) (fun c_1 => ?_) (fun c_1 => ?_)
    · have hlt : i < (row + 1) * (row + 1) := by first | assumption | (have : row + 1 = n := (by omega); rw [this]; assumption)
      have h40 := (hF row (by omega)).2
      have hexp : i - row * row ≤ 2 * row := by have : (row + 1) * (row + 1) = row * row + 2 * row + 1 := (by rw [Nat.add_mul, Nat.mul_add]; omega); omega
      refine g_ildn C dX1_formNumber_29 rfl ?_
      refine g_ildn C dX1_formNumber_30 rfl ?_
      refine g_imul (v := (nI (row * row))) C dX1_formNumber_31 (pk_mul _ _) ?_
      refine g_iconst C ((nI 2)) dX1_formNumber_32 (by decide) ?_
      refine g_ildn C dX1_formNumber_33 rfl ?_
      refine g_imul (v := (nI (2 * row))) C dX1_formNumber_34 (pk_mul _ _) ?_
      refine g_iadd (v := (nI (row * row + 2 * row))) C dX1_formNumber_35 (nI_add _ _) ?_
      refine g_ildn C dX1_formNumber_36 rfl ?_
      refine g_isub (v := (nI (row * row + 2 * row - i))) C dX1_formNumber_37 (pk_sub (by omega)) ?_
      refine g_istn (lv' := [(3, .int (nI (row * row + 2 * row - i))), (0, .ref (Z.2.2.1 2 g)), (1, .int (nI i)), (2, .int (nI row))]) C dX1_formNumber_38 rfl rfl ?_
      refine g_aldn C dX1_formNumber_39 rfl ?_
      refine g_get C 2 g (by decide) (show g < 2 by omega) u1 rfl 7 rfl fX1_30 rfl rfl dX1_formNumber_40 ?_
      refine g_ildn C dX1_formNumber_43 rfl ?_
      refine g_lald C 9 g (by decide) (show g < 2 by omega) (fun _ _ => rfl) row (show row < 9 by omega) rfl dX1_formNumber_44 (v := (lN (F row))) (hF row (by omega)).1 ?_
      refine g_iconst C ((nI 2)) dX1_formNumber_45 (by decide) ?_
      refine g_ildn C dX1_formNumber_46 rfl ?_
      refine g_imul (v := (nI (2 * (row * row + 2 * row - i)))) C dX1_formNumber_47 (pk_mul _ _) ?_
      refine g_lshr (v := (lN (F row / 2 ^ (2 * (row * row + 2 * row - i))))) C dX1_formNumber_48 (lshrN (by omega) (by omega)) ?_
      refine g_l2i (v := (nI (F row / 2 ^ (2 * (row * row + 2 * row - i))))) C dX1_formNumber_49 (lN_i _) ?_
      refine g_iconst C ((nI 3)) dX1_formNumber_50 (by decide) ?_
      refine g_iand (v := (nI (F row / 2 ^ (2 * (row * row + 2 * row - i)) % 4))) C dX1_formNumber_51 (and3 _) ?_
      exact g_ireturn C hr dX1_formNumber_52 ⟨⟨row, by omega, h1, hlt, rfl⟩, rfl, rfl⟩
    · refine g_ildn C dX1_formNumber_12 rfl ?_
      refine g_iconst C ((nI 1)) dX1_formNumber_13 (by decide) ?_
      refine g_iadd (v := (nI (row + 1))) C dX1_formNumber_14 (nI_add _ _) ?_
      refine g_ildn C dX1_formNumber_15 rfl ?_
      refine g_iconst C ((nI 1)) dX1_formNumber_16 (by decide) ?_
      refine g_iadd (v := (nI (row + 1))) C dX1_formNumber_17 (nI_add _ _) ?_
      refine g_imul (v := (nI ((row + 1) * (row + 1)))) C dX1_formNumber_18 (pk_mul _ _) ?_
      refine g_ildn C dX1_formNumber_19 rfl ?_
      refine n_icmp_gt (tgt := 29) C dX1_formNumber_20 rfl (by omega) (by omega) (fun c_2 => ?_) (fun c_2 => ?_)
      · have hlt : i < (row + 1) * (row + 1) := by first | assumption | (have : row + 1 = n := (by omega); rw [this]; assumption)
        have h40 := (hF row (by omega)).2
        have hexp : i - row * row ≤ 2 * row := by have : (row + 1) * (row + 1) = row * row + 2 * row + 1 := (by rw [Nat.add_mul, Nat.mul_add]; omega); omega
        refine g_ildn C dX1_formNumber_29 rfl ?_
        refine g_ildn C dX1_formNumber_30 rfl ?_
        refine g_imul (v := (nI (row * row))) C dX1_formNumber_31 (pk_mul _ _) ?_
        refine g_iconst C ((nI 2)) dX1_formNumber_32 (by decide) ?_
        refine g_ildn C dX1_formNumber_33 rfl ?_
        refine g_imul (v := (nI (2 * row))) C dX1_formNumber_34 (pk_mul _ _) ?_
        refine g_iadd (v := (nI (row * row + 2 * row))) C dX1_formNumber_35 (nI_add _ _) ?_
        refine g_ildn C dX1_formNumber_36 rfl ?_
        refine g_isub (v := (nI (row * row + 2 * row - i))) C dX1_formNumber_37 (pk_sub (by omega)) ?_
        refine g_istn (lv' := [(3, .int (nI (row * row + 2 * row - i))), (0, .ref (Z.2.2.1 2 g)), (1, .int (nI i)), (2, .int (nI row))]) C dX1_formNumber_38 rfl rfl ?_
        refine g_aldn C dX1_formNumber_39 rfl ?_
        refine g_get C 2 g (by decide) (show g < 2 by omega) u1 rfl 7 rfl fX1_30 rfl rfl dX1_formNumber_40 ?_
        refine g_ildn C dX1_formNumber_43 rfl ?_
        refine g_lald C 9 g (by decide) (show g < 2 by omega) (fun _ _ => rfl) row (show row < 9 by omega) rfl dX1_formNumber_44 (v := (lN (F row))) (hF row (by omega)).1 ?_
        refine g_iconst C ((nI 2)) dX1_formNumber_45 (by decide) ?_
        refine g_ildn C dX1_formNumber_46 rfl ?_
        refine g_imul (v := (nI (2 * (row * row + 2 * row - i)))) C dX1_formNumber_47 (pk_mul _ _) ?_
        refine g_lshr (v := (lN (F row / 2 ^ (2 * (row * row + 2 * row - i))))) C dX1_formNumber_48 (lshrN (by omega) (by omega)) ?_
        refine g_l2i (v := (nI (F row / 2 ^ (2 * (row * row + 2 * row - i))))) C dX1_formNumber_49 (lN_i _) ?_
        refine g_iconst C ((nI 3)) dX1_formNumber_50 (by decide) ?_
        refine g_iand (v := (nI (F row / 2 ^ (2 * (row * row + 2 * row - i)) % 4))) C dX1_formNumber_51 (and3 _) ?_
        exact g_ireturn C hr dX1_formNumber_52 ⟨⟨row, by omega, h1, hlt, rfl⟩, rfl, rfl⟩
      · refine g_iinc (lv' := [(2, .int (nI (row + 1))), (0, .ref (Z.2.2.1 2 g)), (1, .int (nI i))]) C ((nI (row + 1))) dX1_formNumber_23 rfl (inc1 _) rfl rfl ?_
        refine g_goto (tgt := 2) C dX1_formNumber_26 rfl ?_
        refine g_lv [1, 2, 0] rfl ?_
        exact ih (row + 1) (by omega) (by omega) (by omega)

set_option maxRecDepth 100000 in
set_option maxHeartbeats 4000000 in
/-- formNumber -/
theorem c_X1_formNumber {l : Launch} {Y : Yk} (hA : AJ Y.2.2) {I : SI} {J : SJ} {n : Nat} {T : Nat → Nat → Nat} {L : Nat → Nat → Nat → Nat} (hv : CV I n T L) {g : Nat} (hg : g < 2) {F : Nat → Nat} (hF : ∀ r, r < n → J 9 g r = lN (F r) ∧ F r < 2 ^ 40) {i : Nat} (hi : i < n * n) : MX l Y yX1_formNumber cX1_formNumber 4 (some .int) 0 0 [.ref (Y.2.2 2 g), .int (nI i)] I J (fun v' I' J' => (∃ row, row < n ∧ row * row ≤ i ∧ i < (row + 1) * (row + 1) ∧ v' = some (.int (nI (F row / 2 ^ (2 * (row * row + 2 * row - i)) % 4)))) ∧ I' = I ∧ J' = J) := by
  refine MX.of hA (by decide) (own := RX1) rfl rfl rfl ?_
  intro X Z hl hY1 hY2 hY3 C hr
  obtain ⟨D0, ca0, ad0⟩ := Y
  dsimp only at hA hY1 hY2 hY3
  subst hY1; subst hY2; subst hY3; subst hl
  show G X 4 Z (QG X Z _) I J 0 [(0, .ref (Z.2.2.1 2 g)), (1, .int (nI i))] []
  obtain ⟨⟨hn1, hn9⟩, -⟩ := id hv
  refine g_iconst C ((nI 0)) dX1_formNumber_0 (by decide) ?_
  refine g_istn (lv' := [(2, .int (nI 0)), (0, .ref (Z.2.2.1 2 g)), (1, .int (nI i))]) C dX1_formNumber_1 rfl rfl ?_
  refine g_lv [1, 2, 0] rfl ?_
  exact l_X1_formNumber_2 C hr hv hg hF hi (n + 1) 0 (by omega) (by omega) (by omega)
