set_option maxRecDepth 100000 in
set_option maxHeartbeats 4000000 in
theorem c_X5_isGraph {l : Launch} {Y : Yk} (hA : AJ Y.2.2) {I : SI} {J : SJ} (g : Int32) : MX l Y yX5_isGraph cX5_isGraph 1 (some .boolean) 0 0 [.int g] I J (fun v I' J' => v = some (.int (bI (isG g))) ∧ I' = I ∧ J' = J) := by
  refine MX.of hA (by decide) (own := RX5) rfl rfl rfl ?_
  intro X Z hl hY1 hY2 hY3 C hr
  obtain ⟨D0, ca0, ad0⟩ := Y
  dsimp only at hA hY1 hY2 hY3
  subst hY1; subst hY2; subst hY3; subst hl
  show G X 1 Z (QG X Z _) I J 0 [(0, .int g)] []
  refine g_ildn C dX5_isGraph_0 rfl ?_
  refine g_if_eq (tgt := 9) C dX5_isGraph_1 rfl (fun c_1 => ?_) (fun c_1 => ?_)
  · refine g_iconst C ((nI 1)) dX5_isGraph_9 (by decide) ?_
    refine g_goto (tgt := 14) C dX5_isGraph_10 rfl ?_
    exact g_zreturn C hr (by decide) dX5_isGraph_14 ⟨ret1 (decide_eq_true (by first | exact Or.inl (by assumption) | exact Or.inr (by assumption))), rfl, rfl⟩
  · refine g_ildn C dX5_isGraph_4 rfl ?_
    refine g_iconst C ((nI 1)) dX5_isGraph_5 (by decide) ?_
    refine g_icmp_ne (tgt := 13) C dX5_isGraph_6 rfl (fun c_2 => ?_) (fun c_2 => ?_)
    · refine g_iconst C ((nI 0)) dX5_isGraph_13 (by decide) ?_
      exact g_zreturn C hr (by decide) dX5_isGraph_14 ⟨ret0 (decide_eq_false (fun h => h.elim (by assumption) (by assumption))), rfl, rfl⟩
    · refine g_iconst C ((nI 1)) dX5_isGraph_9 (by decide) ?_
      refine g_goto (tgt := 14) C dX5_isGraph_10 rfl ?_
      exact g_zreturn C hr (by decide) dX5_isGraph_14 ⟨ret1 (decide_eq_true (by first | exact Or.inl (by assumption) | exact Or.inr (by assumption))), rfl, rfl⟩

set_option maxRecDepth 100000 in
set_option maxHeartbeats 4000000 in
theorem c_X6_isGraph {l : Launch} {Y : Yk} (hA : AJ Y.2.2) {I : SI} {J : SJ} (g : Int32) : MX l Y yX6_isGraph cX6_isGraph 1 (some .boolean) 0 0 [.int g] I J (fun v I' J' => v = some (.int (bI (isG g))) ∧ I' = I ∧ J' = J) := by
  refine MX.of hA (by decide) (own := RX6) rfl rfl rfl ?_
  intro X Z hl hY1 hY2 hY3 C hr
  obtain ⟨D0, ca0, ad0⟩ := Y
  dsimp only at hA hY1 hY2 hY3
  subst hY1; subst hY2; subst hY3; subst hl
  show G X 1 Z (QG X Z _) I J 0 [(0, .int g)] []
  refine g_ildn C dX6_isGraph_0 rfl ?_
  refine g_if_eq (tgt := 9) C dX6_isGraph_1 rfl (fun c_1 => ?_) (fun c_1 => ?_)
  · refine g_iconst C ((nI 1)) dX6_isGraph_9 (by decide) ?_
    refine g_goto (tgt := 14) C dX6_isGraph_10 rfl ?_
    exact g_zreturn C hr (by decide) dX6_isGraph_14 ⟨ret1 (decide_eq_true (by first | exact Or.inl (by assumption) | exact Or.inr (by assumption))), rfl, rfl⟩
  · refine g_ildn C dX6_isGraph_4 rfl ?_
    refine g_iconst C ((nI 1)) dX6_isGraph_5 (by decide) ?_
    refine g_icmp_ne (tgt := 13) C dX6_isGraph_6 rfl (fun c_2 => ?_) (fun c_2 => ?_)
    · refine g_iconst C ((nI 0)) dX6_isGraph_13 (by decide) ?_
      exact g_zreturn C hr (by decide) dX6_isGraph_14 ⟨ret0 (decide_eq_false (fun h => h.elim (by assumption) (by assumption))), rfl, rfl⟩
    · refine g_iconst C ((nI 1)) dX6_isGraph_9 (by decide) ?_
      refine g_goto (tgt := 14) C dX6_isGraph_10 rfl ?_
      exact g_zreturn C hr (by decide) dX6_isGraph_14 ⟨ret1 (decide_eq_true (by first | exact Or.inl (by assumption) | exact Or.inr (by assumption))), rfl, rfl⟩

set_option maxRecDepth 100000 in
set_option maxHeartbeats 4000000 in
theorem c_X5_isMark {l : Launch} {Y : Yk} (hA : AJ Y.2.2) {I : SI} {J : SJ} (x : Int32) : MX l Y yX5_isMark cX5_isMark 1 (some .boolean) 0 0 [.int x] I J (fun v I' J' => v = some (.int (bI (isM x))) ∧ I' = I ∧ J' = J) := by
  refine MX.of hA (by decide) (own := RX5) rfl rfl rfl ?_
  intro X Z hl hY1 hY2 hY3 C hr
  obtain ⟨D0, ca0, ad0⟩ := Y
  dsimp only at hA hY1 hY2 hY3
  subst hY1; subst hY2; subst hY3; subst hl
  show G X 1 Z (QG X Z _) I J 0 [(0, .int x)] []
  refine g_ildn C dX5_isMark_0 rfl ?_
  refine g_if_lt (tgt := 13) C dX5_isMark_1 rfl (fun c_1 => ?_) (fun c_1 => ?_)
  · refine g_iconst C ((nI 0)) dX5_isMark_13 (by decide) ?_
    exact g_zreturn C hr (by decide) dX5_isMark_14 ⟨ret0 (decide_eq_false (fun h => by first | exact absurd h.1 (Int32.not_le.mpr c_1) | exact absurd h.2 (Int32.not_le.mpr c_2))), rfl, rfl⟩
  · refine g_ildn C dX5_isMark_4 rfl ?_
    refine g_iconst C ((nI 3)) dX5_isMark_5 (by decide) ?_
    refine g_icmp_gt (tgt := 13) C dX5_isMark_6 rfl (fun c_2 => ?_) (fun c_2 => ?_)
    · refine g_iconst C ((nI 0)) dX5_isMark_13 (by decide) ?_
      exact g_zreturn C hr (by decide) dX5_isMark_14 ⟨ret0 (decide_eq_false (fun h => by first | exact absurd h.1 (Int32.not_le.mpr c_1) | exact absurd h.2 (Int32.not_le.mpr c_2))), rfl, rfl⟩
    · refine g_iconst C ((nI 1)) dX5_isMark_9 (by decide) ?_
      refine g_goto (tgt := 14) C dX5_isMark_10 rfl ?_
      exact g_zreturn C hr (by decide) dX5_isMark_14 ⟨ret1 (decide_eq_true ⟨Int32.not_lt.mp c_1, Int32.not_lt.mp c_2⟩), rfl, rfl⟩

set_option maxRecDepth 100000 in
set_option maxHeartbeats 4000000 in
theorem c_X1_pair {l : Launch} {Y : Yk} (hA : AJ Y.2.2) {I : SI} {J : SJ} {n : Nat} {T : Nat → Nat → Nat} {L : Nat → Nat → Nat → Nat} (hv : CV I n T L) {g u v : Nat} (hg : g < 2) (hu : u < n) (hw : v < n) : MX l Y yX1_pair cX1_pair 3 (some .int) 0 0 [.ref (Y.2.2 2 g), .int (nI u), .int (nI v)] I J (fun v' I' J' => v' = some (.int (nI (pr L g u v))) ∧ I' = I ∧ J' = J) := by
  refine MX.of hA (by decide) (own := RX1) rfl rfl rfl ?_
  intro X Z hl hY1 hY2 hY3 C hr
  obtain ⟨D0, ca0, ad0⟩ := Y
  dsimp only at hA hY1 hY2 hY3
  subst hY1; subst hY2; subst hY3; subst hl
  show G X 3 Z (QG X Z _) I J 0 [(0, .ref (Z.2.2.1 2 g)), (1, .int (nI u)), (2, .int (nI v))] []
  obtain ⟨⟨hn1, hn9⟩, -⟩ := id hv
  refine g_iconst C ((nI 4)) dX1_pair_0 (by decide) ?_
  refine g_aldn C dX1_pair_1 rfl ?_
  refine g_get C 2 g (by decide) (show g < 2 by omega) u1 rfl 2 rfl fX1_21 rfl rfl dX1_pair_2 ?_
  refine g_ildn C dX1_pair_5 rfl ?_
  refine g_aald C 4 g 3 (by decide) (show g < 2 by omega) (fun _ _ => rfl) rfl rfl u (show u < 9 by omega) rfl dX1_pair_6 ?_
  refine g_ildn C dX1_pair_7 rfl ?_
  refine g_iald C 5 (9 * g + u) (by decide) (show 9 * g + u < 18 by omega) (fun _ _ => rfl) v (show v < 9 by omega) rfl dX1_pair_8 (v := (nI (L g u v))) (hv.l (by omega) (by omega) (by omega)) ?_
  refine g_imul (v := (nI (4 * (L g u v)))) C dX1_pair_9 (pk_mul _ _) ?_
  refine g_aldn C dX1_pair_10 rfl ?_
  refine g_get C 2 g (by decide) (show g < 2 by omega) u1 rfl 2 rfl fX1_21 rfl rfl dX1_pair_11 ?_
  refine g_ildn C dX1_pair_14 rfl ?_
  refine g_aald C 4 g 3 (by decide) (show g < 2 by omega) (fun _ _ => rfl) rfl rfl v (show v < 9 by omega) rfl dX1_pair_15 ?_
  refine g_ildn C dX1_pair_16 rfl ?_
  refine g_iald C 5 (9 * g + v) (by decide) (show 9 * g + v < 18 by omega) (fun _ _ => rfl) u (show u < 9 by omega) rfl dX1_pair_17 (v := (nI (L g v u))) (hv.l (by omega) (by omega) (by omega)) ?_
  refine g_iadd (v := (nI (4 * (L g u v) + L g v u))) C dX1_pair_18 (nI_add _ _) ?_
  exact g_ireturn C hr dX1_pair_19 ⟨rfl, rfl, rfl⟩

set_option maxRecDepth 100000 in
set_option maxHeartbeats 4000000 in
theorem l_X1_edges_14 {X : Pk} {Z : Zk} {fr lo : Nat} {Q : State → Prop} {I : SI} {J : SJ} (C : Cx X cX1_edges 4 RX1 Z fr lo) {n : Nat} {T : Nat → Nat → Nat} {L : Nat → Nat → Nat → Nat} (hv : CV I n T L) {g : Nat} (hg : g < 2) {u e0 : Nat} (hu : u < n) (he : e0 < 1000) (hex : G X 4 Z Q I J 42 [(0, .ref (Z.2.2.1 2 g)), (1, .int (nI (e0 + ct (fun w => decide (0 < L g u w)) n))), (2, .int (nI u)), (3, .int (nI n))] []) : ∀ k v, n - v < k → v ≤ n → G X 4 Z Q I J 14 [(0, .ref (Z.2.2.1 2 g)), (1, .int (nI (e0 + ct (fun w => decide (0 < L g u w)) v))), (2, .int (nI u)), (3, .int (nI v))] [] := by
  obtain ⟨⟨hn1, hn9⟩, -⟩ := id hv
  intro k
  induction k with
  | zero => intro v h; exact absurd h (by omega)
  | succ k ih =>
    intro v hk hvn
    have hct := ct_le (fun w => decide (0 < L g u w)) v
    have h4 : v < n → L g u v < 4 := fun h => hv.l4 hg hu h
    refine g_ildn C dX1_edges_14 rfl ?_
    refine g_aldn C dX1_edges_15 rfl ?_
    refine g_get C 2 g (by decide) (show g < 2 by omega) u1 rfl 0 rfl fX1_9 rfl rfl dX1_edges_16 ?_
    refine g_top (y := (nI n)) (hv.sz (by omega)) ?_
    refine n_icmp_ge (tgt := 42) C dX1_edges_19 rfl (by omega) (by omega) (fun c_1 => ?_) (fun c_1 => ?_)
    · have e : v = n := by omega
      subst e
      refine g_lv [0, 1, 2, 3] rfl ?_
      exact hex
    · refine g_aldn C dX1_edges_22 rfl ?_
      refine g_get C 2 g (by decide) (show g < 2 by omega) u1 rfl 2 rfl fX1_21 rfl rfl dX1_edges_23 ?_
      refine g_ildn C dX1_edges_26 rfl ?_
      refine g_aald C 4 g 3 (by decide) (show g < 2 by omega) (fun _ _ => rfl) rfl rfl u (show u < 9 by omega) rfl dX1_edges_27 ?_
      refine g_ildn C dX1_edges_28 rfl ?_
      refine g_iald C 5 (9 * g + u) (by decide) (show 9 * g + u < 18 by omega) (fun _ _ => rfl) v (show v < 9 by omega) rfl dX1_edges_29 (v := (nI (L g u v))) (hv.l (by omega) (by omega) (by omega)) ?_
      refine n_if_le (tgt := 36) C dX1_edges_30 rfl (by omega) (fun c_2 => ?_) (fun c_2 => ?_)
      · refine g_iinc (lv' := [(3, .int (nI (v + 1))), (0, .ref (Z.2.2.1 2 g)), (1, .int (nI (e0 + ct (fun w => decide (0 < L g u w)) v))), (2, .int (nI u))]) C ((nI (v + 1))) dX1_edges_36 rfl (inc1 _) rfl rfl ?_
        refine g_goto (tgt := 14) C dX1_edges_39 rfl ?_
        refine g_lv (lv1 := [(0, .ref (Z.2.2.1 2 g)), (1, .int (nI (e0 + ct (fun w => decide (0 < L g u w)) (v + 1)))), (2, .int (nI u)), (3, .int (nI (v + 1)))]) [1, 2, 3, 0] (by rw [show e0 + ct (fun w => decide (0 < L g u w)) (v + 1) = e0 + ct (fun w => decide (0 < L g u w)) v by simp only [ct]; rw [if_neg (by simp; omega)]; rfl]; rfl) ?_
        exact ih (v + 1) (by omega) (by omega)
      · refine g_iinc (lv' := [(1, .int (nI (e0 + ct (fun w => decide (0 < L g u w)) v + 1))), (0, .ref (Z.2.2.1 2 g)), (2, .int (nI u)), (3, .int (nI v))]) C ((nI (e0 + ct (fun w => decide (0 < L g u w)) v + 1))) dX1_edges_33 rfl (inc1 _) rfl rfl ?_
        refine g_iinc (lv' := [(3, .int (nI (v + 1))), (1, .int (nI (e0 + ct (fun w => decide (0 < L g u w)) v + 1))), (0, .ref (Z.2.2.1 2 g)), (2, .int (nI u))]) C ((nI (v + 1))) dX1_edges_36 rfl (inc1 _) rfl rfl ?_
        refine g_goto (tgt := 14) C dX1_edges_39 rfl ?_
        refine g_lv (lv1 := [(0, .ref (Z.2.2.1 2 g)), (1, .int (nI (e0 + ct (fun w => decide (0 < L g u w)) (v + 1)))), (2, .int (nI u)), (3, .int (nI (v + 1)))]) [2, 1, 3, 0] (by rw [show e0 + ct (fun w => decide (0 < L g u w)) (v + 1) = e0 + ct (fun w => decide (0 < L g u w)) v + 1 by simp only [ct]; rw [if_pos (decide_eq_true (by omega))]; omega]; rfl) ?_
        exact ih (v + 1) (by omega) (by omega)

set_option maxRecDepth 100000 in
set_option maxHeartbeats 4000000 in
theorem l_X1_edges_4 {X : Pk} {Z : Zk} {fr lo : Nat} {I : SI} {J : SJ} (hr : (xE X).sig.returnType = some .int) (C : Cx X cX1_edges 4 RX1 Z fr lo) {n : Nat} {T : Nat → Nat → Nat} {L : Nat → Nat → Nat → Nat} (hv : CV I n T L) {g : Nat} (hg : g < 2) : ∀ k u, n - u < k → u ≤ n → G X 4 Z (QG X Z (fun v' I' J' => v' = some (.int (nI (ed n L g))) ∧ I' = I ∧ J' = J)) I J 4 [(0, .ref (Z.2.2.1 2 g)), (1, .int (nI (sm (fun u => ct (fun w => decide (0 < L g u w)) n) u))), (2, .int (nI u))] [] := by
  obtain ⟨⟨hn1, hn9⟩, -⟩ := id hv
  intro k
  induction k with
  | zero => intro v h; exact absurd h (by omega)
  | succ k ih =>
    intro u hk hun
    have hsm := sm_le (f := (fun u => ct (fun w => decide (0 < L g u w)) n)) (b := n) (fun i => ct_le _ n) u
    have hsm2 : n * u ≤ 9 * 9 := Nat.mul_le_mul hn9 (by omega)
    refine g_ildn C dX1_edges_4 rfl ?_
    refine g_aldn C dX1_edges_5 rfl ?_
    refine g_get C 2 g (by decide) (show g < 2 by omega) u1 rfl 0 rfl fX1_9 rfl rfl dX1_edges_6 ?_
    refine g_top (y := (nI n)) (hv.sz (by omega)) ?_
    refine n_icmp_ge (tgt := 48) C dX1_edges_9 rfl (by omega) (by omega) (fun c_1 => ?_) (fun c_1 => ?_)
    · refine g_ildn C dX1_edges_48 rfl ?_
      exact g_ireturn C hr dX1_edges_49 ⟨by rw [show u = n by omega]; rfl, rfl, rfl⟩
    · refine g_iconst C ((nI 0)) dX1_edges_12 (by decide) ?_
      refine g_istn (lv' := [(3, .int (nI 0)), (0, .ref (Z.2.2.1 2 g)), (1, .int (nI (sm (fun u => ct (fun w => decide (0 < L g u w)) n) u))), (2, .int (nI u))]) C dX1_edges_13 rfl rfl ?_
      refine g_lv [1, 2, 3, 0] rfl ?_
      refine l_X1_edges_14 (e0 := sm (fun u => ct (fun w => decide (0 < L g u w)) n) u) C hv hg (u := u) (by omega) (by omega) ?_ (n + 1) 0 (by omega) (by omega)
      show G X 4 Z _ I J 42 [(0, .ref (Z.2.2.1 2 g)), (1, .int (nI (sm (fun u => ct (fun w => decide (0 < L g u w)) n) (u + 1)))), (2, .int (nI u)), (3, .int (nI n))] []
      refine g_iinc (lv' := [(2, .int (nI (u + 1))), (0, .ref (Z.2.2.1 2 g)), (1, .int (nI (sm (fun u => ct (fun w => decide (0 < L g u w)) n) (u + 1)))), (3, .int (nI n))]) C ((nI (u + 1))) dX1_edges_42 rfl (inc1 _) rfl rfl ?_
      refine g_goto (tgt := 4) C dX1_edges_45 rfl ?_
      refine g_lv [1, 2, 0] rfl ?_
      exact ih (u + 1) (by omega) (by omega)

set_option maxRecDepth 100000 in
set_option maxHeartbeats 4000000 in
theorem c_X1_edges {l : Launch} {Y : Yk} (hA : AJ Y.2.2) {I : SI} {J : SJ} {n : Nat} {T : Nat → Nat → Nat} {L : Nat → Nat → Nat → Nat} (hv : CV I n T L) {g : Nat} (hg : g < 2) : MX l Y yX1_edges cX1_edges 4 (some .int) 0 0 [.ref (Y.2.2 2 g)] I J (fun v' I' J' => v' = some (.int (nI (ed n L g))) ∧ I' = I ∧ J' = J) := by
  refine MX.of hA (by decide) (own := RX1) rfl rfl rfl ?_
  intro X Z hl hY1 hY2 hY3 C hr
  obtain ⟨D0, ca0, ad0⟩ := Y
  dsimp only at hA hY1 hY2 hY3
  subst hY1; subst hY2; subst hY3; subst hl
  show G X 4 Z (QG X Z _) I J 0 [(0, .ref (Z.2.2.1 2 g))] []
  refine g_iconst C ((nI 0)) dX1_edges_0 (by decide) ?_
  refine g_istn (lv' := [(1, .int (nI 0)), (0, .ref (Z.2.2.1 2 g))]) C dX1_edges_1 rfl rfl ?_
  refine g_iconst C ((nI 0)) dX1_edges_2 (by decide) ?_
  refine g_istn (lv' := [(2, .int (nI 0)), (1, .int (nI 0)), (0, .ref (Z.2.2.1 2 g))]) C dX1_edges_3 rfl rfl ?_
  refine g_lv [2, 1, 0] rfl ?_
  exact l_X1_edges_4 hr C hv hg (n + 1) 0 (by omega) (by omega)
