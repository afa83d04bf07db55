/-! ===== the reference: its cells; the small methods ===== -/
/-- the graphs in the reference's cells -/
def MV (I : SI) (n : Nat) (T : Nat → Nat → Nat) (L : Nat → Nat → Nat → Nat) : Prop :=
  (1 ≤ n ∧ n ≤ 9) ∧ I 27 0 0 = nI n ∧ (∀ g v, g < 2 → v < n → I 29 0 (9 * g + v) = nI (T g v) ∧ T g v < 4) ∧ ∀ g u v, g < 2 → u < n → v < n → I 28 0 (81 * g + 9 * u + v) = nI (L g u v) ∧ L g u v < 4
theorem MV.t {I : SI} {n : Nat} {T : Nat → Nat → Nat} {L : Nat → Nat → Nat → Nat} (h : MV I n T L) {g v : Nat} (hg : g < 2) (hv : v < n) : I 29 0 (9 * g + v) = nI (T g v) := (h.2.2.1 g v hg hv).1
theorem MV.t4 {I : SI} {n : Nat} {T : Nat → Nat → Nat} {L : Nat → Nat → Nat → Nat} (h : MV I n T L) {g v : Nat} (hg : g < 2) (hv : v < n) : T g v < 4 := (h.2.2.1 g v hg hv).2
theorem MV.l {I : SI} {n : Nat} {T : Nat → Nat → Nat} {L : Nat → Nat → Nat → Nat} (h : MV I n T L) {g u v : Nat} (hg : g < 2) (hu : u < n) (hv : v < n) : I 28 0 (81 * g + 9 * u + v) = nI (L g u v) := (h.2.2.2 g u v hg hu hv).1
theorem MV.l4 {I : SI} {n : Nat} {T : Nat → Nat → Nat} {L : Nat → Nat → Nat → Nat} (h : MV I n T L) {g u v : Nat} (hg : g < 2) (hu : u < n) (hv : v < n) : L g u v < 4 := (h.2.2.2 g u v hg hu hv).2
theorem MV.of {I I' : SI} {n : Nat} {T : Nat → Nat → Nat} {L : Nat → Nat → Nat → Nat} (h : MV I n T L) (h27 : I' 27 0 0 = I 27 0 0) (h28 : I' 28 = I 28) (h29 : I' 29 = I 29) : MV I' n T L := by
  unfold MV
  rw [h27, h28, h29]
  exact h
theorem MV.sm4 {I : SI} {n : Nat} {T : Nat → Nat → Nat} {L : Nat → Nat → Nat → Nat} (h : MV I n T L) {g : Nat} (hg : g < 2) : sm4 n T L g := ⟨fun v hv => h.t4 hg hv, fun u v hu hv => h.l4 hg hu hv⟩
def isW (n : Nat) (v : Int32) : Bool := decide (0 ≤ v ∧ v < nI n)
theorem isW_t {n : Nat} {v : Int32} (hn : n < 2 ^ 31) (h : isW n v = true) : ∃ b : Nat, b < n ∧ v = nI b := by
  obtain ⟨h3, h4⟩ := of_decide_eq_true h
  obtain ⟨b, hb, rfl⟩ := ge0_of h3
  exact ⟨b, (nI_ltI hb hn).mp h4, rfl⟩
set_option maxRecDepth 100000 in
set_option maxHeartbeats 4000000 in
theorem c_X6_isVertex {l : Launch} {Y : Yk} (hA : AJ Y.2.2) {I : SI} {J : SJ} {n : Nat} {T : Nat → Nat → Nat} {L : Nat → Nat → Nat → Nat} (hv : MV I n T L) (v : Int32) : MX l Y yX6_isVertex cX6_isVertex 2 (some .boolean) 0 0 [.ref (Y.2.2 27 0), .int v] I J (fun v' I' J' => v' = some (.int (bI (isW n v))) ∧ I' = I ∧ J' = J) := by
  refine MX.of hA (by decide) (own := RX6) rfl rfl rfl ?_
  intro X Z hl hY1 hY2 hY3 C hr
  obtain ⟨D0, ca0, ad0⟩ := Y
  dsimp only at hA hY1 hY2 hY3
  subst hY1; subst hY2; subst hY3; subst hl
  show G X 2 Z (QG X Z _) I J 0 [(0, .ref (Z.2.2.1 27 0)), (1, .int v)] []
  obtain ⟨⟨hn1, hn9⟩, -⟩ := id hv
  refine g_ildn C dX6_isVertex_0 rfl ?_
  refine g_if_lt (tgt := 16) C dX6_isVertex_1 rfl (fun c1 => ?_) (fun c1 => ?_)
  · refine g_iconst C ((nI 0)) dX6_isVertex_16 (by decide) ?_
    exact g_zreturn C hr (by decide) dX6_isVertex_17 ⟨ret0 (decide_eq_false (fun q => by first | exact absurd q.1 (Int32.not_le.mpr c1) | exact absurd q.2 (Int32.not_lt.mpr c9))), rfl, rfl⟩
  · refine g_ildn C dX6_isVertex_4 rfl ?_
    refine g_aldn C dX6_isVertex_5 rfl ?_
    refine g_get C 27 0 (by decide) (by decide) u6 rfl 0 rfl fX6_7 rfl rfl dX6_isVertex_6 ?_
    refine g_top (y := (nI n)) hv.2.1 ?_
    refine g_icmp_ge (tgt := 16) C dX6_isVertex_9 rfl (fun c9 => ?_) (fun c9 => ?_)
    · refine g_iconst C ((nI 0)) dX6_isVertex_16 (by decide) ?_
      exact g_zreturn C hr (by decide) dX6_isVertex_17 ⟨ret0 (decide_eq_false (fun q => by first | exact absurd q.1 (Int32.not_le.mpr c1) | exact absurd q.2 (Int32.not_lt.mpr c9))), rfl, rfl⟩
    · refine g_iconst C ((nI 1)) dX6_isVertex_12 (by decide) ?_
      refine g_goto (tgt := 17) C dX6_isVertex_13 rfl ?_
      exact g_zreturn C hr (by decide) dX6_isVertex_17 ⟨ret1 (decide_eq_true ⟨Int32.not_lt.mp c1, Int32.not_le.mp c9⟩), rfl, rfl⟩

set_option maxRecDepth 100000 in
set_option maxHeartbeats 4000000 in
theorem c_X6_labelOf {l : Launch} {Y : Yk} (hA : AJ Y.2.2) {I : SI} {J : SJ} {n : Nat} {T : Nat → Nat → Nat} {L : Nat → Nat → Nat → Nat} (hv : MV I n T L) {g u v : Nat} (hg : g < 2) (hu : u < n) (hw : v < n) : MX l Y yX6_labelOf cX6_labelOf 4 (some .int) 0 0 [.ref (Y.2.2 27 0), .int (nI g), .int (nI u), .int (nI v)] I J (fun v' I' J' => v' = some (.int (nI (L g u v))) ∧ I' = I ∧ J' = J) := by
  refine MX.of hA (by decide) (own := RX6) rfl rfl rfl ?_
  intro X Z hl hY1 hY2 hY3 C hr
  obtain ⟨D0, ca0, ad0⟩ := Y
  dsimp only at hA hY1 hY2 hY3
  subst hY1; subst hY2; subst hY3; subst hl
  show G X 4 Z (QG X Z _) I J 0 [(0, .ref (Z.2.2.1 27 0)), (1, .int (nI g)), (2, .int (nI u)), (3, .int (nI v))] []
  obtain ⟨⟨hn1, hn9⟩, -⟩ := id hv
  refine g_aldn C dX6_labelOf_0 rfl ?_
  refine g_get C 27 0 (by decide) (by decide) u6 rfl 1 rfl fX6_13 rfl rfl dX6_labelOf_1 ?_
  refine g_bipush C ((nI 81)) dX6_labelOf_4 (by decide) ?_
  refine g_ildn C dX6_labelOf_6 rfl ?_
  refine g_imul (v := (nI (81 * g))) C dX6_labelOf_7 (pk_mul _ _) ?_
  refine g_bipush C ((nI 9)) dX6_labelOf_8 (by decide) ?_
  refine g_ildn C dX6_labelOf_10 rfl ?_
  refine g_imul (v := (nI (9 * u))) C dX6_labelOf_11 (pk_mul _ _) ?_
  refine g_iadd (v := (nI (81 * g + 9 * u))) C dX6_labelOf_12 (nI_add _ _) ?_
  refine g_ildn C dX6_labelOf_13 rfl ?_
  refine g_iadd (v := (nI (81 * g + 9 * u + v))) C dX6_labelOf_14 (nI_add _ _) ?_
  refine g_iald C 28 0 (by decide) (by decide) (fun _ _ => rfl) (81 * g + 9 * u + v) (show 81 * g + 9 * u + v < 162 by omega) rfl dX6_labelOf_15 (v := (nI (L g u v))) (hv.l hg hu hw) ?_
  exact g_ireturn C hr dX6_labelOf_16 ⟨rfl, rfl, rfl⟩

set_option maxRecDepth 100000 in
set_option maxHeartbeats 4000000 in
theorem c_X6_changed {l : Launch} {Y : Yk} (hA : AJ Y.2.2) {I : SI} {J : SJ}  : MX l Y yX6_changed cX6_changed 1 (none) 0 0 [.ref (Y.2.2 27 0)] I J (fun v' I' J' => v' = none ∧ I' = sK (sK I 27 (up2 (up2 (I 27) 0 3 (nI 0)) 0 10 (nI 0))) 33 (up2 (up2 (I 33) 0 0 (nI 0)) 0 1 (nI 0)) ∧ J' = J) := by
  refine MX.of hA (by decide) (own := RX6) rfl rfl rfl ?_
  intro X Z hl hY1 hY2 hY3 C hr
  obtain ⟨D0, ca0, ad0⟩ := Y
  dsimp only at hA hY1 hY2 hY3
  subst hY1; subst hY2; subst hY3; subst hl
  show G X 1 Z (QG X Z _) I J 0 [(0, .ref (Z.2.2.1 27 0))] []
  refine g_aldn C dX6_changed_0 rfl ?_
  refine g_iconst C ((nI 0)) dX6_changed_1 (by decide) ?_
  refine g_put C 27 0 (by decide) (by decide) tyX6 tyX6_ok nmX6 u6 rfl 3 rfl fX6_45 rfl (fun _ _ => rfl) (by simp [va_up]) rfl (by decide) (by decide) dX6_changed_2 ?_
  refine g_I (I1 := sK I 27 (up2 (I 27) 0 3 (nI 0))) rfl ?_
  refine g_aldn C dX6_changed_5 rfl ?_
  refine g_iconst C ((nI 0)) dX6_changed_6 (by decide) ?_
  refine g_put C 27 0 (by decide) (by decide) tyX6 tyX6_ok nmX6 u6 rfl 10 rfl fX6_49 rfl (fun _ _ => rfl) (by simp [va_up]) rfl (by decide) (by decide) dX6_changed_7 ?_
  refine g_I (I1 := sK I 27 (up2 (up2 (I 27) 0 3 (nI 0)) 0 10 (nI 0))) (by rw [sK_self, sK_sK]) ?_
  refine g_aldn C dX6_changed_10 rfl ?_
  refine g_get C 27 0 (by decide) (by decide) u6 rfl 7 rfl fX6_29 rfl rfl dX6_changed_11 ?_
  refine g_iconst C ((nI 0)) dX6_changed_14 (by decide) ?_
  refine g_iconst C ((nI 0)) dX6_changed_15 (by decide) ?_
  refine g_zast C 33 0 (by decide) (by decide) (fun _ _ => rfl) 0 (show 0 < 2 by omega) rfl (by decide) dX6_changed_16 ?_
  refine g_I (I1 := sK (sK I 27 (up2 (up2 (I 27) 0 3 (nI 0)) 0 10 (nI 0))) 33 (up2 (I 33) 0 0 (nI 0))) (by rw [sK_ne (by decide : (33 : Nat) ≠ 27)]) ?_
  refine g_aldn C dX6_changed_17 rfl ?_
  refine g_get C 27 0 (by decide) (by decide) u6 rfl 7 rfl fX6_29 rfl rfl dX6_changed_18 ?_
  refine g_iconst C ((nI 1)) dX6_changed_21 (by decide) ?_
  refine g_iconst C ((nI 0)) dX6_changed_22 (by decide) ?_
  refine g_zast C 33 0 (by decide) (by decide) (fun _ _ => rfl) 1 (show 1 < 2 by omega) rfl (by decide) dX6_changed_23 ?_
  refine g_I (I1 := sK (sK I 27 (up2 (up2 (I 27) 0 3 (nI 0)) 0 10 (nI 0))) 33 (up2 (up2 (I 33) 0 0 (nI 0)) 0 1 (nI 0))) (by rw [sK_self, sK_sK]) ?_
  exact g_return C hr dX6_changed_24 ⟨rfl, rfl, rfl⟩

set_option maxRecDepth 100000 in
set_option maxHeartbeats 4000000 in
theorem c_X6_other {l : Launch} {Y : Yk} (hA : AJ Y.2.2) {I : SI} {J : SJ} {w u v : Nat} (hw : w < 100) (hu : u < 100) (hv : v < 100) : MX l Y yX6_other cX6_other 3 (some .int) 0 0 [.int (nI w), .int (nI u), .int (nI v)] I J (fun v' I' J' => v' = some (.int (nI (swp u v w))) ∧ I' = I ∧ J' = J) := by
  refine MX.of hA (by decide) (own := RX6) rfl rfl rfl ?_
  intro X Z hl hY1 hY2 hY3 C hr
  obtain ⟨D0, ca0, ad0⟩ := Y
  dsimp only at hA hY1 hY2 hY3
  subst hY1; subst hY2; subst hY3; subst hl
  show G X 3 Z (QG X Z _) I J 0 [(0, .int (nI w)), (1, .int (nI u)), (2, .int (nI v))] []
  refine g_ildn C dX6_other_0 rfl ?_
  refine g_ildn C dX6_other_1 rfl ?_
  refine n_icmp_ne (tgt := 9) C dX6_other_2 rfl (by omega) (by omega) (fun c2 => ?_) (fun c2 => ?_)
  · refine g_ildn C dX6_other_9 rfl ?_
    refine g_ildn C dX6_other_10 rfl ?_
    refine n_icmp_ne (tgt := 18) C dX6_other_11 rfl (by omega) (by omega) (fun c11 => ?_) (fun c11 => ?_)
    · refine g_ildn C dX6_other_18 rfl ?_
      exact g_ireturn C hr dX6_other_19 ⟨congrArg (fun z => some (Value.int (nI z))) (by unfold swp; first | (rw [if_pos c2]) | (rw [if_neg c2, if_pos c11]) | (rw [if_neg c2, if_neg c11])), rfl, rfl⟩
    · refine g_ildn C dX6_other_14 rfl ?_
      refine g_goto (tgt := 19) C dX6_other_15 rfl ?_
      exact g_ireturn C hr dX6_other_19 ⟨congrArg (fun z => some (Value.int (nI z))) (by unfold swp; first | (rw [if_pos c2]) | (rw [if_neg c2, if_pos c11]) | (rw [if_neg c2, if_neg c11])), rfl, rfl⟩
  · refine g_ildn C dX6_other_5 rfl ?_
    refine g_goto (tgt := 19) C dX6_other_6 rfl ?_
    exact g_ireturn C hr dX6_other_19 ⟨congrArg (fun z => some (Value.int (nI z))) (by unfold swp; first | (rw [if_pos c2]) | (rw [if_neg c2, if_pos c11]) | (rw [if_neg c2, if_neg c11])), rfl, rfl⟩

set_option maxRecDepth 100000 in
set_option maxHeartbeats 4000000 in
theorem c_X6_sizeOf {l : Launch} {Y : Yk} (hA : AJ Y.2.2) {I : SI} {J : SJ} {i : Nat} : MX l Y yX6_sizeOf cX6_sizeOf 1 (some .int) 0 0 [.int (nI i)] I J (fun v' I' J' => v' = some (.int (nI (i * i))) ∧ I' = I ∧ J' = J) := by
  refine MX.of hA (by decide) (own := RX6) rfl rfl rfl ?_
  intro X Z hl hY1 hY2 hY3 C hr
  obtain ⟨D0, ca0, ad0⟩ := Y
  dsimp only at hA hY1 hY2 hY3
  subst hY1; subst hY2; subst hY3; subst hl
  show G X 1 Z (QG X Z _) I J 0 [(0, .int (nI i))] []
  refine g_ildn C dX6_sizeOf_0 rfl ?_
  refine g_ildn C dX6_sizeOf_1 rfl ?_
  refine g_imul (v := (nI (i * i))) C dX6_sizeOf_2 (pk_mul _ _) ?_
  exact g_ireturn C hr dX6_sizeOf_3 ⟨rfl, rfl, rfl⟩

set_option maxRecDepth 100000 in
set_option maxHeartbeats 4000000 in
theorem c_X6_isThere {l : Launch} {Y : Yk} (hA : AJ Y.2.2) {I : SI} {J : SJ} {n : Nat} {T : Nat → Nat → Nat} {L : Nat → Nat → Nat → Nat} (hv : MV I n T L) {x : Nat} (hx : x < 100) : MX l Y yX6_isThere cX6_isThere 2 (some .boolean) 0 0 [.ref (Y.2.2 27 0), .int (nI x)] I J (fun v' I' J' => v' = some (.int (bI (decide (x % 9 < n)))) ∧ I' = I ∧ J' = J) := by
  refine MX.of hA (by decide) (own := RX6) rfl rfl rfl ?_
  intro X Z hl hY1 hY2 hY3 C hr
  obtain ⟨D0, ca0, ad0⟩ := Y
  dsimp only at hA hY1 hY2 hY3
  subst hY1; subst hY2; subst hY3; subst hl
  show G X 2 Z (QG X Z _) I J 0 [(0, .ref (Z.2.2.1 27 0)), (1, .int (nI x))] []
  obtain ⟨⟨hn1, hn9⟩, -⟩ := id hv
  refine g_ildn C dX6_isThere_0 rfl ?_
  refine g_bipush C ((nI 9)) dX6_isThere_1 (by decide) ?_
  refine g_irem (v := (nI (x % 9))) C dX6_isThere_3 (nI_ne0 (by omega) (by omega)) (pk_rem (by omega) (by omega) (by omega)) ?_
  refine g_aldn C dX6_isThere_4 rfl ?_
  refine g_get C 27 0 (by decide) (by decide) u6 rfl 0 rfl fX6_7 rfl rfl dX6_isThere_5 ?_
  refine g_top (y := (nI n)) hv.2.1 ?_
  refine n_icmp_ge (tgt := 15) C dX6_isThere_8 rfl (by omega) (by omega) (fun c8 => ?_) (fun c8 => ?_)
  · refine g_iconst C ((nI 0)) dX6_isThere_15 (by decide) ?_
    exact g_zreturn C hr (by decide) dX6_isThere_16 ⟨ret0 (decide_eq_false (by omega)), rfl, rfl⟩
  · refine g_iconst C ((nI 1)) dX6_isThere_11 (by decide) ?_
    refine g_goto (tgt := 16) C dX6_isThere_12 rfl ?_
    exact g_zreturn C hr (by decide) dX6_isThere_16 ⟨ret1 (decide_eq_true (by omega)), rfl, rfl⟩

set_option maxRecDepth 100000 in
set_option maxHeartbeats 4000000 in
theorem l_X6_edges_15 {X : Pk} {Z : Zk} {Q : State → Prop} {I : SI} {J : SJ} (hA : AJ Z.2.2.1) (C : Cx X cX6_edges 5 RX6 Z 1 40) {n : Nat} {T : Nat → Nat → Nat} {L : Nat → Nat → Nat → Nat} (hv : MV I n T L) {g : Nat} (hg : g < 2) (hd : ∀ v, v < n → L g v v = 0) {u e0 : Nat} (hu : u < n) (he : e0 < 1000) (hex : G X 5 Z Q I J 55 [(0, .ref (Z.2.2.1 27 0)), (1, .int (nI g)), (2, .int (nI (e0 + ct (fun w => decide (0 < L g u w)) n))), (3, .int (nI u)), (4, .int (nI n))] []) : ∀ k v, n - v < k → v ≤ n → G X 5 Z Q I J 15 [(0, .ref (Z.2.2.1 27 0)), (1, .int (nI g)), (2, .int (nI (e0 + ct (fun w => decide (0 < L g u w)) v))), (3, .int (nI u)), (4, .int (nI v))] [] := by
  obtain ⟨⟨hn1, hn9⟩, -⟩ := id hv
  intro k
  induction k with
  | zero => intro v h; exact absurd h (by omega)
  | succ k ih =>
    intro v hk hvn
    have hct := ct_le (fun w => decide (0 < L g u w)) v
    have h4 : v < n → L g u v < 4 := fun h => hv.l4 hg hu h
    refine g_ild C dX6_edges_15 rfl ?_
    refine g_aldn C dX6_edges_17 rfl ?_
    refine g_get C 27 0 (by decide) (by decide) u6 rfl 0 rfl fX6_7 rfl rfl dX6_edges_18 ?_
    refine g_top (y := (nI n)) hv.2.1 ?_
    refine n_icmp_ge (tgt := 55) C dX6_edges_21 rfl (by omega) (by omega) (fun c21 => ?_) (fun c21 => ?_)
    · have e : v = n := by omega
      subst e
      refine g_lv [0, 1, 2, 3, 4] rfl ?_
      exact hex
    · refine g_ildn C dX6_edges_24 rfl ?_
      refine g_ildn C dX6_edges_25 rfl ?_
      refine g_ild C dX6_edges_26 rfl ?_
      refine n_icmp_eq (tgt := 46) C dX6_edges_28 rfl (by omega) (by omega) (fun c28 => ?_) (fun c28 => ?_)
      · refine g_iconst C ((nI 0)) dX6_edges_46 (by decide) ?_
        refine g_iadd (v := (nI (e0 + ct (fun w => decide (0 < L g u w)) v + 0))) C dX6_edges_47 (nI_add _ _) ?_
        refine g_istn (lv' := [(2, .int (nI (e0 + ct (fun w => decide (0 < L g u w)) v + 0))), (0, .ref (Z.2.2.1 27 0)), (1, .int (nI g)), (3, .int (nI u)), (4, .int (nI v))]) C dX6_edges_48 rfl rfl ?_
        refine g_iinc (lv' := [(4, .int (nI (v + 1))), (2, .int (nI (e0 + ct (fun w => decide (0 < L g u w)) v + 0))), (0, .ref (Z.2.2.1 27 0)), (1, .int (nI g)), (3, .int (nI u))]) C ((nI (v + 1))) dX6_edges_49 rfl (inc1 _) rfl rfl ?_
        refine g_goto (tgt := 15) C dX6_edges_52 rfl ?_
        refine g_lv (lv1 := [(0, .ref (Z.2.2.1 27 0)), (1, .int (nI g)), (2, .int (nI (e0 + ct (fun w => decide (0 < L g u w)) (v + 1)))), (3, .int (nI u)), (4, .int (nI (v + 1)))]) [2, 3, 1, 4, 0] (by rw [show e0 + ct (fun w => decide (0 < L g u w)) (v + 1) = e0 + ct (fun w => decide (0 < L g u w)) v + 0 by simp only [ct]; rw [if_neg (by simp; first | omega | (rw [← c28]; exact hd u hu))]; rfl]; rfl) ?_
        exact ih (v + 1) (by omega) (by omega)
      · refine g_aldn C dX6_edges_31 rfl ?_
        refine g_ildn C dX6_edges_32 rfl ?_
        refine g_ildn C dX6_edges_33 rfl ?_
        refine g_ild C dX6_edges_34 rfl ?_
        refine g_callV (As := [.int (nI g), .int (nI u), .int (nI v)]) (st := [.int (nI (e0 + ct (fun w => decide (0 < L g u w)) v))]) C (c_X6_labelOf hA hv (show g < 2 by omega) (show u < n by omega) (show v < n by omega)) wX6_labelOf iX6_labelOf sX6_labelOf mX6_62 27 0 (by decide) (by decide) rfl rfl rfl rfl rfl rfl rfl rfl dX6_edges_36 ?_
        rintro v9 I9 J9 ⟨h91, h92, h93⟩
        rw [h91, h92, h93]
        clear h91 h92 h93 v9 I9 J9
        show G X _ Z _ I J 39 [(0, .ref (Z.2.2.1 27 0)), (1, .int (nI g)), (2, .int (nI (e0 + ct (fun w => decide (0 < L g u w)) v))), (3, .int (nI u)), (4, .int (nI v))] [.int (nI (L g u v)), .int (nI (e0 + ct (fun w => decide (0 < L g u w)) v))]
        refine n_if_le (tgt := 46) C dX6_edges_39 rfl (by omega) (fun c39 => ?_) (fun c39 => ?_)
        · refine g_iconst C ((nI 0)) dX6_edges_46 (by decide) ?_
          refine g_iadd (v := (nI (e0 + ct (fun w => decide (0 < L g u w)) v + 0))) C dX6_edges_47 (nI_add _ _) ?_
          refine g_istn (lv' := [(2, .int (nI (e0 + ct (fun w => decide (0 < L g u w)) v + 0))), (0, .ref (Z.2.2.1 27 0)), (1, .int (nI g)), (3, .int (nI u)), (4, .int (nI v))]) C dX6_edges_48 rfl rfl ?_
          refine g_iinc (lv' := [(4, .int (nI (v + 1))), (2, .int (nI (e0 + ct (fun w => decide (0 < L g u w)) v + 0))), (0, .ref (Z.2.2.1 27 0)), (1, .int (nI g)), (3, .int (nI u))]) C ((nI (v + 1))) dX6_edges_49 rfl (inc1 _) rfl rfl ?_
          refine g_goto (tgt := 15) C dX6_edges_52 rfl ?_
          refine g_lv (lv1 := [(0, .ref (Z.2.2.1 27 0)), (1, .int (nI g)), (2, .int (nI (e0 + ct (fun w => decide (0 < L g u w)) (v + 1)))), (3, .int (nI u)), (4, .int (nI (v + 1)))]) [2, 3, 1, 4, 0] (by rw [show e0 + ct (fun w => decide (0 < L g u w)) (v + 1) = e0 + ct (fun w => decide (0 < L g u w)) v + 0 by simp only [ct]; rw [if_neg (by simp; first | omega | (rw [← c28]; exact hd u hu))]; rfl]; rfl) ?_
          exact ih (v + 1) (by omega) (by omega)
        · refine g_iconst C ((nI 1)) dX6_edges_42 (by decide) ?_
          refine g_goto (tgt := 47) C dX6_edges_43 rfl ?_
          refine g_iadd (v := (nI (e0 + ct (fun w => decide (0 < L g u w)) v + 1))) C dX6_edges_47 (nI_add _ _) ?_
          refine g_istn (lv' := [(2, .int (nI (e0 + ct (fun w => decide (0 < L g u w)) v + 1))), (0, .ref (Z.2.2.1 27 0)), (1, .int (nI g)), (3, .int (nI u)), (4, .int (nI v))]) C dX6_edges_48 rfl rfl ?_
          refine g_iinc (lv' := [(4, .int (nI (v + 1))), (2, .int (nI (e0 + ct (fun w => decide (0 < L g u w)) v + 1))), (0, .ref (Z.2.2.1 27 0)), (1, .int (nI g)), (3, .int (nI u))]) C ((nI (v + 1))) dX6_edges_49 rfl (inc1 _) rfl rfl ?_
          refine g_goto (tgt := 15) C dX6_edges_52 rfl ?_
          refine g_lv (lv1 := [(0, .ref (Z.2.2.1 27 0)), (1, .int (nI g)), (2, .int (nI (e0 + ct (fun w => decide (0 < L g u w)) (v + 1)))), (3, .int (nI u)), (4, .int (nI (v + 1)))]) [2, 3, 1, 4, 0] (by rw [show e0 + ct (fun w => decide (0 < L g u w)) (v + 1) = e0 + ct (fun w => decide (0 < L g u w)) v + 1 by simp only [ct]; rw [if_pos (decide_eq_true (by omega))]; omega]; rfl) ?_
          exact ih (v + 1) (by omega) (by omega)

set_option maxRecDepth 100000 in
set_option maxHeartbeats 4000000 in
theorem l_X6_edges_4 {X : Pk} {Z : Zk} {I : SI} {J : SJ} (hA : AJ Z.2.2.1) (C : Cx X cX6_edges 5 RX6 Z 1 40) (hr : (xE X).sig.returnType = some .int) {n : Nat} {T : Nat → Nat → Nat} {L : Nat → Nat → Nat → Nat} (hv : MV I n T L) {g : Nat} (hg : g < 2) (hd : ∀ v, v < n → L g v v = 0) : ∀ k u, n - u < k → u ≤ n → G X 5 Z (QG X Z (fun v' I' J' => v' = some (.int (nI (ed n L g))) ∧ I' = I ∧ J' = J)) I J 4 [(0, .ref (Z.2.2.1 27 0)), (1, .int (nI g)), (2, .int (nI (sm (fun u => ct (fun w => decide (0 < L g u w)) n) u))), (3, .int (nI u))] [] := by
  obtain ⟨⟨hn1, hn9⟩, -⟩ := id hv
  intro k
  induction k with
  | zero => intro v h; exact absurd h (by omega)
  | succ k ih =>
    intro u hk hun
    have hsm := sm_le (f := (fun u => ct (fun w => decide (0 < L g u w)) n)) (b := n) (fun i => ct_le _ n) u
    have hsm2 : n * u ≤ 9 * 9 := Nat.mul_le_mul hn9 (by omega)
    refine g_ildn C dX6_edges_4 rfl ?_
    refine g_aldn C dX6_edges_5 rfl ?_
    refine g_get C 27 0 (by decide) (by decide) u6 rfl 0 rfl fX6_7 rfl rfl dX6_edges_6 ?_
    refine g_top (y := (nI n)) hv.2.1 ?_
    refine n_icmp_ge (tgt := 61) C dX6_edges_9 rfl (by omega) (by omega) (fun c_1 => ?_) (fun c_1 => ?_)
    · refine g_ildn C dX6_edges_61 rfl ?_
      exact g_ireturn C hr dX6_edges_62 ⟨by rw [show u = n by omega]; rfl, rfl, rfl⟩
    · refine g_iconst C ((nI 0)) dX6_edges_12 (by decide) ?_
      refine g_ist (lv' := [(4, .int (nI 0)), (0, .ref (Z.2.2.1 27 0)), (1, .int (nI g)), (2, .int (nI (sm (fun u => ct (fun w => decide (0 < L g u w)) n) u))), (3, .int (nI u))]) C dX6_edges_13 rfl rfl ?_
      refine g_lv [1, 2, 3, 4, 0] rfl ?_
      refine l_X6_edges_15 (e0 := sm (fun u => ct (fun w => decide (0 < L g u w)) n) u) hA C hv hg hd (u := u) (by omega) (by omega) ?_ (n + 1) 0 (by omega) (by omega)
      show G X 5 Z _ I J 55 [(0, .ref (Z.2.2.1 27 0)), (1, .int (nI g)), (2, .int (nI (sm (fun u => ct (fun w => decide (0 < L g u w)) n) (u + 1)))), (3, .int (nI u)), (4, .int (nI n))] []
      refine g_iinc (lv' := [(3, .int (nI (u + 1))), (0, .ref (Z.2.2.1 27 0)), (1, .int (nI g)), (2, .int (nI (sm (fun u => ct (fun w => decide (0 < L g u w)) n) (u + 1)))), (4, .int (nI n))]) C ((nI (u + 1))) dX6_edges_55 rfl (inc1 _) rfl rfl ?_
      refine g_goto (tgt := 4) C dX6_edges_58 rfl ?_
      refine g_lv [1, 2, 3, 0] rfl ?_
      exact ih (u + 1) (by omega) (by omega)

set_option maxRecDepth 100000 in
set_option maxHeartbeats 4000000 in
theorem c_X6_edges {l : Launch} {Y : Yk} (hA : AJ Y.2.2) {I : SI} {J : SJ} {n : Nat} {T : Nat → Nat → Nat} {L : Nat → Nat → Nat → Nat} (hv : MV I n T L) {g : Nat} (hg : g < 2) (hd : ∀ v, v < n → L g v v = 0)  : MX l Y yX6_edges cX6_edges 5 (some .int) 1 40 [.ref (Y.2.2 27 0), .int (nI g)] I J (fun v' I' J' => v' = some (.int (nI (ed n L g))) ∧ I' = I ∧ J' = J) := by
  refine MX.of hA (by decide) (own := RX6) rfl rfl rfl ?_
  intro X Z hl hY1 hY2 hY3 C hr
  obtain ⟨D0, ca0, ad0⟩ := Y
  dsimp only at hA hY1 hY2 hY3
  subst hY1; subst hY2; subst hY3; subst hl
  show G X 5 Z (QG X Z _) I J 0 [(0, .ref (Z.2.2.1 27 0)), (1, .int (nI g))] []
  refine g_iconst C ((nI 0)) dX6_edges_0 (by decide) ?_
  refine g_istn (lv' := [(2, .int (nI 0)), (0, .ref (Z.2.2.1 27 0)), (1, .int (nI g))]) C dX6_edges_1 rfl rfl ?_
  refine g_iconst C ((nI 0)) dX6_edges_2 (by decide) ?_
  refine g_istn (lv' := [(3, .int (nI 0)), (2, .int (nI 0)), (0, .ref (Z.2.2.1 27 0)), (1, .int (nI g))]) C dX6_edges_3 rfl rfl ?_
  refine g_lv [2, 3, 1, 0] rfl ?_
  exact l_X6_edges_4 hA C hr hv hg hd (n + 1) 0 (by omega) (by omega)

/-- the colours in the reference's cells -/
def MC (I : SI) (n : Nat) (c : Nat → Nat) : Prop := ∀ s, thr n s → I 36 0 s = nI (c s) ∧ c s < 18
theorem MC.of {I I' : SI} {n : Nat} {c : Nat → Nat} (h : MC I n c) (e : I' 36 = I 36) : MC I' n c := by unfold MC; rw [e]; exact h
/-- what many counts -/
def mnp (L : Nat → Nat → Nat → Nat) (c : Nat → Nat) (g v p x : Nat) : Nat → Bool := fun w => decide (w ≠ v ∧ c (9 * g + w) = x ∧ L g v w = p / 4 ∧ L g w v = p % 4)
set_option maxRecDepth 100000 in
set_option maxHeartbeats 4000000 in
theorem l_X6_many_6 {X : Pk} {Z : Zk} {I : SI} {J : SJ} (hA : AJ Z.2.2.1) (C : Cx X cX6_many 7 RX6 Z 1 40) (hr : (xE X).sig.returnType = some .int) {n : Nat} {T : Nat → Nat → Nat} {L : Nat → Nat → Nat → Nat} (hv : MV I n T L) {c : Nat → Nat} (hc : MC I n c) {g v p x : Nat} (hg : g < 2) (hvn : v < n) (hp : p < 16) (hx : x < 18) : ∀ k w, n - w < k → w ≤ n → G X 7 Z (QG X Z (fun v' I' J' => v' = some (.int (nI (ct (mnp L c g v p x) n))) ∧ I' = I ∧ J' = J)) I J 6 [(0, .ref (Z.2.2.1 27 0)), (1, .int (nI g)), (2, .int (nI v)), (3, .int (nI p)), (4, .int (nI x)), (5, .int (nI (ct (mnp L c g v p x) w))), (6, .int (nI w))] [] := by
  obtain ⟨⟨hn1, hn9⟩, -⟩ := id hv
  intro k
  induction k with
  | zero => intro v h; exact absurd h (by omega)
  | succ k ih =>
    intro w hk hwn
    have hct := ct_le (mnp L c g v p x) w
    have h1 : w < n → L g v w < 4 := fun h => hv.l4 hg hvn h
    have h2 : w < n → L g w v < 4 := fun h => hv.l4 hg h hvn
    have h3 : w < n → c (9 * g + w) < 18 := fun h => (hc (9 * g + w) ⟨by omega, by omega⟩).2
    refine g_ild C dX6_many_6 rfl ?_
    refine g_aldn C dX6_many_8 rfl ?_
    refine g_get C 27 0 (by decide) (by decide) u6 rfl 0 rfl fX6_7 rfl rfl dX6_many_9 ?_
    refine g_top (y := (nI n)) hv.2.1 ?_
    refine n_icmp_ge (tgt := 82) C dX6_many_12 rfl (by omega) (by omega) (fun c12 => ?_) (fun c12 => ?_)
    · refine g_ild C dX6_many_82 rfl ?_
      exact g_ireturn C hr dX6_many_84 ⟨by rw [show w = n by omega], rfl, rfl⟩
    · refine g_ild C dX6_many_15 rfl ?_
      refine g_ild C dX6_many_17 rfl ?_
      refine g_ildn C dX6_many_19 rfl ?_
      refine n_icmp_eq (tgt := 72) C dX6_many_20 rfl (by omega) (by omega) (fun c20 => ?_) (fun c20 => ?_)
      · refine g_iconst C ((nI 0)) dX6_many_72 (by decide) ?_
        refine g_iadd (v := (nI (ct (mnp L c g v p x) w + 0))) C dX6_many_73 (nI_add _ _) ?_
        refine g_ist (lv' := [(5, .int (nI (ct (mnp L c g v p x) w + 0))), (0, .ref (Z.2.2.1 27 0)), (1, .int (nI g)), (2, .int (nI v)), (3, .int (nI p)), (4, .int (nI x)), (6, .int (nI w))]) C dX6_many_74 rfl rfl ?_
        refine g_iinc (lv' := [(6, .int (nI (w + 1))), (5, .int (nI (ct (mnp L c g v p x) w + 0))), (0, .ref (Z.2.2.1 27 0)), (1, .int (nI g)), (2, .int (nI v)), (3, .int (nI p)), (4, .int (nI x))]) C ((nI (w + 1))) dX6_many_76 rfl (inc1 _) rfl rfl ?_
        refine g_goto (tgt := 6) C dX6_many_79 rfl ?_
        refine g_lv (lv1 := [(0, .ref (Z.2.2.1 27 0)), (1, .int (nI g)), (2, .int (nI v)), (3, .int (nI p)), (4, .int (nI x)), (5, .int (nI (ct (mnp L c g v p x) (w + 1)))), (6, .int (nI (w + 1)))]) [2, 3, 4, 5, 6, 1, 0] (by rw [show ct (mnp L c g v p x) (w + 1) = ct (mnp L c g v p x) w + 0 from ct_f (decide_eq_false (fun q => by first | exact q.1 c20 | exact c37 q.2.1 | exact c51 q.2.2.1 | exact c65 q.2.2.2))]; rfl) ?_
        exact ih (w + 1) (by omega) (by omega)
      · refine g_aldn C dX6_many_23 rfl ?_
        refine g_get C 27 0 (by decide) (by decide) u6 rfl 11 rfl fX6_39 rfl rfl dX6_many_24 ?_
        refine g_bipush C ((nI 9)) dX6_many_27 (by decide) ?_
        refine g_ildn C dX6_many_29 rfl ?_
        refine g_imul (v := (nI (9 * g))) C dX6_many_30 (pk_mul _ _) ?_
        refine g_ild C dX6_many_31 rfl ?_
        refine g_iadd (v := (nI (9 * g + w))) C dX6_many_33 (nI_add _ _) ?_
        refine g_iald C 36 0 (by decide) (by decide) (fun _ _ => rfl) (9 * g + w) (show 9 * g + w < 18 by omega) rfl dX6_many_34 (v := (nI (c (9 * g + w)))) (hc (9 * g + w) ⟨by omega, by omega⟩).1 ?_
        refine g_ild C dX6_many_35 rfl ?_
        refine n_icmp_ne (tgt := 72) C dX6_many_37 rfl (by omega) (by omega) (fun c37 => ?_) (fun c37 => ?_)
        · refine g_iconst C ((nI 0)) dX6_many_72 (by decide) ?_
          refine g_iadd (v := (nI (ct (mnp L c g v p x) w + 0))) C dX6_many_73 (nI_add _ _) ?_
          refine g_ist (lv' := [(5, .int (nI (ct (mnp L c g v p x) w + 0))), (0, .ref (Z.2.2.1 27 0)), (1, .int (nI g)), (2, .int (nI v)), (3, .int (nI p)), (4, .int (nI x)), (6, .int (nI w))]) C dX6_many_74 rfl rfl ?_
          refine g_iinc (lv' := [(6, .int (nI (w + 1))), (5, .int (nI (ct (mnp L c g v p x) w + 0))), (0, .ref (Z.2.2.1 27 0)), (1, .int (nI g)), (2, .int (nI v)), (3, .int (nI p)), (4, .int (nI x))]) C ((nI (w + 1))) dX6_many_76 rfl (inc1 _) rfl rfl ?_
          refine g_goto (tgt := 6) C dX6_many_79 rfl ?_
          refine g_lv (lv1 := [(0, .ref (Z.2.2.1 27 0)), (1, .int (nI g)), (2, .int (nI v)), (3, .int (nI p)), (4, .int (nI x)), (5, .int (nI (ct (mnp L c g v p x) (w + 1)))), (6, .int (nI (w + 1)))]) [2, 3, 4, 5, 6, 1, 0] (by rw [show ct (mnp L c g v p x) (w + 1) = ct (mnp L c g v p x) w + 0 from ct_f (decide_eq_false (fun q => by first | exact q.1 c20 | exact c37 q.2.1 | exact c51 q.2.2.1 | exact c65 q.2.2.2))]; rfl) ?_
          exact ih (w + 1) (by omega) (by omega)
        · refine g_aldn C dX6_many_40 rfl ?_
          refine g_ildn C dX6_many_41 rfl ?_
          refine g_ildn C dX6_many_42 rfl ?_
          refine g_ild C dX6_many_43 rfl ?_
          refine g_callV (As := [.int (nI g), .int (nI v), .int (nI w)]) (st := [.int (nI (ct (mnp L c g v p x) w))]) C (c_X6_labelOf hA hv (show g < 2 by omega) (show v < n by omega) (show w < n by omega)) wX6_labelOf iX6_labelOf sX6_labelOf mX6_62 27 0 (by decide) (by decide) rfl rfl rfl rfl rfl rfl rfl rfl dX6_many_45 ?_
          rintro v9 I9 J9 ⟨h91, h92, h93⟩
          rw [h91, h92, h93]
          clear h91 h92 h93 v9 I9 J9
          show G X _ Z _ I J 48 [(0, .ref (Z.2.2.1 27 0)), (1, .int (nI g)), (2, .int (nI v)), (3, .int (nI p)), (4, .int (nI x)), (5, .int (nI (ct (mnp L c g v p x) w))), (6, .int (nI w))] [.int (nI (L g v w)), .int (nI (ct (mnp L c g v p x) w))]
          refine g_ildn C dX6_many_48 rfl ?_
          refine g_iconst C ((nI 4)) dX6_many_49 (by decide) ?_
          refine g_idiv (v := (nI (p / 4))) C dX6_many_50 (nI_ne0 (by omega) (by omega)) (pk_div (by omega) (by omega) (by omega)) ?_
          refine n_icmp_ne (tgt := 72) C dX6_many_51 rfl (by omega) (by omega) (fun c51 => ?_) (fun c51 => ?_)
          · refine g_iconst C ((nI 0)) dX6_many_72 (by decide) ?_
            refine g_iadd (v := (nI (ct (mnp L c g v p x) w + 0))) C dX6_many_73 (nI_add _ _) ?_
            refine g_ist (lv' := [(5, .int (nI (ct (mnp L c g v p x) w + 0))), (0, .ref (Z.2.2.1 27 0)), (1, .int (nI g)), (2, .int (nI v)), (3, .int (nI p)), (4, .int (nI x)), (6, .int (nI w))]) C dX6_many_74 rfl rfl ?_
            refine g_iinc (lv' := [(6, .int (nI (w + 1))), (5, .int (nI (ct (mnp L c g v p x) w + 0))), (0, .ref (Z.2.2.1 27 0)), (1, .int (nI g)), (2, .int (nI v)), (3, .int (nI p)), (4, .int (nI x))]) C ((nI (w + 1))) dX6_many_76 rfl (inc1 _) rfl rfl ?_
            refine g_goto (tgt := 6) C dX6_many_79 rfl ?_
            refine g_lv (lv1 := [(0, .ref (Z.2.2.1 27 0)), (1, .int (nI g)), (2, .int (nI v)), (3, .int (nI p)), (4, .int (nI x)), (5, .int (nI (ct (mnp L c g v p x) (w + 1)))), (6, .int (nI (w + 1)))]) [2, 3, 4, 5, 6, 1, 0] (by rw [show ct (mnp L c g v p x) (w + 1) = ct (mnp L c g v p x) w + 0 from ct_f (decide_eq_false (fun q => by first | exact q.1 c20 | exact c37 q.2.1 | exact c51 q.2.2.1 | exact c65 q.2.2.2))]; rfl) ?_
            exact ih (w + 1) (by omega) (by omega)
          · refine g_aldn C dX6_many_54 rfl ?_
            refine g_ildn C dX6_many_55 rfl ?_
            refine g_ild C dX6_many_56 rfl ?_
            refine g_ildn C dX6_many_58 rfl ?_
            refine g_callV (As := [.int (nI g), .int (nI w), .int (nI v)]) (st := [.int (nI (ct (mnp L c g v p x) w))]) C (c_X6_labelOf hA hv (show g < 2 by omega) (show w < n by omega) (show v < n by omega)) wX6_labelOf iX6_labelOf sX6_labelOf mX6_62 27 0 (by decide) (by decide) rfl rfl rfl rfl rfl rfl rfl rfl dX6_many_59 ?_
            rintro v9 I9 J9 ⟨h91, h92, h93⟩
            rw [h91, h92, h93]
            clear h91 h92 h93 v9 I9 J9
            show G X _ Z _ I J 62 [(0, .ref (Z.2.2.1 27 0)), (1, .int (nI g)), (2, .int (nI v)), (3, .int (nI p)), (4, .int (nI x)), (5, .int (nI (ct (mnp L c g v p x) w))), (6, .int (nI w))] [.int (nI (L g w v)), .int (nI (ct (mnp L c g v p x) w))]
            refine g_ildn C dX6_many_62 rfl ?_
            refine g_iconst C ((nI 4)) dX6_many_63 (by decide) ?_
            refine g_irem (v := (nI (p % 4))) C dX6_many_64 (nI_ne0 (by omega) (by omega)) (pk_rem (by omega) (by omega) (by omega)) ?_
            refine n_icmp_ne (tgt := 72) C dX6_many_65 rfl (by omega) (by omega) (fun c65 => ?_) (fun c65 => ?_)
            · refine g_iconst C ((nI 0)) dX6_many_72 (by decide) ?_
              refine g_iadd (v := (nI (ct (mnp L c g v p x) w + 0))) C dX6_many_73 (nI_add _ _) ?_
              refine g_ist (lv' := [(5, .int (nI (ct (mnp L c g v p x) w + 0))), (0, .ref (Z.2.2.1 27 0)), (1, .int (nI g)), (2, .int (nI v)), (3, .int (nI p)), (4, .int (nI x)), (6, .int (nI w))]) C dX6_many_74 rfl rfl ?_
              refine g_iinc (lv' := [(6, .int (nI (w + 1))), (5, .int (nI (ct (mnp L c g v p x) w + 0))), (0, .ref (Z.2.2.1 27 0)), (1, .int (nI g)), (2, .int (nI v)), (3, .int (nI p)), (4, .int (nI x))]) C ((nI (w + 1))) dX6_many_76 rfl (inc1 _) rfl rfl ?_
              refine g_goto (tgt := 6) C dX6_many_79 rfl ?_
              refine g_lv (lv1 := [(0, .ref (Z.2.2.1 27 0)), (1, .int (nI g)), (2, .int (nI v)), (3, .int (nI p)), (4, .int (nI x)), (5, .int (nI (ct (mnp L c g v p x) (w + 1)))), (6, .int (nI (w + 1)))]) [2, 3, 4, 5, 6, 1, 0] (by rw [show ct (mnp L c g v p x) (w + 1) = ct (mnp L c g v p x) w + 0 from ct_f (decide_eq_false (fun q => by first | exact q.1 c20 | exact c37 q.2.1 | exact c51 q.2.2.1 | exact c65 q.2.2.2))]; rfl) ?_
              exact ih (w + 1) (by omega) (by omega)
            · refine g_iconst C ((nI 1)) dX6_many_68 (by decide) ?_
              refine g_goto (tgt := 73) C dX6_many_69 rfl ?_
              refine g_iadd (v := (nI (ct (mnp L c g v p x) w + 1))) C dX6_many_73 (nI_add _ _) ?_
              refine g_ist (lv' := [(5, .int (nI (ct (mnp L c g v p x) w + 1))), (0, .ref (Z.2.2.1 27 0)), (1, .int (nI g)), (2, .int (nI v)), (3, .int (nI p)), (4, .int (nI x)), (6, .int (nI w))]) C dX6_many_74 rfl rfl ?_
              refine g_iinc (lv' := [(6, .int (nI (w + 1))), (5, .int (nI (ct (mnp L c g v p x) w + 1))), (0, .ref (Z.2.2.1 27 0)), (1, .int (nI g)), (2, .int (nI v)), (3, .int (nI p)), (4, .int (nI x))]) C ((nI (w + 1))) dX6_many_76 rfl (inc1 _) rfl rfl ?_
              refine g_goto (tgt := 6) C dX6_many_79 rfl ?_
              refine g_lv (lv1 := [(0, .ref (Z.2.2.1 27 0)), (1, .int (nI g)), (2, .int (nI v)), (3, .int (nI p)), (4, .int (nI x)), (5, .int (nI (ct (mnp L c g v p x) (w + 1)))), (6, .int (nI (w + 1)))]) [2, 3, 4, 5, 6, 1, 0] (by rw [show ct (mnp L c g v p x) (w + 1) = ct (mnp L c g v p x) w + 1 from ct_t (decide_eq_true ⟨c20, c37, c51, c65⟩)]; rfl) ?_
              exact ih (w + 1) (by omega) (by omega)

set_option maxRecDepth 100000 in
set_option maxHeartbeats 4000000 in
theorem c_X6_many {l : Launch} {Y : Yk} (hA : AJ Y.2.2) {I : SI} {J : SJ} {n : Nat} {T : Nat → Nat → Nat} {L : Nat → Nat → Nat → Nat} (hv : MV I n T L) {c : Nat → Nat} (hc : MC I n c) {g v p x : Nat} (hg : g < 2) (hvn : v < n) (hp : p < 16) (hx : x < 18)  : MX l Y yX6_many cX6_many 7 (some .int) 1 40 [.ref (Y.2.2 27 0), .int (nI g), .int (nI v), .int (nI p), .int (nI x)] I J (fun v' I' J' => v' = some (.int (nI (ct (mnp L c g v p x) n))) ∧ I' = I ∧ J' = J) := by
  refine MX.of hA (by decide) (own := RX6) rfl rfl rfl ?_
  intro X Z hl hY1 hY2 hY3 C hr
  obtain ⟨D0, ca0, ad0⟩ := Y
  dsimp only at hA hY1 hY2 hY3
  subst hY1; subst hY2; subst hY3; subst hl
  show G X 7 Z (QG X Z _) I J 0 [(0, .ref (Z.2.2.1 27 0)), (1, .int (nI g)), (2, .int (nI v)), (3, .int (nI p)), (4, .int (nI x))] []
  refine g_iconst C ((nI 0)) dX6_many_0 (by decide) ?_
  refine g_ist (lv' := [(5, .int (nI 0)), (0, .ref (Z.2.2.1 27 0)), (1, .int (nI g)), (2, .int (nI v)), (3, .int (nI p)), (4, .int (nI x))]) C dX6_many_1 rfl rfl ?_
  refine g_iconst C ((nI 0)) dX6_many_3 (by decide) ?_
  refine g_ist (lv' := [(6, .int (nI 0)), (5, .int (nI 0)), (0, .ref (Z.2.2.1 27 0)), (1, .int (nI g)), (2, .int (nI v)), (3, .int (nI p)), (4, .int (nI x))]) C dX6_many_4 rfl rfl ?_
  refine g_lv [2, 3, 4, 5, 6, 1, 0] rfl ?_
  exact l_X6_many_6 hA C hr hv hc hg hvn hp hx (n + 1) 0 (by omega) (by omega)

set_option maxRecDepth 100000 in
set_option maxHeartbeats 4000000 in
theorem l_X6_isUnused_2 {X : Pk} {Z : Zk} {I : SI} {J : SJ} (hA : AJ Z.2.2.1) (C : Cx X cX6_isUnused 3 RX6 Z 0 0) (hr : (xE X).sig.returnType = some .boolean) {f : Nat → Nat} {i : Nat} (hi : i < 9) (hf : ∀ a, a ≤ i → I 31 0 a = nI (f a) ∧ f a < 9) : ∀ k j, i - j < k → j ≤ i → (∀ a, a < j → f a ≠ f i) → G X 3 Z (QG X Z (fun v' I' J' => ∃ b : Bool, v' = some (.int (bI b)) ∧ (b = true ↔ ∀ a, a < i → f a ≠ f i) ∧ I' = I ∧ J' = J)) I J 2 [(0, .ref (Z.2.2.1 27 0)), (1, .int (nI i)), (2, .int (nI j))] [] := by
  intro k
  induction k with
  | zero => intro v h; exact absurd h (by omega)
  | succ k ih =>
    intro j hk hj hin
    have h1 := (hf j hj).2
    have h2 := (hf i (Nat.le_refl i)).2
    refine g_ildn C dX6_isUnused_2 rfl ?_
    refine g_ildn C dX6_isUnused_3 rfl ?_
    refine n_icmp_ge (tgt := 30) C dX6_isUnused_4 rfl (by omega) (by omega) (fun c4 => ?_) (fun c4 => ?_)
    · refine g_iconst C ((nI 1)) dX6_isUnused_30 (by decide) ?_
      exact g_zreturn C hr (by decide) dX6_isUnused_31 ⟨true, rfl, ⟨fun _ a ha => hin a (by omega), fun _ => rfl⟩, rfl, rfl⟩
    · refine g_aldn C dX6_isUnused_7 rfl ?_
      refine g_get C 27 0 (by decide) (by decide) u6 rfl 5 rfl fX6_23 rfl rfl dX6_isUnused_8 ?_
      refine g_ildn C dX6_isUnused_11 rfl ?_
      refine g_iald C 31 0 (by decide) (by decide) (fun _ _ => rfl) j (show j < 9 by omega) rfl dX6_isUnused_12 (v := (nI (f j))) (hf j (by omega)).1 ?_
      refine g_aldn C dX6_isUnused_13 rfl ?_
      refine g_get C 27 0 (by decide) (by decide) u6 rfl 5 rfl fX6_23 rfl rfl dX6_isUnused_14 ?_
      refine g_ildn C dX6_isUnused_17 rfl ?_
      refine g_iald C 31 0 (by decide) (by decide) (fun _ _ => rfl) i (show i < 9 by omega) rfl dX6_isUnused_18 (v := (nI (f i))) (hf i (by omega)).1 ?_
      refine n_icmp_ne (tgt := 24) C dX6_isUnused_19 rfl (by omega) (by omega) (fun c19 => ?_) (fun c19 => ?_)
      · refine g_iinc (lv' := [(2, .int (nI (j + 1))), (0, .ref (Z.2.2.1 27 0)), (1, .int (nI i))]) C ((nI (j + 1))) dX6_isUnused_24 rfl (inc1 _) rfl rfl ?_
        refine g_goto (tgt := 2) C dX6_isUnused_27 rfl ?_
        refine g_lv [1, 2, 0] rfl ?_
        exact ih (j + 1) (by omega) (by omega) (fun a ha => (Nat.lt_or_eq_of_le (Nat.le_of_lt_succ ha)).elim (hin a) (fun e => by subst e; exact c19))
      · refine g_iconst C ((nI 0)) dX6_isUnused_22 (by decide) ?_
        exact g_zreturn C hr (by decide) dX6_isUnused_23 ⟨false, rfl, ⟨fun h => absurd h (by decide), fun h => absurd c19 (h j (by omega))⟩, rfl, rfl⟩

set_option maxRecDepth 100000 in
set_option maxHeartbeats 4000000 in
theorem c_X6_isUnused {l : Launch} {Y : Yk} (hA : AJ Y.2.2) {I : SI} {J : SJ} {f : Nat → Nat} {i : Nat} (hi : i < 9) (hf : ∀ a, a ≤ i → I 31 0 a = nI (f a) ∧ f a < 9)  : MX l Y yX6_isUnused cX6_isUnused 3 (some .boolean) 0 0 [.ref (Y.2.2 27 0), .int (nI i)] I J (fun v' I' J' => ∃ b : Bool, v' = some (.int (bI b)) ∧ (b = true ↔ ∀ a, a < i → f a ≠ f i) ∧ I' = I ∧ J' = J) := by
  refine MX.of hA (by decide) (own := RX6) rfl rfl rfl ?_
  intro X Z hl hY1 hY2 hY3 C hr
  obtain ⟨D0, ca0, ad0⟩ := Y
  dsimp only at hA hY1 hY2 hY3
  subst hY1; subst hY2; subst hY3; subst hl
  show G X 3 Z (QG X Z _) I J 0 [(0, .ref (Z.2.2.1 27 0)), (1, .int (nI i))] []
  refine g_iconst C ((nI 0)) dX6_isUnused_0 (by decide) ?_
  refine g_istn (lv' := [(2, .int (nI 0)), (0, .ref (Z.2.2.1 27 0)), (1, .int (nI i))]) C dX6_isUnused_1 rfl rfl ?_
  refine g_lv [1, 2, 0] rfl ?_
  exact l_X6_isUnused_2 hA C hr hi hf (i + 1) 0 (by omega) (by omega) (fun a h => absurd h (by omega))

