/-! ===== GraphTwins: isVertex, formLength, noteChange, paintGraphs, withSymmetries, withForm ===== -/
set_option maxRecDepth 100000 in
set_option maxHeartbeats 4000000 in
/-- isVertex -/
theorem c_X5_isVertex {l : Launch} {Y : Yk} (hA : AJ Y.2.2) {I : SI} {J : SJ} {n : Nat} {T : Nat → Nat → Nat} {L : Nat → Nat → Nat → Nat} (hv : CV I n T L) (g v : Int32) : MX l Y yX5_isVertex cX5_isVertex 3 (some .boolean) 1 40 [.ref (Y.2.2 0 0), .int g, .int v] I J (fun v' I' J' => v' = some (.int (bI (isV n g v))) ∧ I' = I ∧ J' = J) := by
  refine MX.of hA (by decide) (own := RX5) rfl rfl rfl ?_
  intro X Z hl hY1 hY2 hY3 C hr
  obtain ⟨D0, ca0, ad0⟩ := Y
  dsimp only at hA hY1 hY2 hY3
  subst hY1; subst hY2; subst hY3; subst hl
  show G X 3 Z (QG X Z _) I J 0 [(0, .ref (Z.2.2.1 0 0)), (1, .int g), (2, .int v)] []
  refine g_ildn C dX5_isVertex_0 rfl ?_
  refine g_callS (As := [.int g]) (st := []) C (c_X5_isGraph hA g) wX5_isGraph tX5_isGraph mX5_72 rfl rfl rfl rfl dX5_isVertex_1 ?_
  rintro v9 I9 J9 ⟨h91, h92, h93⟩
  rw [h91, h92, h93]
  clear h91 h92 h93 v9 I9 J9
  show G X _ Z _ I J 4 [(0, .ref (Z.2.2.1 0 0)), (1, .int g), (2, .int v)] [.int (bI (isG g))]
  refine b_if_eq (tgt := 28) C dX5_isVertex_4 rfl (fun c4 => ?_) (fun c4 => ?_)
  · refine g_iconst C ((nI 0)) dX5_isVertex_28 (by decide) ?_
    exact g_zreturn C hr (by decide) dX5_isVertex_29 ⟨ret0 (by unfold isV; first | (rw [c4]; rfl) | (rw [c4, decide_eq_false (fun q => absurd q.1 (Int32.not_le.mpr c8))]; rfl) | (rw [c4, decide_eq_false (fun q => absurd q.2 (Int32.not_lt.mpr c21))]; rfl)), rfl, rfl⟩
  · obtain ⟨a, ha, rfl⟩ := isG_t c4
    refine g_ildn C dX5_isVertex_7 rfl ?_
    refine g_if_lt (tgt := 28) C dX5_isVertex_8 rfl (fun c8 => ?_) (fun c8 => ?_)
    · refine g_iconst C ((nI 0)) dX5_isVertex_28 (by decide) ?_
      exact g_zreturn C hr (by decide) dX5_isVertex_29 ⟨ret0 (by unfold isV; first | (rw [c4]; rfl) | (rw [c4, decide_eq_false (fun q => absurd q.1 (Int32.not_le.mpr c8))]; rfl) | (rw [c4, decide_eq_false (fun q => absurd q.2 (Int32.not_lt.mpr c21))]; rfl)), rfl, rfl⟩
    · refine g_ildn C dX5_isVertex_11 rfl ?_
      refine g_aldn C dX5_isVertex_12 rfl ?_
      refine g_get C 0 0 (by decide) (by decide) u5 rfl 0 rfl fX5_9 rfl rfl dX5_isVertex_13 ?_
      refine g_ildn C dX5_isVertex_16 rfl ?_
      refine g_aald C 1 0 2 (by decide) (by decide) (fun _ _ => rfl) rfl rfl a (show a < 2 by omega) rfl dX5_isVertex_17 ?_
      refine g_get C 2 a (by decide) (show a < 2 by omega) u1 rfl 0 rfl fX5_131 rfl rfl dX5_isVertex_18 ?_
      refine g_top (y := (nI n)) (hv.sz ha) ?_
      refine g_icmp_ge (tgt := 28) C dX5_isVertex_21 rfl (fun c21 => ?_) (fun c21 => ?_)
      · refine g_iconst C ((nI 0)) dX5_isVertex_28 (by decide) ?_
        exact g_zreturn C hr (by decide) dX5_isVertex_29 ⟨ret0 (by unfold isV; first | (rw [c4]; rfl) | (rw [c4, decide_eq_false (fun q => absurd q.1 (Int32.not_le.mpr c8))]; rfl) | (rw [c4, decide_eq_false (fun q => absurd q.2 (Int32.not_lt.mpr c21))]; rfl)), rfl, rfl⟩
      · refine g_iconst C ((nI 1)) dX5_isVertex_24 (by decide) ?_
        refine g_goto (tgt := 29) C dX5_isVertex_25 rfl ?_
        exact g_zreturn C hr (by decide) dX5_isVertex_29 ⟨ret1 (Bool.and_eq_true_iff.mpr ⟨c4, decide_eq_true ⟨Int32.not_lt.mp c8, Int32.not_le.mp c21⟩⟩), rfl, rfl⟩

set_option maxRecDepth 100000 in
set_option maxHeartbeats 4000000 in
/-- formLength -/
theorem c_X5_formLength {l : Launch} {Y : Yk} (hA : AJ Y.2.2) {I : SI} {J : SJ} {n : Nat} {T : Nat → Nat → Nat} {L : Nat → Nat → Nat → Nat} (hv : CV I n T L)  : MX l Y yX5_formLength cX5_formLength 1 (some .int) 0 0 [.ref (Y.2.2 0 0)] I J (fun v' I' J' => v' = some (.int (nI (n * n))) ∧ I' = I ∧ J' = J) := by
  refine MX.of hA (by decide) (own := RX5) rfl rfl rfl ?_
  intro X Z hl hY1 hY2 hY3 C hr
  obtain ⟨D0, ca0, ad0⟩ := Y
  dsimp only at hA hY1 hY2 hY3
  subst hY1; subst hY2; subst hY3; subst hl
  show G X 1 Z (QG X Z _) I J 0 [(0, .ref (Z.2.2.1 0 0))] []
  refine g_aldn C dX5_formLength_0 rfl ?_
  refine g_get C 0 0 (by decide) (by decide) u5 rfl 0 rfl fX5_9 rfl rfl dX5_formLength_1 ?_
  refine g_iconst C ((nI 0)) dX5_formLength_4 (by decide) ?_
  refine g_aald C 1 0 2 (by decide) (by decide) (fun _ _ => rfl) rfl rfl 0 (show 0 < 2 by omega) rfl dX5_formLength_5 ?_
  refine g_get C 2 0 (by decide) (by decide) u1 rfl 0 rfl fX5_131 rfl rfl dX5_formLength_6 ?_
  refine g_top (y := (nI n)) (hv.sz (by decide)) ?_
  refine g_aldn C dX5_formLength_9 rfl ?_
  refine g_get C 0 0 (by decide) (by decide) u5 rfl 0 rfl fX5_9 rfl rfl dX5_formLength_10 ?_
  refine g_iconst C ((nI 0)) dX5_formLength_13 (by decide) ?_
  refine g_aald C 1 0 2 (by decide) (by decide) (fun _ _ => rfl) rfl rfl 0 (show 0 < 2 by omega) rfl dX5_formLength_14 ?_
  refine g_get C 2 0 (by decide) (by decide) u1 rfl 0 rfl fX5_131 rfl rfl dX5_formLength_15 ?_
  refine g_top (y := (nI n)) (hv.sz (by decide)) ?_
  refine g_imul (v := (nI (n * n))) C dX5_formLength_18 (pk_mul _ _) ?_
  exact g_ireturn C hr dX5_formLength_19 ⟨rfl, rfl, rfl⟩

set_option maxRecDepth 100000 in
set_option maxHeartbeats 4000000 in
/-- noteChange -/
theorem c_X5_noteChange {l : Launch} {Y : Yk} (hA : AJ Y.2.2) {I : SI} {J : SJ} {g : Nat} (hg : g < 2) : MX l Y yX5_noteChange cX5_noteChange 2 (none) 0 0 [.ref (Y.2.2 0 0), .ref (Y.2.2 2 g)] I J (fun v' I' J' => v' = none ∧ I' = sK (sK I 2 (up2 (up2 (I 2) g 6 (nI 0)) g 8 (nI 0))) 0 (up2 (up2 (I 0) 0 5 (nI 0)) 0 6 (nI 0)) ∧ J' = J) := by
  refine MX.of hA (by decide) (own := RX5) rfl rfl rfl ?_
  intro X Z hl hY1 hY2 hY3 C hr
  obtain ⟨D0, ca0, ad0⟩ := Y
  dsimp only at hA hY1 hY2 hY3
  subst hY1; subst hY2; subst hY3; subst hl
  show G X 2 Z (QG X Z _) I J 0 [(0, .ref (Z.2.2.1 0 0)), (1, .ref (Z.2.2.1 2 g))] []
  refine g_aldn C dX5_noteChange_0 rfl ?_
  refine g_iconst C ((nI 0)) dX5_noteChange_1 (by decide) ?_
  refine g_put C 2 g (by decide) (show g < 2 by omega) tyX1 tyX1_ok nmX1 u1 rfl 6 rfl fX5_141 rfl (fun _ _ => rfl) (by simp [va_up]) rfl (by decide) (by decide) dX5_noteChange_2 ?_
  refine g_I (I1 := sK I 2 (up2 (I 2) g 6 (nI 0))) rfl ?_
  refine g_aldn C dX5_noteChange_5 rfl ?_
  refine g_iconst C ((nI 0)) dX5_noteChange_6 (by decide) ?_
  refine g_put C 2 g (by decide) (show g < 2 by omega) tyX1 tyX1_ok nmX1 u1 rfl 8 rfl fX5_144 rfl (fun _ _ => rfl) (by simp [va_up]) rfl (by decide) (by decide) dX5_noteChange_7 ?_
  refine g_I (I1 := sK I 2 (up2 (up2 (I 2) g 6 (nI 0)) g 8 (nI 0))) (by rw [sK_self, sK_sK]) ?_
  refine g_aldn C dX5_noteChange_10 rfl ?_
  refine g_iconst C ((nI 0)) dX5_noteChange_11 (by decide) ?_
  refine g_put C 0 0 (by decide) (by decide) tyX5 tyX5_ok nmX5 u5 rfl 5 rfl fX5_147 rfl (fun _ _ => rfl) (by simp [va_up]) rfl (by decide) (by decide) dX5_noteChange_12 ?_
  refine g_I (I1 := sK (sK I 2 (up2 (up2 (I 2) g 6 (nI 0)) g 8 (nI 0))) 0 (up2 (I 0) 0 5 (nI 0))) (by rw [sK_ne (by decide : (0 : Nat) ≠ 2)]) ?_
  refine g_aldn C dX5_noteChange_15 rfl ?_
  refine g_iconst C ((nI 0)) dX5_noteChange_16 (by decide) ?_
  refine g_put C 0 0 (by decide) (by decide) tyX5 tyX5_ok nmX5 u5 rfl 6 rfl fX5_96 rfl (fun _ _ => rfl) (by simp [va_up]) rfl (by decide) (by decide) dX5_noteChange_17 ?_
  refine g_I (I1 := sK (sK I 2 (up2 (up2 (I 2) g 6 (nI 0)) g 8 (nI 0))) 0 (up2 (up2 (I 0) 0 5 (nI 0)) 0 6 (nI 0))) (by rw [sK_self, sK_sK]) ?_
  exact g_return C hr dX5_noteChange_20 ⟨rfl, rfl, rfl⟩

def pgPost (n : Nat) (T : Nat → Nat → Nat) (L : Nat → Nat → Nat → Nat) (ah : Bool) (nm : Nat → Nat) (I : SI) (J : SJ) : Option Value → SI → SJ → Prop := fun v' I' J' =>
  v' = none ∧ J' = J ∧ CI I' J' n T L ah nm ∧ (∃ k, PTk I' n T L k) ∧ I' 0 0 5 = bI true ∧ keep I I' ∧ I' 2 = I 2 ∧ I' 8 = I 8
theorem pg_fin {I : SI} {J : SJ} {n : Nat} {T : Nat → Nat → Nat} {L : Nat → Nat → Nat → Nat} {ah : Bool} {nm : Nat → Nat} {A B E F H K : Nat → Nat → Int32} {k : Nat} (hci : CI I J n T L ah nm) (k1 : rnd n T L k) (k2 : A 0 0 = nI (ms n T L k)) (k3 : ∀ g v, g < 2 → v < n → K g v = nI (cs n T L k (9 * g + v))) : pgPost n T L ah nm I J none (sK (sK (CP I A B E F H) 7 K) 0 (up2 (I 0) 0 5 (nI 1))) J := by
  have ho : ∀ q, q ≠ 0 → q ≠ 7 → q ≠ 10 ∧ q ≠ 11 ∧ q ≠ 12 ∧ q ≠ 13 ∧ q ≠ 16 → (sK (sK (CP I A B E F H) 7 K) 0 (up2 (I 0) 0 5 (nI 1))) q = I q := fun q h0 h7 h => by rw [sK_ne h0, sK_ne h7, cp_o h]
  have hpt : PTk (sK (sK (CP I A B E F H) 7 K) 0 (up2 (I 0) 0 5 (nI 1))) n T L k := ⟨k1, by rw [sK_ne (by decide), sK_ne (by decide), cp_10]; exact k2, fun g v hg hv => by rw [sK_ne (by decide), sK_self]; exact k3 g v hg hv⟩
  have h5 : (sK (sK (CP I A B E F H) 7 K) 0 (up2 (I 0) 0 5 (nI 1))) 0 0 5 = bI true := by rw [sK_self, up2_self]; rfl
  have h6 : (sK (sK (CP I A B E F H) 7 K) 0 (up2 (I 0) 0 5 (nI 1))) 0 0 6 = I 0 0 6 := by rw [sK_self, up2_ne (by decide)]
  refine ⟨rfl, rfl, ?_, ⟨k, hpt⟩, h5, fun q hq => ho q (by omega) (by omega) (by omega), ho 2 (by decide) (by decide) (by decide), ho 8 (by decide) (by decide) (by decide)⟩
  exact hci.upd (ho 2 (by decide) (by decide) (by decide)) (ho 3 (by decide) (by decide) (by decide)) (ho 5 (by decide) (by decide) (by decide)) (ho 8 (by decide) (by decide) (by decide)) (by rw [ho 18 (by decide) (by decide) (by decide)]) rfl h6 ⟨true, h5, fun _ => ⟨k, hpt⟩⟩ (fun _ => h5)
set_option maxRecDepth 100000 in
set_option maxHeartbeats 4000000 in
/-- paintGraphs -/
theorem c_X5_paintGraphs {l : Launch} {Y : Yk} (hA : AJ Y.2.2) {I : SI} {J : SJ} {n : Nat} {T : Nat → Nat → Nat} {L : Nat → Nat → Nat → Nat} {ah : Bool} {nm : Nat → Nat} (hci : CI I J n T L ah nm)  : MX l Y yX5_paintGraphs cX5_paintGraphs 1 (none) 5 200 [.ref (Y.2.2 0 0)] I J (pgPost n T L ah nm I J) := by
  refine MX.of hA (by decide) (own := RX5) rfl rfl rfl ?_
  intro X Z hl hY1 hY2 hY3 C hr
  obtain ⟨D0, ca0, ad0⟩ := Y
  dsimp only at hA hY1 hY2 hY3
  subst hY1; subst hY2; subst hY3; subst hl
  show G X 1 Z (QG X Z _) I J 0 [(0, .ref (Z.2.2.1 0 0))] []
  obtain ⟨pt, h5a, h5b⟩ := hci.2.2.1
  refine g_aldn C dX5_paintGraphs_0 rfl ?_
  refine g_get C 0 0 (by decide) (by decide) u5 rfl 5 rfl fX5_147 rfl rfl dX5_paintGraphs_1 ?_
  refine g_top (y := (bI pt)) h5a ?_
  refine b_if_ne (tgt := 23) C dX5_paintGraphs_4 rfl (fun c4 => ?_) (fun c4 => ?_)
  · exact g_return C hr dX5_paintGraphs_23 ⟨rfl, rfl, hci, h5b (by rw [c4]), by rw [h5a, c4], fun _ _ => rfl, rfl, rfl⟩
  · refine g_aldn C dX5_paintGraphs_7 rfl ?_
    refine g_get C 0 0 (by decide) (by decide) u5 rfl 1 rfl fX5_18 rfl rfl dX5_paintGraphs_8 ?_
    refine g_aldn C dX5_paintGraphs_11 rfl ?_
    refine g_get C 0 0 (by decide) (by decide) u5 rfl 0 rfl fX5_9 rfl rfl dX5_paintGraphs_12 ?_
    refine g_callV (As := [.ref (Z.2.2.1 1 0)]) (st := []) C (c_X3_paint hA hci.1) wX3_paint iX3_paint sX3_paint mX5_150 10 0 (by decide) (by decide) rfl rfl rfl rfl rfl rfl rfl rfl dX5_paintGraphs_15 ?_
    rintro v9 I9 J9 ⟨A, B, E, F, H, K, k, h91, h92, h93, k1, k2, k3⟩
    rw [h91, h92, h93]
    clear h91 h92 h93 v9 I9 J9
    show G X _ Z _ (sK (CP I A B E F H) 7 K) J 18 [(0, .ref (Z.2.2.1 0 0))] []
    refine g_aldn C dX5_paintGraphs_18 rfl ?_
    refine g_iconst C ((nI 1)) dX5_paintGraphs_19 (by decide) ?_
    refine g_put C 0 0 (by decide) (by decide) tyX5 tyX5_ok nmX5 u5 rfl 5 rfl fX5_147 rfl (fun _ _ => rfl) (by simp [va_up]) rfl (by decide) (by decide) dX5_paintGraphs_20 ?_
    refine g_I (I1 := sK (sK (CP I A B E F H) 7 K) 0 (up2 (I 0) 0 5 (nI 1))) (by rw [sK_ne (by decide : (0 : Nat) ≠ 7), cp_o (by decide)]) ?_
    exact g_return C hr dX5_paintGraphs_23 (pg_fin hci k1 k2 k3)

def wsPost (n : Nat) (T : Nat → Nat → Nat) (L : Nat → Nat → Nat → Nat) (ah : Bool) (nm : Nat → Nat) (g : Nat) (a : Nat) (I : SI) (J : SJ) : Option Value → SI → SJ → Prop := fun v' I' J' =>
  v' = some (.ref a) ∧ J' = J ∧ CI I' J' n T L ah nm ∧ SYk I' n T L g ∧ keep I I'
theorem ws_fin {I I2 : SI} {J : SJ} {n : Nat} {T : Nat → Nat → Nat} {L : Nat → Nat → Nat → Nat} {ah : Bool} {nm : Nat → Nat} {g k a : Nat} {B F : Nat → Nat → Int32} {o : Nat → Nat} (hg : g < 2) (hci2 : CI I2 J n T L ah nm) (hkp : keep I I2) (h5t : I2 0 0 5 = bI true) (hpt : PTk I2 n T L k) (k1 : ∀ r, r ≠ g → B r = I2 8 r) (k2 : ∀ i, i < n → B g i = nI (o i)) (k3 : ∀ r, r ≠ 1 → F r = I2 18 r) (k4 : OR n (col n T L k) L g o (fun _ _ => True)) : wsPost n T L ah nm g a I J (some (.ref a)) (sK (sK (sK I2 2 (up2 (up2 (I2 2) g 5 (nI (sn n (col n T L k) L g n))) g 6 (nI 1))) 8 B) 18 F) J := by
  have hn9 := hci2.1.1.2
  have ho : ∀ q, q ≠ 2 → q ≠ 8 → q ≠ 18 → (sK (sK (sK I2 2 (up2 (up2 (I2 2) g 5 (nI (sn n (col n T L k) L g n))) g 6 (nI 1))) 8 B) 18 F) q = I2 q := fun q h0 h7 h => by rw [sK_ne h, sK_ne h7, sK_ne h0]
  have e2 : (sK (sK (sK I2 2 (up2 (up2 (I2 2) g 5 (nI (sn n (col n T L k) L g n))) g 6 (nI 1))) 8 B) 18 F) 2 = up2 (up2 (I2 2) g 5 (nI (sn n (col n T L k) L g n))) g 6 (nI 1) := (sK_ne (by decide)).trans ((sK_ne (by decide)).trans (sK_self _ _ _))
  have e8 : (sK (sK (sK I2 2 (up2 (up2 (I2 2) g 5 (nI (sn n (col n T L k) L g n))) g 6 (nI 1))) 8 B) 18 F) 8 = B := (sK_ne (by decide)).trans (sK_self _ _ _)
  have e18 : (sK (sK (sK I2 2 (up2 (up2 (I2 2) g 5 (nI (sn n (col n T L k) L g n))) g 6 (nI 1))) 8 B) 18 F) 18 = F := sK_self _ _ _
  have hsy : SYk (sK (sK (sK I2 2 (up2 (up2 (I2 2) g 5 (nI (sn n (col n T L k) L g n))) g 6 (nI 1))) 8 B) 18 F) n T L g := ⟨by rw [e2, up2_ne (by decide), up2_self, sn_col hn9 hg], o, fun v hv => by rw [e8]; exact k2 v hv, OR_col hn9 hg k k4⟩
  have hpt2 : PTk (sK (sK (sK I2 2 (up2 (up2 (I2 2) g 5 (nI (sn n (col n T L k) L g n))) g 6 (nI 1))) 8 B) 18 F) n T L k := ⟨hpt.1, by rw [ho 10 (by decide) (by decide) (by decide)]; exact hpt.2.1, by rw [ho 7 (by decide) (by decide) (by decide)]; exact hpt.2.2⟩
  have h0 := ho 0 (by decide) (by decide) (by decide)
  refine ⟨rfl, rfl, ⟨hci2.1.of2 (fun b => ?_) (ho 3 (by decide) (by decide) (by decide)) (ho 5 (by decide) (by decide) (by decide)), hci2.2.1, ⟨true, by rw [h0]; exact h5t, fun _ => ⟨k, hpt2⟩⟩, by rw [h0]; exact hci2.2.2.2.1, fun q => ⟨by rw [h0]; exact h5t, ?_⟩, fun b hb => ?_⟩, hsy, fun q hq => (ho q (by omega) (by omega) (by omega)).trans (hkp q hq)⟩
  · rw [e2, up2_at, if_neg (by omega), up2_at, if_neg (by omega)]
  · unfold ATk
    rw [e18, k3 0 (by decide)]
    exact (hci2.2.2.2.2.1 q).2
  · by_cases e : b = g
    · subst e
      obtain ⟨fk, f1, f2⟩ := (hci2.2.2.2.2.2 b hb).2
      exact ⟨⟨true, by rw [e2, up2_self]; rfl, fun _ => hsy⟩, fk, by rw [e2, up2_ne (by decide), up2_ne (by decide)]; exact f1, f2⟩
    · exact (hci2.2.2.2.2.2 b hb).of (by rw [e2, up2_row e, up2_row e]) (by rw [e8, k1 b e]) rfl
set_option maxRecDepth 100000 in
set_option maxHeartbeats 4000000 in
/-- withSymmetries -/
theorem c_X5_withSymmetries {l : Launch} {Y : Yk} (hA : AJ Y.2.2) {I : SI} {J : SJ} {n : Nat} {T : Nat → Nat → Nat} {L : Nat → Nat → Nat → Nat} {ah : Bool} {nm : Nat → Nat} (hci : CI I J n T L ah nm) {g : Nat} (hg : g < 2)  : MX l Y yX5_withSymmetries cX5_withSymmetries 3 (some (.object "GraphTwins$Graph")) 14 640 [.ref (Y.2.2 0 0), .int (nI g)] I J (wsPost n T L ah nm g (Y.2.2 2 g) I J) := by
  refine MX.of hA (by decide) (own := RX5) rfl rfl rfl ?_
  intro X Z hl hY1 hY2 hY3 C hr
  obtain ⟨D0, ca0, ad0⟩ := Y
  dsimp only at hA hY1 hY2 hY3
  subst hY1; subst hY2; subst hY3; subst hl
  show G X 3 Z (QG X Z _) I J 0 [(0, .ref (Z.2.2.1 0 0)), (1, .int (nI g))] []
  obtain ⟨⟨sk, hsa, hsk⟩, -⟩ := hci.2.2.2.2.2 g hg
  refine g_aldn C dX5_withSymmetries_0 rfl ?_
  refine g_get C 0 0 (by decide) (by decide) u5 rfl 0 rfl fX5_9 rfl rfl dX5_withSymmetries_1 ?_
  refine g_ildn C dX5_withSymmetries_4 rfl ?_
  refine g_aald C 1 0 2 (by decide) (by decide) (fun _ _ => rfl) rfl rfl g (show g < 2 by omega) rfl dX5_withSymmetries_5 ?_
  refine g_astn (lv' := [(2, .ref (Z.2.2.1 2 g)), (0, .ref (Z.2.2.1 0 0)), (1, .int (nI g))]) C dX5_withSymmetries_6 rfl rfl ?_
  refine g_aldn C dX5_withSymmetries_7 rfl ?_
  refine g_get C 2 g (by decide) (show g < 2 by omega) u1 rfl 6 rfl fX5_141 rfl rfl dX5_withSymmetries_8 ?_
  refine g_top (y := (bI sk)) hsa ?_
  refine b_if_ne (tgt := 31) C dX5_withSymmetries_11 rfl (fun c11 => ?_) (fun c11 => ?_)
  · refine g_aldn C dX5_withSymmetries_31 rfl ?_
    exact g_areturn C hr dX5_withSymmetries_32 ⟨rfl, rfl, hci, hsk c11, fun _ _ => rfl⟩
  · refine g_aldn C dX5_withSymmetries_14 rfl ?_
    refine g_callV (As := []) (st := []) C (c_X5_paintGraphs hA hci) wX5_paintGraphs iX5_paintGraphs sX5_paintGraphs mX5_78 0 0 (by decide) (by decide) rfl rfl rfl rfl rfl rfl rfl rfl dX5_withSymmetries_15 ?_
    rintro v9 I2 J9 ⟨h91, h93, hci2, ⟨k, hpt⟩, h5t, hkp, h2e, h8e⟩
    rw [h91, h93]
    rw [h93] at hci2
    clear h91 h93 v9 J9
    show G X _ Z _ I2 J 18 [(2, .ref (Z.2.2.1 2 g)), (0, .ref (Z.2.2.1 0 0)), (1, .int (nI g))] []
    refine g_aldn C dX5_withSymmetries_18 rfl ?_
    refine g_get C 0 0 (by decide) (by decide) u5 rfl 3 rfl fX5_32 rfl rfl dX5_withSymmetries_19 ?_
    refine g_aldn C dX5_withSymmetries_22 rfl ?_
    refine g_callV (As := [.ref (Z.2.2.1 2 g)]) (st := []) C (c_X4_find hA hci2.1 (hpt.cc hci.1.1.2) hg) wX4_find iX4_find sX4_find mX5_154 19 0 (by decide) (by decide) rfl rfl rfl rfl rfl rfl rfl rfl dX5_withSymmetries_23 ?_
    rintro v9 I9 J9 ⟨B, F, o, h91, h92, h93, k1, k2, k3, k4⟩
    rw [h91, h92, h93]
    clear h91 h92 h93 v9 I9 J9
    show G X _ Z _ (sK (sK (sK I2 2 (up2 (I2 2) g 5 (nI (sn n (col n T L k) L g n)))) 8 B) 18 F) J 26 [(2, .ref (Z.2.2.1 2 g)), (0, .ref (Z.2.2.1 0 0)), (1, .int (nI g))] []
    refine g_aldn C dX5_withSymmetries_26 rfl ?_
    refine g_iconst C ((nI 1)) dX5_withSymmetries_27 (by decide) ?_
    refine g_put C 2 g (by decide) (show g < 2 by omega) tyX1 tyX1_ok nmX1 u1 rfl 6 rfl fX5_141 rfl (fun _ _ => rfl) (by simp [va_up]) rfl (by decide) (by decide) dX5_withSymmetries_28 ?_
    refine g_I (I1 := sK (sK (sK I2 2 (up2 (up2 (I2 2) g 5 (nI (sn n (col n T L k) L g n))) g 6 (nI 1))) 8 B) 18 F) (by rw [sk3a _ (by decide) (by decide), show (sK (sK (sK I2 2 (up2 (I2 2) g 5 (nI (sn n (col n T L k) L g n)))) 8 B) 18 F) 2 = up2 (I2 2) g 5 (nI (sn n (col n T L k) L g n)) from (sK_ne (by decide)).trans ((sK_ne (by decide)).trans (sK_self _ _ _))]) ?_
    refine g_aldn C dX5_withSymmetries_31 rfl ?_
    exact g_areturn C hr dX5_withSymmetries_32 (ws_fin hg hci2 hkp h5t hpt k1 k2 k3 k4)

def wfPost (n : Nat) (T : Nat → Nat → Nat) (L : Nat → Nat → Nat → Nat) (ah : Bool) (nm : Nat → Nat) (g : Nat) (a : Nat) (I : SI) (J : SJ) : Option Value → SI → SJ → Prop := fun v' I' J' =>
  v' = some (.ref a) ∧ CI I' J' n T L ah nm ∧ FMk J' n T L g ∧ keep I I' ∧ ∀ h, h ≠ g → J' 9 h = J 9 h
theorem wf_fin {I : SI} {J : SJ} {n : Nat} {T : Nat → Nat → Nat} {L : Nat → Nat → Nat → Nat} {ah : Bool} {nm : Nat → Nat} {g a : Nat} {A R C2 D : Nat → Nat → Int64} {K : Nat → Nat → Int32} {B : Nat → Nat} (hg : g < 2) (hci : CI I J n T L ah nm) (k1 : ∀ r, r ≠ g → A r = J 9 r) (k2 : ∀ i, i < n → A g i = lN (B i) ∧ B i ≤ 2 ^ 40) (k3 : frm n T L g B) : wfPost n T L ah nm g a I J (some (.ref a)) (sK (sK I 26 K) 2 (up2 (I 2) g 8 (nI 1))) (CH J A R C2 D) := by
  have ho : ∀ q, q ≠ 2 → q ≠ 26 → (sK (sK I 26 K) 2 (up2 (I 2) g 8 (nI 1))) q = I q := fun q h0 h7 => by rw [sK_ne h0, sK_ne h7]
  have e2 : (sK (sK I 26 K) 2 (up2 (I 2) g 8 (nI 1))) 2 = up2 (I 2) g 8 (nI 1) := sK_self _ _ _
  have hfm : FMk (CH J A R C2 D) n T L g := ⟨B, fun i hi => by rw [ch_9]; exact k2 i hi, k3⟩
  have h0 := ho 0 (by decide) (by decide)
  have hpt : ∀ k, PTk I n T L k → PTk (sK (sK I 26 K) 2 (up2 (I 2) g 8 (nI 1))) n T L k := fun k h => ⟨h.1, by rw [ho 10 (by decide) (by decide)]; exact h.2.1, by rw [ho 7 (by decide) (by decide)]; exact h.2.2⟩
  refine ⟨rfl, ⟨hci.1.of2 (fun b => ?_) (ho 3 (by decide) (by decide)) (ho 5 (by decide) (by decide)), hci.2.1, ?_, by rw [h0]; exact hci.2.2.2.1, fun q => ⟨by rw [h0]; exact (hci.2.2.2.2.1 q).1, ?_⟩, fun b hb => ?_⟩, hfm, fun q hq => ho q (by omega) (by omega), fun h hh => by rw [ch_9]; exact k1 h hh⟩
  · rw [e2, up2_at, if_neg (by omega)]
  · obtain ⟨pt, p1, p2⟩ := hci.2.2.1
    exact ⟨pt, by rw [h0]; exact p1, fun q => (p2 q).elim (fun k h => ⟨k, hpt k h⟩)⟩
  · unfold ATk
    rw [ho 18 (by decide) (by decide)]
    exact (hci.2.2.2.2.1 q).2
  · by_cases e : b = g
    · subst e
      obtain ⟨sk, f1, f2⟩ := (hci.2.2.2.2.2 b hb).1
      refine ⟨⟨sk, by rw [e2, up2_ne (by decide)]; exact f1, fun q => ?_⟩, true, by rw [e2, up2_self]; rfl, fun _ => hfm⟩
      obtain ⟨s1, o, s2, s3⟩ := f2 q
      exact ⟨by rw [e2, up2_ne (by decide)]; exact s1, o, by rw [ho 8 (by decide) (by decide)]; exact s2, s3⟩
    · exact (hci.2.2.2.2.2 b hb).of (by rw [e2, up2_row e]) (by rw [ho 8 (by decide) (by decide)]) (by rw [ch_9]; exact k1 b e)
set_option maxRecDepth 100000 in
set_option maxHeartbeats 4000000 in
/-- withForm -/
theorem c_X5_withForm {l : Launch} {Y : Yk} (hA : AJ Y.2.2) {I : SI} {J : SJ} {n : Nat} {T : Nat → Nat → Nat} {L : Nat → Nat → Nat → Nat} {ah : Bool} {nm : Nat → Nat} (hci : CI I J n T L ah nm) {g : Nat} (hg : g < 2)  : MX l Y yX5_withForm cX5_withForm 3 (some (.object "GraphTwins$Graph")) 25 1040 [.ref (Y.2.2 0 0), .int (nI g)] I J (wfPost n T L ah nm g (Y.2.2 2 g) I J) := by
  refine MX.of hA (by decide) (own := RX5) rfl rfl rfl ?_
  intro X Z hl hY1 hY2 hY3 C hr
  obtain ⟨D0, ca0, ad0⟩ := Y
  dsimp only at hA hY1 hY2 hY3
  subst hY1; subst hY2; subst hY3; subst hl
  show G X 3 Z (QG X Z _) I J 0 [(0, .ref (Z.2.2.1 0 0)), (1, .int (nI g))] []
  obtain ⟨-, fk, hfa, hfk⟩ := hci.2.2.2.2.2 g hg
  refine g_aldn C dX5_withForm_0 rfl ?_
  refine g_get C 0 0 (by decide) (by decide) u5 rfl 0 rfl fX5_9 rfl rfl dX5_withForm_1 ?_
  refine g_ildn C dX5_withForm_4 rfl ?_
  refine g_aald C 1 0 2 (by decide) (by decide) (fun _ _ => rfl) rfl rfl g (show g < 2 by omega) rfl dX5_withForm_5 ?_
  refine g_astn (lv' := [(2, .ref (Z.2.2.1 2 g)), (0, .ref (Z.2.2.1 0 0)), (1, .int (nI g))]) C dX5_withForm_6 rfl rfl ?_
  refine g_aldn C dX5_withForm_7 rfl ?_
  refine g_get C 2 g (by decide) (show g < 2 by omega) u1 rfl 8 rfl fX5_144 rfl rfl dX5_withForm_8 ?_
  refine g_top (y := (bI fk)) hfa ?_
  refine b_if_ne (tgt := 27) C dX5_withForm_11 rfl (fun c11 => ?_) (fun c11 => ?_)
  · refine g_aldn C dX5_withForm_27 rfl ?_
    exact g_areturn C hr dX5_withForm_28 ⟨rfl, hci, hfk c11, fun _ _ => rfl, fun _ _ => rfl⟩
  · refine g_aldn C dX5_withForm_14 rfl ?_
    refine g_get C 0 0 (by decide) (by decide) u5 rfl 4 rfl fX5_39 rfl rfl dX5_withForm_15 ?_
    refine g_aldn C dX5_withForm_18 rfl ?_
    refine g_callV (As := [.ref (Z.2.2.1 2 g)]) (st := []) C (c_X0_find hA hci.1 hg) wX0_find iX0_find sX0_find mX5_157 20 0 (by decide) (by decide) rfl rfl rfl rfl rfl rfl rfl rfl dX5_withForm_19 ?_
    rintro v9 I9 J9 ⟨A, R, C2, D, K, B, h91, h92, h93, k1, k2, k3⟩
    rw [h91, h92, h93]
    clear h91 h92 h93 v9 I9 J9
    show G X _ Z _ (sK I 26 K) (CH J A R C2 D) 22 [(2, .ref (Z.2.2.1 2 g)), (0, .ref (Z.2.2.1 0 0)), (1, .int (nI g))] []
    refine g_aldn C dX5_withForm_22 rfl ?_
    refine g_iconst C ((nI 1)) dX5_withForm_23 (by decide) ?_
    refine g_put C 2 g (by decide) (show g < 2 by omega) tyX1 tyX1_ok nmX1 u1 rfl 8 rfl fX5_144 rfl (fun _ _ => rfl) (by simp [va_up]) rfl (by decide) (by decide) dX5_withForm_24 ?_
    refine g_I (I1 := sK (sK I 26 K) 2 (up2 (I 2) g 8 (nI 1))) (by rw [sK_ne (by decide : (2 : Nat) ≠ 26)]) ?_
    refine g_aldn C dX5_withForm_27 rfl ?_
    exact g_areturn C hr dX5_withForm_28 (wf_fin hg hci k1 k2 k3)

