/-! ===== the reference: free, keep, twins, next, orbit, symmetries ===== -/
set_option maxRecDepth 100000 in
set_option maxHeartbeats 4000000 in
theorem l_X6_free_2 {X : Pk} {Z : Zk} {I : SI} {J : SJ} (hA : AJ Z.2.2.1) (C : Cx X cX6_free 2 RX6 Z 0 0) (hr : (xE X).sig.returnType = none) : ∀ (k : Nat) (v : Nat), 9 - v < k → (v ≤ 9) → G X 2 Z (QG X Z (fun v' I' J' => v' = none ∧ I' = sK (sK I 32 (va_up (I 32) 0 (fl (I 32 0) 9 (-1)))) 31 (up2 (I 31) 0 0 (-1)) ∧ J' = J)) (sK I 32 (va_up (I 32) 0 (fl (I 32 0) v (-1)))) (J) 2 [(0, .ref (Z.2.2.1 27 0)), (1, .int (nI v))] [] := by
  intro k
  induction k with
  | zero => intro v h; exact absurd h (by omega)
  | succ k ih =>
    intro v hk hv
    refine g_ildn C dX6_free_2 rfl ?_
    refine g_bipush C ((nI 9)) dX6_free_3 (by decide) ?_
    refine n_icmp_ge (tgt := 21) C dX6_free_5 rfl (by omega) (by omega) (fun c_1 => ?_) (fun c_1 => ?_)
    · have e : v = 9 := by omega
      subst e
      refine g_aldn C dX6_free_21 rfl ?_
      refine g_get C 27 0 (by decide) (by decide) u6 rfl 5 rfl fX6_23 rfl rfl dX6_free_22 ?_
      refine g_iconst C ((nI 0)) dX6_free_25 (by decide) ?_
      refine g_iconst C ((-1)) dX6_free_26 (by decide) ?_
      refine g_iast C 31 0 (by decide) (by decide) (fun _ _ => rfl) 0 (show 0 < 9 by omega) rfl dX6_free_27 ?_
      refine g_I (I1 := sK (sK I 32 (va_up (I 32) 0 (fl (I 32 0) 9 (-1)))) 31 (up2 (I 31) 0 0 (-1))) (by rw [sK_ne (by decide : (31 : Nat) ≠ 32)]) ?_
      exact g_return C hr dX6_free_28 ⟨rfl, rfl, rfl⟩
    · refine g_aldn C dX6_free_8 rfl ?_
      refine g_get C 27 0 (by decide) (by decide) u6 rfl 6 rfl fX6_26 rfl rfl dX6_free_9 ?_
      refine g_ildn C dX6_free_12 rfl ?_
      refine g_iconst C ((-1)) dX6_free_13 (by decide) ?_
      refine g_iast C 32 0 (by decide) (by decide) (fun _ _ => rfl) v (show v < 9 by omega) rfl dX6_free_14 ?_
      refine g_I (I1 := sK I 32 (va_up (I 32) 0 (fl (I 32 0) (v + 1) (-1)))) (by rw [sK_self, sK_sK, up2_row_self, fl_s]) ?_
      refine g_iinc (lv' := [(1, .int (nI (v + 1))), (0, .ref (Z.2.2.1 27 0))]) C ((nI (v + 1))) dX6_free_15 rfl (inc1 _) rfl rfl ?_
      refine g_goto (tgt := 2) C dX6_free_18 rfl ?_
      refine g_lv [1, 0] rfl ?_
      exact ih (v + 1) (by omega) (by omega)

set_option maxRecDepth 100000 in
set_option maxHeartbeats 4000000 in
/-- free -/
theorem c_X6_free {l : Launch} {Y : Yk} (hA : AJ Y.2.2) {I : SI} {J : SJ}  : MX l Y yX6_free cX6_free 2 (none) 0 0 [.ref (Y.2.2 27 0)] I J (fun v' I' J' => v' = none ∧ I' = sK (sK I 32 (va_up (I 32) 0 (fl (I 32 0) 9 (-1)))) 31 (up2 (I 31) 0 0 (-1)) ∧ J' = J) := by
  refine MX.of hA (by decide) (own := RX6) rfl rfl rfl ?_
  intro X Z hl hY1 hY2 hY3 C hr
  obtain ⟨D0, ca0, ad0⟩ := Y
  dsimp only at hA hY1 hY2 hY3
  subst hY1; subst hY2; subst hY3; subst hl
  show G X 2 Z (QG X Z _) I J 0 [(0, .ref (Z.2.2.1 27 0))] []
  refine g_iconst C ((nI 0)) dX6_free_0 (by decide) ?_
  refine g_istn (lv' := [(1, .int (nI 0)), (0, .ref (Z.2.2.1 27 0))]) C dX6_free_1 rfl rfl ?_
  refine g_lv [1, 0] rfl ?_
  refine g_I (I1 := sK I 32 (va_up (I 32) 0 (fl (I 32 0) 0 (-1)))) (by rw [fl_0, va_up_id, sK_id]) ?_
  exact l_X6_free_2 hA C hr 10 0 (by omega) (by omega)

set_option maxRecDepth 100000 in
set_option maxHeartbeats 4000000 in
theorem l_X6_keep_2 {X : Pk} {Z : Zk} {I : SI} {J : SJ} (hA : AJ Z.2.2.1) (C : Cx X cX6_keep 2 RX6 Z 0 0) (hr : (xE X).sig.returnType = none) {n : Nat} {T : Nat → Nat → Nat} {L : Nat → Nat → Nat → Nat} (hv : MV I n T L) {b : Bool} (hb : I 27 0 3 = bI b) : ∀ (k : Nat) (v : Nat) (A : Nat → Nat → Int32), n - v < k → (v ≤ n) → (∀ i, i < v → A 0 i = I 31 0 i) → G X 2 Z (QG X Z (fun v' I' J' => ∃ A : Nat → Nat → Int32, v' = none ∧ I' = sK I 30 A ∧ J' = J ∧ (b = true → ∀ i, i < n → A 0 i = I 31 0 i))) (sK I 30 A) (J) 2 [(0, .ref (Z.2.2.1 27 0)), (1, .int (nI v))] [] := by
  obtain ⟨⟨hn1, hn9⟩, -⟩ := id hv
  intro k
  induction k with
  | zero => intro v A h; exact absurd h (by omega)
  | succ k ih =>
    intro v A hk hvn hin
    refine g_ildn C dX6_keep_2 rfl ?_
    refine g_aldn C dX6_keep_3 rfl ?_
    refine g_get C 27 0 (by decide) (by decide) u6 rfl 0 rfl fX6_7 rfl rfl dX6_keep_4 ?_
    refine g_top (y := (nI n)) (by rw [sK_ne (by decide)]; exact hv.2.1) ?_
    refine n_icmp_ge (tgt := 35) C dX6_keep_7 rfl (by omega) (by omega) (fun c7 => ?_) (fun c7 => ?_)
    · exact g_return C hr dX6_keep_35 ⟨A, rfl, rfl, rfl, fun q i hi => by first | exact hin i (by omega) | exact absurd q (by rw [c14]; decide)⟩
    · refine g_aldn C dX6_keep_10 rfl ?_
      refine g_get C 27 0 (by decide) (by decide) u6 rfl 3 rfl fX6_45 rfl rfl dX6_keep_11 ?_
      refine g_top (y := (bI b)) (by rw [sK_ne (by decide)]; exact hb) ?_
      refine b_if_eq (tgt := 35) C dX6_keep_14 rfl (fun c14 => ?_) (fun c14 => ?_)
      · exact g_return C hr dX6_keep_35 ⟨A, rfl, rfl, rfl, fun q i hi => by first | exact hin i (by omega) | exact absurd q (by rw [c14]; decide)⟩
      · refine g_aldn C dX6_keep_17 rfl ?_
        refine g_get C 27 0 (by decide) (by decide) u6 rfl 4 rfl fX6_20 rfl rfl dX6_keep_18 ?_
        refine g_ildn C dX6_keep_21 rfl ?_
        refine g_aldn C dX6_keep_22 rfl ?_
        refine g_get C 27 0 (by decide) (by decide) u6 rfl 5 rfl fX6_23 rfl rfl dX6_keep_23 ?_
        refine g_ildn C dX6_keep_26 rfl ?_
        refine g_iald C 31 0 (by decide) (by decide) (fun _ _ => rfl) v (show v < 9 by omega) rfl dX6_keep_27 (v := (I 31 0 v)) (by rw [sK_ne (by decide)]) ?_
        refine g_iast C 30 0 (by decide) (by decide) (fun _ _ => rfl) v (show v < 9 by omega) rfl dX6_keep_28 ?_
        refine g_I (I1 := sK I 30 (up2 A 0 v (I 31 0 v))) (by rw [sK_self, sK_sK]) ?_
        refine g_iinc (lv' := [(1, .int (nI (v + 1))), (0, .ref (Z.2.2.1 27 0))]) C ((nI (v + 1))) dX6_keep_29 rfl (inc1 _) rfl rfl ?_
        refine g_goto (tgt := 2) C dX6_keep_32 rfl ?_
        refine g_lv [1, 0] rfl ?_
        exact ih (v + 1) _ (by omega) (by omega) (fun i hi => by by_cases e : i = v; rw [e, up2_self]; rw [up2_ne e]; exact hin i (by omega))

set_option maxRecDepth 100000 in
set_option maxHeartbeats 4000000 in
/-- keep -/
theorem c_X6_keep {l : Launch} {Y : Yk} (hA : AJ Y.2.2) {I : SI} {J : SJ} {n : Nat} {T : Nat → Nat → Nat} {L : Nat → Nat → Nat → Nat} (hv : MV I n T L) {b : Bool} (hb : I 27 0 3 = bI b)  : MX l Y yX6_keep cX6_keep 2 (none) 0 0 [.ref (Y.2.2 27 0)] I J (fun v' I' J' => ∃ A : Nat → Nat → Int32, v' = none ∧ I' = sK I 30 A ∧ J' = J ∧ (b = true → ∀ i, i < n → A 0 i = I 31 0 i)) := by
  refine MX.of hA (by decide) (own := RX6) rfl rfl rfl ?_
  intro X Z hl hY1 hY2 hY3 C hr
  obtain ⟨D0, ca0, ad0⟩ := Y
  dsimp only at hA hY1 hY2 hY3
  subst hY1; subst hY2; subst hY3; subst hl
  show G X 2 Z (QG X Z _) I J 0 [(0, .ref (Z.2.2.1 27 0))] []
  refine g_iconst C ((nI 0)) dX6_keep_0 (by decide) ?_
  refine g_istn (lv' := [(1, .int (nI 0)), (0, .ref (Z.2.2.1 27 0))]) C dX6_keep_1 rfl rfl ?_
  refine g_lv [1, 0] rfl ?_
  refine g_I (I1 := sK I 30 (I 30)) (by rw [sK_id]) ?_
  exact l_X6_keep_2 hA C hr hv hb (n + 1) 0 (I 30) (by omega) (by omega) (fun i hi => absurd hi (by omega))

theorem fr_q {I I1 : SI} (e1 : I1 = sK (sK I 32 (va_up (I 32) 0 (fl (I 32 0) 9 (-1)))) 31 (up2 (I 31) 0 0 (-1))) : (∀ q, q ≠ 31 → q ≠ 32 → I1 q = I q) ∧ (∀ i, i < 9 → I1 32 0 i = -1) ∧ I1 31 0 0 = -1 := by
  refine ⟨fun q a b => by rw [e1, sK_ne a, sK_ne b], fun i hi => by rw [e1, sK_ne (by decide), sK_self, va_up_self, fl_lt hi], by rw [e1, sK_self, up2_self]⟩
theorem MV.ss {I I1 : SI} {n : Nat} {T : Nat → Nat → Nat} {L : Nat → Nat → Nat → Nat} (h : MV I n T L) (hk : ∀ q, q ≠ 31 → q ≠ 32 → I1 q = I q) : MV I1 n T L := h.of (by rw [hk 27 (by decide) (by decide)]) (hk 28 (by decide) (by decide)) (hk 29 (by decide) (by decide))
theorem MI.ss {I I1 : SI} {n : Nat} {T : Nat → Nat → Nat} {L : Nat → Nat → Nat → Nat} {ah : Bool} {nm : Nat → Nat} (h : MI I n T L ah nm) (hk : ∀ q, q ≠ 31 → q ≠ 32 → I1 q = I q) : MI I1 n T L ah nm := by
  unfold MI MV MPk MFk
  rw [hk 27 (by decide) (by decide), hk 28 (by decide) (by decide), hk 29 (by decide) (by decide), hk 30 (by decide) (by decide), hk 33 (by decide) (by decide), hk 34 (by decide) (by decide), hk 36 (by decide) (by decide)]
  exact h
theorem tm_fin {I I4 : SI} {J : SJ} {n : Nat} {T : Nat → Nat → Nat} {L : Nat → Nat → Nat → Nat} {ah b : Bool} {nm f : Nat → Nat} (hm : MI I n T L ah nm) (ho : ∀ q, q ≠ 27 → q ≠ 30 → q ≠ 31 → q ≠ 32 → I4 q = I q) (h27 : I4 27 = up2 (I 27) 0 3 (bI b)) (h30 : b = true → ∀ i, i < n → I4 30 0 i = nI (f i)) {r : Int32} (hr : r = bI b) : mP I J (bI b) n T L b f (some (.int r)) I4 J := by
  subst hr
  have o' := fun q (h1 : q ≠ 27) (h2 : q ≠ 30) (h3 : q ≠ 31) (h4 : q ≠ 32) => ho q h1 h2 h3 h4
  refine ⟨rfl, rfl, fun q hq => ho q (by omega) (by omega) (by omega) (by omega), hm.1.of (by rw [h27, up2_ne (by decide)]) (ho 28 (by decide) (by decide) (by decide) (by decide)) (ho 29 (by decide) (by decide) (by decide) (by decide)), by rw [h27, up2_self], h30, ?_, ?_⟩
  · unfold MPk
    rw [h27, up2_ne (by decide), up2_ne (by decide), ho 36 (by decide) (by decide) (by decide) (by decide)]
    exact hm.2.2.2.1
  · unfold MFk
    rw [ho 33 (by decide) (by decide) (by decide) (by decide), ho 34 (by decide) (by decide) (by decide) (by decide)]
    exact hm.2.2.2.2
theorem tw_se {n : Nat} {T : Nat → Nat → Nat} {L : Nat → Nat → Nat → Nat} {g h : Nat} {fx : Nat → Nat → Prop} {rs b : Bool} {f : Nat → Nat} {F : Nat → Nat → Int32} (hx : ∀ i x, i < n → fx i x) (h1 : b = true → ∃ f', (∀ i, i < n → F 0 i = nI (f' i)) ∧ SC n T L g h fx rs f f' ∧ ∀ f2, SC n T L g h fx rs f f2 → lxe n f' f2) (h2 : b = false → ∀ f2, ¬ SC n T L g h fx rs f f2) : ∃ f', (b = true → ∀ i, i < n → F 0 i = nI (f' i)) ∧ Tw n T L g h rs f b f' := by
  have hP : ∀ f2, SC n T L g h fx rs f f2 ↔ tr n T L g h f2 n ∧ (rs = true → lx n f f2) := fun f2 => ⟨fun q => ⟨q.1, q.2.2⟩, fun q => ⟨q.1, fun i hi => hx i _ hi, q.2⟩⟩
  cases b with
  | true =>
    obtain ⟨f', a1, a2, a3⟩ := h1 rfl
    exact ⟨f', fun _ => a1, fun _ => ⟨((hP f').mp a2).1, ((hP f').mp a2).2, fun f2 q1 q2 => a3 f2 ((hP f2).mpr ⟨q1, q2⟩)⟩, fun q => absurd q (by decide)⟩
  | false => exact ⟨f, fun q => absurd q (by decide), fun q => absurd q (by decide), fun _ f2 q1 q2 => h2 rfl f2 ((hP f2).mpr ⟨q1, q2⟩)⟩
set_option maxRecDepth 100000 in
set_option maxHeartbeats 4000000 in
/-- twins -/
theorem c_X6_twins {l : Launch} {Y : Yk} (hA : AJ Y.2.2) {I : SI} {J : SJ} {n : Nat} {T : Nat → Nat → Nat} {L : Nat → Nat → Nat → Nat} {ah : Bool} {nm : Nat → Nat} (hm : MI I n T L ah nm)  : MX l Y yX6_twins cX6_twins 1 (some .int) 3 160 [.ref (Y.2.2 27 0)] I J (fun v' I' J' => ∃ b f, Tw n T L 0 1 false (fun i => i) b f ∧ mP I J (bI b) n T L b f v' I' J') := by
  refine MX.of hA (by decide) (own := RX6) rfl rfl rfl ?_
  intro X Z hl hY1 hY2 hY3 C hr
  obtain ⟨D0, ca0, ad0⟩ := Y
  dsimp only at hA hY1 hY2 hY3
  subst hY1; subst hY2; subst hY3; subst hl
  show G X 1 Z (QG X Z _) I J 0 [(0, .ref (Z.2.2.1 27 0))] []
  have hv := hm.1
  obtain ⟨⟨hn1, hn9⟩, -⟩ := id hv
  refine g_aldn C dX6_twins_0 rfl ?_
  refine g_callV (As := []) (st := []) C (c_X6_free hA) wX6_free iX6_free sX6_free mX6_90 27 0 (by decide) (by decide) rfl rfl rfl rfl rfl rfl rfl rfl dX6_twins_1 ?_
  rintro v9 I1 J9 ⟨h91, e1, h93⟩
  rw [h91, h93]
  clear h91 h93 v9 J9
  obtain ⟨q1, q2, q3⟩ := fr_q e1
  show G X _ Z _ I1 J 4 [(0, .ref (Z.2.2.1 27 0))] []
  refine g_aldn C dX6_twins_4 rfl ?_
  refine g_aldn C dX6_twins_5 rfl ?_
  refine g_iconst C ((nI 0)) dX6_twins_6 (by decide) ?_
  refine g_iconst C ((nI 1)) dX6_twins_7 (by decide) ?_
  refine g_iconst C ((nI 0)) dX6_twins_8 (by decide) ?_
  refine g_callV (As := [.int (nI 0), .int (nI 1), .int (nI 0)]) (st := [.ref (Z.2.2.1 27 0)]) C (c_X6_search hA (hv.ss q1) (g := 0) (h := 1) (by decide) (by decide) (fr := 0) (rs := false) (f0 := fun i => i) (f := fun i => i) (w := 0) (CU.zero hn1) (fun i hi => absurd hi (Nat.not_lt_zero i)) (by rw [q3]; decide)) wX6_search iX6_search sX6_search mX6_93 27 0 (by decide) (by decide) rfl rfl rfl rfl rfl rfl rfl rfl dX6_twins_9 ?_
  rintro v9 I2 J9 ⟨b, F, h91, e2, h93, hb1, hb2⟩
  rw [h91, h93]
  clear h91 h93 v9 J9
  obtain ⟨f4, hf4, htw⟩ := tw_se (fun i x hi => Or.inl (q2 i (by omega))) hb1 hb2
  show G X _ Z _ I2 J 12 [(0, .ref (Z.2.2.1 27 0))] [.int (bI b), .ref (Z.2.2.1 27 0)]
  refine g_put C 27 0 (by decide) (by decide) tyX6 tyX6_ok nmX6 u6 rfl 3 rfl fX6_45 rfl (fun _ _ => rfl) (by simp [va_up]) rfl (nar_b _) (fit_b _) dX6_twins_12 ?_
  refine g_I (I1 := sK I2 27 (up2 (I2 27) 0 3 (bI b))) rfl ?_
  refine g_aldn C dX6_twins_15 rfl ?_
  refine g_callV (As := []) (st := []) C (c_X6_keep hA (b := b) (hv.of (I' := sK I2 27 (up2 (I2 27) 0 3 (bI b))) (by rw [sK_self, up2_ne (by decide), e2, sK_ne (by decide), q1 27 (by decide) (by decide)]) (by rw [sK_ne (by decide), e2, sK_ne (by decide), q1 28 (by decide) (by decide)]) (by rw [sK_ne (by decide), e2, sK_ne (by decide), q1 29 (by decide) (by decide)])) (by rw [sK_self, up2_self])) wX6_keep iX6_keep sX6_keep mX6_97 27 0 (by decide) (by decide) rfl rfl rfl rfl rfl rfl rfl rfl dX6_twins_16 ?_
  rintro v9 I4 J9 ⟨A, h91, e4, h93, hA4⟩
  rw [h91, h93]
  clear h91 h93 v9 J9
  show G X _ Z _ I4 J 19 [(0, .ref (Z.2.2.1 27 0))] []
  refine g_aldn C dX6_twins_19 rfl ?_
  refine g_get C 27 0 (by decide) (by decide) u6 rfl 3 rfl fX6_45 rfl rfl dX6_twins_20 ?_
  refine g_top (y := (bI b)) (by rw [e4, sK_ne (by decide), sK_self, up2_self]) ?_
  refine b_if_eq (tgt := 30) C dX6_twins_23 rfl (fun c23 => ?_) (fun c23 => ?_)
  · refine g_iconst C ((nI 0)) dX6_twins_30 (by decide) ?_
    exact g_ireturn C hr dX6_twins_31 ⟨b, f4, htw, tm_fin hm (fun q z1 z2 z3 z4 => by rw [e4, sK_ne z2, sK_ne z1, e2, sK_ne z3, q1 q z3 z4]) (by rw [e4, sK_ne (by decide), sK_self, e2, sK_ne (by decide), q1 27 (by decide) (by decide)]) (fun q i hi => by rw [e4, sK_self, hA4 q i hi, sK_ne (by decide), e2, sK_self]; exact hf4 q i hi) (by rw [c23]; rfl)⟩
  · refine g_iconst C ((nI 1)) dX6_twins_26 (by decide) ?_
    refine g_goto (tgt := 31) C dX6_twins_27 rfl ?_
    exact g_ireturn C hr dX6_twins_31 ⟨b, f4, htw, tm_fin hm (fun q z1 z2 z3 z4 => by rw [e4, sK_ne z2, sK_ne z1, e2, sK_ne z3, q1 q z3 z4]) (by rw [e4, sK_ne (by decide), sK_self, e2, sK_ne (by decide), q1 27 (by decide) (by decide)]) (fun q i hi => by rw [e4, sK_self, hA4 q i hi, sK_ne (by decide), e2, sK_self]; exact hf4 q i hi) (by rw [c23]; rfl)⟩

set_option maxRecDepth 100000 in
set_option maxHeartbeats 4000000 in
theorem l_X6_next_15 {X : Pk} {Z : Zk} {Q : State → Prop} {I : SI} {J : SJ} (hA : AJ Z.2.2.1) (C : Cx X cX6_next 2 RX6 Z 3 160) (hr : (xE X).sig.returnType = some .int) {n : Nat} {T : Nat → Nat → Nat} {L : Nat → Nat → Nat → Nat} (hv : MV I n T L) {nm : Nat → Nat} (hnm : ∀ i, i < n → I 30 0 i = nI (nm i)) (hex : ∀ F, (∀ i, i < n → F 0 i = nI (nm i)) → G X 2 Z Q (sK I 31 F) J 41 [(0, .ref (Z.2.2.1 27 0)), (1, .int (nI n))] []) : ∀ (k : Nat) (v : Nat) (F : Nat → Nat → Int32), n - v < k → (v ≤ n) → (∀ i, i < v → F 0 i = nI (nm i)) → G X 2 Z (Q) (sK I 31 F) (J) 15 [(0, .ref (Z.2.2.1 27 0)), (1, .int (nI v))] [] := by
  obtain ⟨⟨hn1, hn9⟩, -⟩ := id hv
  intro k
  induction k with
  | zero => intro v F h; exact absurd h (by omega)
  | succ k ih =>
    intro v F hk hvn hF
    refine g_ildn C dX6_next_15 rfl ?_
    refine g_aldn C dX6_next_16 rfl ?_
    refine g_get C 27 0 (by decide) (by decide) u6 rfl 0 rfl fX6_7 rfl rfl dX6_next_17 ?_
    refine g_top (y := (nI n)) (by rw [sK_ne (by decide)]; exact hv.2.1) ?_
    refine n_icmp_ge (tgt := 41) C dX6_next_20 rfl (by omega) (by omega) (fun c_1 => ?_) (fun c_1 => ?_)
    · have e : v = n := by omega
      subst e
      refine g_lv [0, 1] rfl ?_
      exact hex F hF
    · refine g_aldn C dX6_next_23 rfl ?_
      refine g_get C 27 0 (by decide) (by decide) u6 rfl 5 rfl fX6_23 rfl rfl dX6_next_24 ?_
      refine g_ildn C dX6_next_27 rfl ?_
      refine g_aldn C dX6_next_28 rfl ?_
      refine g_get C 27 0 (by decide) (by decide) u6 rfl 4 rfl fX6_20 rfl rfl dX6_next_29 ?_
      refine g_ildn C dX6_next_32 rfl ?_
      refine g_iald C 30 0 (by decide) (by decide) (fun _ _ => rfl) v (show v < 9 by omega) rfl dX6_next_33 (v := (nI (nm v))) (by rw [sK_ne (by decide)]; exact hnm v (by omega)) ?_
      refine g_iast C 31 0 (by decide) (by decide) (fun _ _ => rfl) v (show v < 9 by omega) rfl dX6_next_34 ?_
      refine g_I (I1 := sK I 31 (up2 F 0 v (nI (nm v)))) (by rw [sK_self, sK_sK]) ?_
      refine g_iinc (lv' := [(1, .int (nI (v + 1))), (0, .ref (Z.2.2.1 27 0))]) C ((nI (v + 1))) dX6_next_35 rfl (inc1 _) rfl rfl ?_
      refine g_goto (tgt := 15) C dX6_next_38 rfl ?_
      refine g_lv [1, 0] rfl ?_
      exact ih (v + 1) _ (by omega) (by omega) (fun i hi => by by_cases e : i = v; rw [e, up2_self]; rw [up2_ne e]; exact hF i (by omega))

set_option maxRecDepth 100000 in
set_option maxHeartbeats 4000000 in
/-- next -/
theorem c_X6_next {l : Launch} {Y : Yk} (hA : AJ Y.2.2) {I : SI} {J : SJ} {n : Nat} {T : Nat → Nat → Nat} {L : Nat → Nat → Nat → Nat} {ah : Bool} {nm : Nat → Nat} (hm : MI I n T L ah nm) (htr : ah = true → tr n T L 0 1 nm n) : MX l Y yX6_next cX6_next 2 (some .int) 3 160 [.ref (Y.2.2 27 0)] I J (fun v' I' J' => if ah then ∃ b f, Tw n T L 0 1 true nm b f ∧ mP I J (bI b) n T L b f v' I' J' else mP I J (-1) n T L ah nm v' I' J') := by
  refine MX.of hA (by decide) (own := RX6) rfl rfl rfl ?_
  intro X Z hl hY1 hY2 hY3 C hr
  obtain ⟨D0, ca0, ad0⟩ := Y
  dsimp only at hA hY1 hY2 hY3
  subst hY1; subst hY2; subst hY3; subst hl
  show G X 2 Z (QG X Z _) I J 0 [(0, .ref (Z.2.2.1 27 0))] []
  have hv := hm.1
  obtain ⟨⟨hn1, hn9⟩, -⟩ := id hv
  refine g_aldn C dX6_next_0 rfl ?_
  refine g_get C 27 0 (by decide) (by decide) u6 rfl 3 rfl fX6_45 rfl rfl dX6_next_1 ?_
  refine g_top (y := (bI ah)) hm.2.1 ?_
  refine b_if_ne (tgt := 9) C dX6_next_4 rfl (fun c4 => ?_) (fun c4 => ?_)
  · refine g_aldn C dX6_next_9 rfl ?_
    refine g_callV (As := []) (st := []) C (c_X6_free hA) wX6_free iX6_free sX6_free mX6_90 27 0 (by decide) (by decide) rfl rfl rfl rfl rfl rfl rfl rfl dX6_next_10 ?_
    rintro v9 I1 J9 ⟨h91, e1, h93⟩
    rw [h91, h93]
    clear h91 h93 v9 J9
    obtain ⟨q1, q2, q3⟩ := fr_q e1
    show G X _ Z _ I1 J 13 [(0, .ref (Z.2.2.1 27 0))] []
    refine g_iconst C ((nI 0)) dX6_next_13 (by decide) ?_
    refine g_istn (lv' := [(1, .int (nI 0)), (0, .ref (Z.2.2.1 27 0))]) C dX6_next_14 rfl rfl ?_
    refine g_lv [1, 0] rfl ?_
    refine g_I (I1 := sK I1 31 (I1 31)) (by rw [sK_id]) ?_
    refine l_X6_next_15 hA C hr (hv.ss q1) (nm := nm) (by rw [q1 30 (by decide) (by decide)]; exact hm.2.2.1 c4) ?_ (n + 1) 0 (I1 31) (by omega) (by omega) (fun i hi => absurd hi (by omega))
    intro Fn hFn
    have qn : ∀ q, q ≠ 31 → q ≠ 32 → (sK I1 31 Fn) q = I q := fun q a b => by rw [sK_ne a, q1 q a b]
    refine g_aldn C dX6_next_41 rfl ?_
    refine g_aldn C dX6_next_42 rfl ?_
    refine g_iconst C ((nI 0)) dX6_next_43 (by decide) ?_
    refine g_iconst C ((nI 1)) dX6_next_44 (by decide) ?_
    refine g_aldn C dX6_next_45 rfl ?_
    refine g_get C 27 0 (by decide) (by decide) u6 rfl 0 rfl fX6_7 rfl rfl dX6_next_46 ?_
    refine g_top (y := (nI n)) (hv.ss qn).2.1 ?_
    refine g_iconst C ((nI 1)) dX6_next_49 (by decide) ?_
    refine g_isub (v := (nI (n - 1))) C dX6_next_50 (pk_sub (by omega)) ?_
    refine g_callV (As := [.int (nI 0), .int (nI 1), .int (nI (n - 1))]) (st := [.ref (Z.2.2.1 27 0)]) C (c_X6_search (I := sK I1 31 Fn) hA (hv.ss qn) (g := 0) (h := 1) (by decide) (by decide) (fr := n - 1) (rs := true) (f0 := nm) (f := nm) (w := nm (n - 1) + 1) (CU.last hn1 (htr c4) (fun i hi => Or.inl (by rw [sK_ne (by decide)]; exact q2 i (by omega)))) (fun i hi => by rw [sK_self]; exact hFn i (by omega)) (by rw [sK_self, hFn (n - 1) (by omega)]; exact nI_add _ _)) wX6_search iX6_search sX6_search mX6_93 27 0 (by decide) (by decide) rfl rfl rfl rfl rfl rfl rfl rfl dX6_next_51 ?_
    rintro v9 I2 J9 ⟨b, F, h91, e2, h93, hb1, hb2⟩
    rw [h91, h93]
    clear h91 h93 v9 J9
    obtain ⟨f4, hf4, htw⟩ := tw_se (fun i x hi => Or.inl (by rw [sK_ne (by decide)]; exact q2 i (by omega))) hb1 hb2
    show G X _ Z _ I2 J 54 [(0, .ref (Z.2.2.1 27 0)), (1, .int (nI n))] [.int (bI b), .ref (Z.2.2.1 27 0)]
    refine g_put C 27 0 (by decide) (by decide) tyX6 tyX6_ok nmX6 u6 rfl 3 rfl fX6_45 rfl (fun _ _ => rfl) (by simp [va_up]) rfl (nar_b _) (fit_b _) dX6_next_54 ?_
    refine g_I (I1 := sK I2 27 (up2 (I2 27) 0 3 (bI b))) rfl ?_
    refine g_aldn C dX6_next_57 rfl ?_
    refine g_callV (As := []) (st := []) C (c_X6_keep hA (b := b) (hv.of (I' := sK I2 27 (up2 (I2 27) 0 3 (bI b))) (by rw [sK_self, up2_ne (by decide), e2, sK_ne (by decide), qn 27 (by decide) (by decide)]) (by rw [sK_ne (by decide), e2, sK_ne (by decide), qn 28 (by decide) (by decide)]) (by rw [sK_ne (by decide), e2, sK_ne (by decide), qn 29 (by decide) (by decide)])) (by rw [sK_self, up2_self])) wX6_keep iX6_keep sX6_keep mX6_97 27 0 (by decide) (by decide) rfl rfl rfl rfl rfl rfl rfl rfl dX6_next_58 ?_
    rintro v9 I4 J9 ⟨A, h91, e4, h93, hA4⟩
    rw [h91, h93]
    clear h91 h93 v9 J9
    show G X _ Z _ I4 J 61 [(0, .ref (Z.2.2.1 27 0)), (1, .int (nI n))] []
    refine g_aldn C dX6_next_61 rfl ?_
    refine g_get C 27 0 (by decide) (by decide) u6 rfl 3 rfl fX6_45 rfl rfl dX6_next_62 ?_
    refine g_top (y := (bI b)) (by rw [e4, sK_ne (by decide), sK_self, up2_self]) ?_
    refine b_if_eq (tgt := 72) C dX6_next_65 rfl (fun c65 => ?_) (fun c65 => ?_)
    · refine g_iconst C ((nI 0)) dX6_next_72 (by decide) ?_
      exact g_ireturn C hr dX6_next_73 (by rw [if_pos c4]; exact ⟨b, f4, htw, tm_fin hm (fun q z1 z2 z3 z4 => by rw [e4, sK_ne z2, sK_ne z1, e2, sK_ne z3, qn q z3 z4]) (by rw [e4, sK_ne (by decide), sK_self, e2, sK_ne (by decide), qn 27 (by decide) (by decide)]) (fun q i hi => by rw [e4, sK_self, hA4 q i hi, sK_ne (by decide), e2, sK_self]; exact hf4 q i hi) (by rw [c65]; rfl)⟩)
    · refine g_iconst C ((nI 1)) dX6_next_68 (by decide) ?_
      refine g_goto (tgt := 73) C dX6_next_69 rfl ?_
      exact g_ireturn C hr dX6_next_73 (by rw [if_pos c4]; exact ⟨b, f4, htw, tm_fin hm (fun q z1 z2 z3 z4 => by rw [e4, sK_ne z2, sK_ne z1, e2, sK_ne z3, qn q z3 z4]) (by rw [e4, sK_ne (by decide), sK_self, e2, sK_ne (by decide), qn 27 (by decide) (by decide)]) (fun q i hi => by rw [e4, sK_self, hA4 q i hi, sK_ne (by decide), e2, sK_self]; exact hf4 q i hi) (by rw [c65]; rfl)⟩)
  · refine g_iconst C ((-1)) dX6_next_7 (by decide) ?_
    exact g_ireturn C hr dX6_next_8 (by rw [if_neg (by rw [c4]; decide)]; exact ⟨rfl, rfl, fun _ _ => rfl, hm⟩)

theorem tr_idn (n : Nat) (T : Nat → Nat → Nat) (L : Nat → Nat → Nat → Nat) (g : Nat) : tr n T L g g (fun i => i) n := fun i hi => ⟨hi, fun j hj e => absurd (show j = i from e) (by omega), rfl, fun _ _ => ⟨rfl, rfl⟩⟩
/-- r is the least vertex to which some symmetry leads b -/
def lob (n : Nat) (T : Nat → Nat → Nat) (L : Nat → Nat → Nat → Nat) (a b r : Nat) : Prop := (∃ f, tr n T L a a f n ∧ f b = r) ∧ ∀ f, tr n T L a a f n → r ≤ f b
theorem nI_m1 : ∀ u, u < 9 → nI u ≠ -1 := by decide
theorem ob_fx {I : SI} {n b u : Nat} (hn : n ≤ 9) (hu : u < 9) (h1 : ∀ i, i < 9 → i ≠ b → I 32 0 i = -1) (h2 : I 32 0 b = nI u) (f : Nat → Nat) (hf : ∀ i, i < n → f i < n) (hb : b < n) : (∀ i, i < n → sfx I i (f i)) ↔ f b = u := by
  constructor
  · intro h
    rcases h b hb with q | q
    · rw [h2] at q; exact absurd q (nI_m1 u hu)
    · rw [h2] at q
      have := hf b hb
      exact ((nI_eq (by omega) (by omega)).mp q).symm
  · intro e i hi
    by_cases z : i = b
    · subst z; exact Or.inr (by rw [h2, e])
    · exact Or.inl (h1 i (by omega) z)
set_option maxRecDepth 100000 in
set_option maxHeartbeats 4000000 in
theorem l_X6_orbit_19 {X : Pk} {Z : Zk} {I : SI} {J : SJ} (hA : AJ Z.2.2.1) (C : Cx X cX6_orbit 4 RX6 Z 3 160) (hr : (xE X).sig.returnType = some .int) {n : Nat} {T : Nat → Nat → Nat} {L : Nat → Nat → Nat → Nat} {ah : Bool} {nm : Nat → Nat} (hm : MI I n T L ah nm) {a b : Nat} (ha : a < 2) (hb : b < n) {post : Option Value → SI → SJ → Prop} (hpost : ∀ v' I' J', (∃ r, lob n T L a b r ∧ mP I J (nI r) n T L ah nm v' I' J') → post v' I' J') : ∀ (k : Nat) (u : Nat) (K : SI), b - u < k → (u ≤ b) → (∀ q, q ≠ 31 → q ≠ 32 → K q = I q) → (∀ f, tr n T L a a f n → u ≤ f b) → G X 4 Z (QG X Z (post)) (K) (J) 19 [(0, .ref (Z.2.2.1 27 0)), (1, .int (nI a)), (2, .int (nI b)), (3, .int (nI u))] [] := by
  intro k
  induction k with
  | zero => intro u K h; exact absurd h (by omega)
  | succ k ih =>
    intro u K hk hu hK hno
    have hv := hm.1
    obtain ⟨⟨hn1, hn9⟩, -⟩ := id hv
    refine g_ildn C dX6_orbit_19 rfl ?_
    refine g_ildn C dX6_orbit_20 rfl ?_
    refine n_icmp_ge (tgt := 53) C dX6_orbit_21 rfl (by omega) (by omega) (fun c21 => ?_) (fun c21 => ?_)
    · refine g_ildn C dX6_orbit_53 rfl ?_
      exact g_ireturn C hr dX6_orbit_54 (hpost _ _ _ ⟨b, ⟨⟨fun i => i, tr_idn n T L a, rfl⟩, fun f hf => by have := hno f hf; omega⟩, rfl, rfl, fun q hq => hK q (by omega) (by omega), hm.ss hK⟩)
    · refine g_aldn C dX6_orbit_24 rfl ?_
      refine g_callV (As := []) (st := []) C (c_X6_free hA) wX6_free iX6_free sX6_free mX6_90 27 0 (by decide) (by decide) rfl rfl rfl rfl rfl rfl rfl rfl dX6_orbit_25 ?_
      rintro v9 I1 J9 ⟨h91, e1, h93⟩
      rw [h91, h93]
      clear h91 h93 v9 J9
      obtain ⟨q1, q2, q3⟩ := fr_q e1
      show G X _ Z _ I1 J 28 [(0, .ref (Z.2.2.1 27 0)), (1, .int (nI a)), (2, .int (nI b)), (3, .int (nI u))] []
      refine g_aldn C dX6_orbit_28 rfl ?_
      refine g_get C 27 0 (by decide) (by decide) u6 rfl 6 rfl fX6_26 rfl rfl dX6_orbit_29 ?_
      refine g_ildn C dX6_orbit_32 rfl ?_
      refine g_ildn C dX6_orbit_33 rfl ?_
      refine g_iast C 32 0 (by decide) (by decide) (fun _ _ => rfl) b (show b < 9 by omega) rfl dX6_orbit_34 ?_
      refine g_I (I1 := sK I1 32 (up2 (I1 32) 0 b (nI u))) rfl ?_
      have q6 : ∀ q, q ≠ 31 → q ≠ 32 → (sK I1 32 (up2 (I1 32) 0 b (nI u))) q = I q := fun q z1 z2 => by rw [sK_ne z2, q1 q z1 z2, hK q z1 z2]
      have hfx := fun (f : Nat → Nat) (hf : ∀ i, i < n → f i < n) => ob_fx (I := sK I1 32 (up2 (I1 32) 0 b (nI u))) hn9 (show u < 9 by omega) (b := b) (fun i hi hne => by rw [sK_self, up2_ne hne]; exact q2 i hi) (by rw [sK_self, up2_self]) f hf hb
      refine g_aldn C dX6_orbit_35 rfl ?_
      refine g_ildn C dX6_orbit_36 rfl ?_
      refine g_ildn C dX6_orbit_37 rfl ?_
      refine g_iconst C ((nI 0)) dX6_orbit_38 (by decide) ?_
      refine g_callV (As := [.int (nI a), .int (nI a), .int (nI 0)]) (st := []) C (c_X6_search (I := sK I1 32 (up2 (I1 32) 0 b (nI u))) hA (hv.ss q6) (g := a) (h := a) ha ha (fr := 0) (rs := false) (f0 := fun i => i) (f := fun i => i) (w := 0) (CU.zero hn1) (fun i hi => absurd hi (Nat.not_lt_zero i)) (by rw [sK_ne (by decide), q3]; decide)) wX6_search iX6_search sX6_search mX6_93 27 0 (by decide) (by decide) rfl rfl rfl rfl rfl rfl rfl rfl dX6_orbit_39 ?_
      rintro v9 I2 J9 ⟨bb, F, h91, e2, h93, hb1, hb2⟩
      rw [h91, h93]
      clear h91 h93 v9 J9
      have qk : ∀ q, q ≠ 31 → q ≠ 32 → I2 q = I q := fun q z1 z2 => by rw [e2, sK_ne z1, q6 q z1 z2]
      show G X _ Z _ I2 J 42 [(0, .ref (Z.2.2.1 27 0)), (1, .int (nI a)), (2, .int (nI b)), (3, .int (nI u))] [.int (bI bb)]
      refine b_if_eq (tgt := 47) C dX6_orbit_42 rfl (fun c42 => ?_) (fun c42 => ?_)
      · refine g_iinc (lv' := [(3, .int (nI (u + 1))), (0, .ref (Z.2.2.1 27 0)), (1, .int (nI a)), (2, .int (nI b))]) C ((nI (u + 1))) dX6_orbit_47 rfl (inc1 _) rfl rfl ?_
        refine g_goto (tgt := 19) C dX6_orbit_50 rfl ?_
        refine g_lv [1, 2, 3, 0] rfl ?_
        exact ih (u + 1) I2 (by omega) (by omega) qk (fun f hf => by rcases Nat.lt_or_eq_of_le (hno f hf) with z | z; exact z; exact absurd ⟨hf, (hfx f (fun i hi => (hf i hi).1)).mpr z.symm, fun q => absurd q (by decide)⟩ (hb2 c42 f))
      · refine g_ildn C dX6_orbit_45 rfl ?_
        exact g_ireturn C hr dX6_orbit_46 (by obtain ⟨f, z1, z2, z3⟩ := hb1 c42; exact hpost _ _ _ ⟨u, ⟨⟨f, z2.1, (hfx f (fun i hi => (z2.1 i hi).1)).mp z2.2.1⟩, hno⟩, rfl, rfl, fun q hq => qk q (by omega) (by omega), hm.ss qk⟩)

set_option maxRecDepth 100000 in
set_option maxHeartbeats 4000000 in
/-- orbit -/
theorem c_X6_orbit {l : Launch} {Y : Yk} (hA : AJ Y.2.2) {I : SI} {J : SJ} {n : Nat} {T : Nat → Nat → Nat} {L : Nat → Nat → Nat → Nat} {ah : Bool} {nm : Nat → Nat} (hm : MI I n T L ah nm) (g v : Int32) : MX l Y yX6_orbit cX6_orbit 4 (some .int) 3 160 [.ref (Y.2.2 27 0), .int g, .int v] I J (fun v' I' J' => if isV n g v then ∃ a b r, a < 2 ∧ b < n ∧ g = nI a ∧ v = nI b ∧ lob n T L a b r ∧ mP I J (nI r) n T L ah nm v' I' J' else mP I J (-1) n T L ah nm v' I' J') := by
  refine MX.of hA (by decide) (own := RX6) rfl rfl rfl ?_
  intro X Z hl hY1 hY2 hY3 C hr
  obtain ⟨D0, ca0, ad0⟩ := Y
  dsimp only at hA hY1 hY2 hY3
  subst hY1; subst hY2; subst hY3; subst hl
  show G X 4 Z (QG X Z _) I J 0 [(0, .ref (Z.2.2.1 27 0)), (1, .int g), (2, .int v)] []
  have hv := hm.1
  obtain ⟨⟨hn1, hn9⟩, -⟩ := id hv
  refine g_ildn C dX6_orbit_0 rfl ?_
  refine g_callS (As := [.int g]) (st := []) C (c_X6_isGraph hA g) wX6_isGraph tX6_isGraph mX6_55 rfl rfl rfl rfl dX6_orbit_1 ?_
  rintro v9 I9 J9 ⟨h91, h92, h93⟩
  rw [h91, h92, h93]
  clear h91 h92 h93 v9 I9 J9
  show G X _ Z _ I J 4 [(0, .ref (Z.2.2.1 27 0)), (1, .int g), (2, .int v)] [.int (bI (isG g))]
  refine b_if_eq (tgt := 15) C dX6_orbit_4 rfl (fun c4 => ?_) (fun c4 => ?_)
  · refine g_iconst C ((-1)) dX6_orbit_15 (by decide) ?_
    exact g_ireturn C hr dX6_orbit_16 (by rw [if_neg (by rw [isV_eq]; first | (rw [c4]; simp; done) | (rw [c12]; simp; done))]; exact ⟨rfl, rfl, fun _ _ => rfl, hm⟩)
  · refine g_aldn C dX6_orbit_7 rfl ?_
    refine g_ildn C dX6_orbit_8 rfl ?_
    refine g_callV (As := [.int v]) (st := []) C (c_X6_isVertex hA hm.1 v) wX6_isVertex iX6_isVertex sX6_isVertex mX6_59 27 0 (by decide) (by decide) rfl rfl rfl rfl rfl rfl rfl rfl dX6_orbit_9 ?_
    rintro v9 I9 J9 ⟨h91, h92, h93⟩
    rw [h91, h92, h93]
    clear h91 h92 h93 v9 I9 J9
    show G X _ Z _ I J 12 [(0, .ref (Z.2.2.1 27 0)), (1, .int g), (2, .int v)] [.int (bI (isW n v))]
    refine b_if_ne (tgt := 17) C dX6_orbit_12 rfl (fun c12 => ?_) (fun c12 => ?_)
    · have hok : isV n g v = true := by rw [isV_eq, c4, c12]; rfl
      obtain ⟨a, ha, rfl⟩ := isG_t c4
      obtain ⟨b, hb, rfl⟩ := isW_t (by omega) c12
      refine g_iconst C ((nI 0)) dX6_orbit_17 (by decide) ?_
      refine g_istn (lv' := [(3, .int (nI 0)), (0, .ref (Z.2.2.1 27 0)), (1, .int (nI a)), (2, .int (nI b))]) C dX6_orbit_18 rfl rfl ?_
      refine g_lv [1, 2, 3, 0] rfl ?_
      exact l_X6_orbit_19 hA C hr hm ha hb (fun v9 I9 J9 h9 => by rw [if_pos hok]; obtain ⟨r, h1, h2⟩ := h9; exact ⟨a, b, r, ha, hb, rfl, rfl, h1, h2⟩) (b + 1) 0 I (by omega) (by omega) (fun _ _ _ => rfl) (fun f _ => Nat.zero_le _)
    · refine g_iconst C ((-1)) dX6_orbit_15 (by decide) ?_
      exact g_ireturn C hr dX6_orbit_16 (by rw [if_neg (by rw [isV_eq]; first | (rw [c4]; simp; done) | (rw [c12]; simp; done))]; exact ⟨rfl, rfl, fun _ _ => rfl, hm⟩)

/-- the first n values, as a list -/
def enc (f : Nat → Nat) : Nat → List Nat
  | 0 => []
  | n + 1 => f n :: enc f n
theorem enc_eq {f f' : Nat → Nat} : ∀ n, enc f n = enc f' n ↔ ∀ i, i < n → f i = f' i
  | 0 => ⟨fun _ i hi => absurd hi (Nat.not_lt_zero i), fun _ => rfl⟩
  | n + 1 => by
    show f n :: enc f n = f' n :: enc f' n ↔ _
    rw [List.cons.injEq, enc_eq n]
    constructor
    · rintro ⟨h1, h2⟩ i hi
      rcases Nat.lt_or_eq_of_le (Nat.le_of_lt_succ hi) with z | z
      · exact h2 i z
      · rw [z]; exact h1
    · intro h
      exact ⟨h n (by omega), fun i hi => h i (by omega)⟩
/-- m namings have P -/
def crd (n : Nat) (P : (Nat → Nat) → Prop) (m : Nat) : Prop := ∃ l : List (List Nat), l.Nodup ∧ l.length = m ∧ ∀ x, x ∈ l ↔ ∃ f, P f ∧ enc f n = x
/-- of the namings with P so many are found that lie before f -/
def CS (n : Nat) (P : (Nat → Nat) → Prop) (is : Bool) (f : Nat → Nat) (m : Nat) : Prop := ∃ l : List (List Nat), l.Nodup ∧ l.length = m ∧ ∀ x, x ∈ l ↔ ∃ f2, P f2 ∧ (is = true → lx n f2 f) ∧ enc f2 n = x
theorem CS.zero {n : Nat} {T : Nat → Nat → Nat} {L : Nat → Nat → Nat → Nat} {a : Nat} {b : Bool} {f0 f : Nat → Nat} (h : Tw n T L a a false f0 b f) : CS n (fun f => tr n T L a a f n) b f 0 := by
  refine ⟨[], List.nodup_nil, rfl, fun x => ⟨fun q => absurd q List.not_mem_nil, fun ⟨f2, q1, q2, _⟩ => ?_⟩⟩
  cases b with
  | true => exact absurd (q2 rfl) (lxe_no ((h.1 rfl).2.2 f2 q1 (fun q => absurd q (by decide))))
  | false => exact absurd (fun q => absurd q (by decide)) (h.2 rfl f2 q1)
theorem CS.step {n : Nat} {T : Nat → Nat → Nat} {L : Nat → Nat → Nat → Nat} {a m : Nat} {b : Bool} {f f' : Nat → Nat} (hc : CS n (fun f => tr n T L a a f n) true f m) (hf : tr n T L a a f n) (h : Tw n T L a a true f b f') : CS n (fun f => tr n T L a a f n) b f' (m + 1) := by
  obtain ⟨l, h1, h2, h3⟩ := hc
  refine ⟨enc f n :: l, List.nodup_cons.mpr ⟨fun q => ?_, h1⟩, by rw [List.length_cons, h2], fun x => ?_⟩
  · obtain ⟨f2, _, q2, q3⟩ := (h3 _).mp q
    exact lx_irr (lx_l (q2 rfl) ((enc_eq n).mp q3))
  · rw [List.mem_cons, h3]
    constructor
    · rintro (q | ⟨f2, q1, q2, q3⟩)
      · exact ⟨f, hf, fun z => (h.1 z).2.1 rfl, q.symm⟩
      · exact ⟨f2, q1, fun z => lx_tr (q2 rfl) ((h.1 z).2.1 rfl), q3⟩
    · rintro ⟨f2, q1, q2, q3⟩
      rcases lx_tot n f2 f with z | z | z
      · exact Or.inr ⟨f2, q1, fun _ => z, q3⟩
      · exact Or.inl (q3.symm.trans ((enc_eq n).mpr z))
      · exfalso
        cases b with
        | true => exact lxe_no ((h.1 rfl).2.2 f2 q1 (fun _ => z)) (q2 rfl)
        | false => exact h.2 rfl f2 q1 (fun _ => z)
set_option maxRecDepth 100000 in
set_option maxHeartbeats 4000000 in
theorem l_X6_symmetries_23 {X : Pk} {Z : Zk} {I : SI} {J : SJ} (hA : AJ Z.2.2.1) (C : Cx X cX6_symmetries 4 RX6 Z 3 160) (hr : (xE X).sig.returnType = some .int) {n : Nat} {T : Nat → Nat → Nat} {L : Nat → Nat → Nat → Nat} {ah : Bool} {nm : Nat → Nat} (hm : MI I n T L ah nm) {a : Nat} (ha : a < 2) {post : Option Value → SI → SJ → Prop} (hpost : ∀ v' I' J', (∃ m, crd n (fun f => tr n T L a a f n) m ∧ mP I J (nI m) n T L ah nm v' I' J') → post v' I' J') : ∀ (k : Nat) (m : Nat) (is : Bool) (f : Nat → Nat) (K : SI), (if is = true then 10 ^ n - hnm f n else 0) < k → (∀ q, q ≠ 31 → q ≠ 32 → K q = I q) → (∀ i, i < 9 → K 32 0 i = -1) → (CS n (fun f => tr n T L a a f n) is f m) → (is = true → (∀ i, i < n → K 31 0 i = nI (f i)) ∧ tr n T L a a f n) → G X 4 Z (QG X Z post) (K) (J) 23 [(0, .ref (Z.2.2.1 27 0)), (1, .int (nI a)), (2, .int (nI m)), (3, .int (bI is))] [] := by
  intro k
  induction k with
  | zero => intro m is f K h; exact absurd h (by omega)
  | succ k ih =>
    intro m is f K hk hK hfx hcs hfi
    have hv := hm.1
    obtain ⟨⟨hn1, hn9⟩, -⟩ := id hv
    refine g_ildn C dX6_symmetries_23 rfl ?_
    refine b_if_eq (tgt := 46) C dX6_symmetries_24 rfl (fun c24 => ?_) (fun c24 => ?_)
    · refine g_ildn C dX6_symmetries_46 rfl ?_
      exact g_ireturn C hr dX6_symmetries_47 (hpost _ _ _ ⟨m, (by rw [c24] at hcs; obtain ⟨l, h1, h2, h3⟩ := hcs; exact ⟨l, h1, h2, fun x => (h3 x).trans ⟨fun ⟨f2, q1, _, q3⟩ => ⟨f2, q1, q3⟩, fun ⟨f2, q1, q3⟩ => ⟨f2, q1, fun q => absurd q (by decide), q3⟩⟩⟩), rfl, rfl, fun q hq => hK q (by omega) (by omega), hm.ss hK⟩)
    · refine g_iinc (lv' := [(2, .int (nI (m + 1))), (0, .ref (Z.2.2.1 27 0)), (1, .int (nI a)), (3, .int (bI is))]) C ((nI (m + 1))) dX6_symmetries_27 rfl (inc1 _) rfl rfl ?_
      refine g_aldn C dX6_symmetries_30 rfl ?_
      refine g_ildn C dX6_symmetries_31 rfl ?_
      refine g_ildn C dX6_symmetries_32 rfl ?_
      refine g_aldn C dX6_symmetries_33 rfl ?_
      refine g_get C 27 0 (by decide) (by decide) u6 rfl 0 rfl fX6_7 rfl rfl dX6_symmetries_34 ?_
      refine g_top (y := (nI n)) (hv.ss hK).2.1 ?_
      refine g_iconst C ((nI 1)) dX6_symmetries_37 (by decide) ?_
      refine g_isub (v := (nI (n - 1))) C dX6_symmetries_38 (pk_sub (by omega)) ?_
      refine g_callV (As := [.int (nI a), .int (nI a), .int (nI (n - 1))]) (st := []) C (c_X6_search (I := K) hA (hv.ss hK) (g := a) (h := a) ha ha (fr := n - 1) (rs := true) (f0 := f) (f := f) (w := f (n - 1) + 1) (CU.last hn1 (hfi c24).2 (fun i hi => Or.inl (hfx i (by omega)))) (fun i hi => (hfi c24).1 i (by omega)) (by rw [(hfi c24).1 (n - 1) (by omega)]; exact nI_add _ _)) wX6_search iX6_search sX6_search mX6_93 27 0 (by decide) (by decide) rfl rfl rfl rfl rfl rfl rfl rfl dX6_symmetries_39 ?_
      rintro v9 I2 J9 ⟨b, F, h91, e2, h93, hb1, hb2⟩
      rw [h91, h93]
      clear h91 h93 v9 J9
      obtain ⟨f4, hf4, htw⟩ := tw_se (fun i x hi => Or.inl (hfx i (by omega))) hb1 hb2
      show G X _ Z _ I2 J 42 [(2, .int (nI (m + 1))), (0, .ref (Z.2.2.1 27 0)), (1, .int (nI a)), (3, .int (bI is))] [.int (bI b)]
      refine g_istn (lv' := [(3, .int (bI b)), (2, .int (nI (m + 1))), (0, .ref (Z.2.2.1 27 0)), (1, .int (nI a))]) C dX6_symmetries_42 rfl rfl ?_
      refine g_goto (tgt := 23) C dX6_symmetries_43 rfl ?_
      refine g_lv [2, 3, 1, 0] rfl ?_
      have hlt := hnm_lt n (fun i hi => by have := ((hfi c24).2 i hi).1; omega : ∀ i, i < n → f i ≤ 9)
      rw [c24, if_pos rfl] at hk
      rw [c24] at hcs
      refine ih (m + 1) b f4 I2 ?_ (fun q z1 z2 => by rw [e2, sK_ne z1, hK q z1 z2]) (fun i hi => by rw [e2, sK_ne (by decide)]; exact hfx i hi) (hcs.step (hfi c24).2 htw) (fun q => ⟨fun i hi => by rw [e2, sK_self]; exact hf4 q i hi, (htw.1 q).1⟩)
      cases b with
      | false => rw [if_neg (by decide)]; omega
      | true =>
        rw [if_pos rfl]
        have h1 := hnm_lx (f := f) (f' := f4) (n := n) (fun i hi => by have := ((hfi c24).2 i hi).1; omega) ((htw.1 rfl).2.1 rfl)
        omega

set_option maxRecDepth 100000 in
set_option maxHeartbeats 4000000 in
/-- symmetries -/
theorem c_X6_symmetries {l : Launch} {Y : Yk} (hA : AJ Y.2.2) {I : SI} {J : SJ} {n : Nat} {T : Nat → Nat → Nat} {L : Nat → Nat → Nat → Nat} {ah : Bool} {nm : Nat → Nat} (hm : MI I n T L ah nm) (g : Int32) : MX l Y yX6_symmetries cX6_symmetries 4 (some .int) 3 160 [.ref (Y.2.2 27 0), .int g] I J (fun v' I' J' => if isG g then ∃ a m, a < 2 ∧ g = nI a ∧ crd n (fun f => tr n T L a a f n) m ∧ mP I J (nI m) n T L ah nm v' I' J' else mP I J (-1) n T L ah nm v' I' J') := by
  refine MX.of hA (by decide) (own := RX6) rfl rfl rfl ?_
  intro X Z hl hY1 hY2 hY3 C hr
  obtain ⟨D0, ca0, ad0⟩ := Y
  dsimp only at hA hY1 hY2 hY3
  subst hY1; subst hY2; subst hY3; subst hl
  show G X 4 Z (QG X Z _) I J 0 [(0, .ref (Z.2.2.1 27 0)), (1, .int g)] []
  have hv := hm.1
  obtain ⟨⟨hn1, hn9⟩, -⟩ := id hv
  refine g_ildn C dX6_symmetries_0 rfl ?_
  refine g_callS (As := [.int g]) (st := []) C (c_X6_isGraph hA g) wX6_isGraph tX6_isGraph mX6_55 rfl rfl rfl rfl dX6_symmetries_1 ?_
  rintro v9 I9 J9 ⟨h91, h92, h93⟩
  rw [h91, h92, h93]
  clear h91 h92 h93 v9 I9 J9
  show G X _ Z _ I J 4 [(0, .ref (Z.2.2.1 27 0)), (1, .int g)] [.int (bI (isG g))]
  refine b_if_ne (tgt := 9) C dX6_symmetries_4 rfl (fun c4 => ?_) (fun c4 => ?_)
  · obtain ⟨a, ha, rfl⟩ := isG_t c4
    refine g_aldn C dX6_symmetries_9 rfl ?_
    refine g_callV (As := []) (st := []) C (c_X6_free hA) wX6_free iX6_free sX6_free mX6_90 27 0 (by decide) (by decide) rfl rfl rfl rfl rfl rfl rfl rfl dX6_symmetries_10 ?_
    rintro v9 I1 J9 ⟨h91, e1, h93⟩
    rw [h91, h93]
    clear h91 h93 v9 J9
    obtain ⟨q1, q2, q3⟩ := fr_q e1
    show G X _ Z _ I1 J 13 [(0, .ref (Z.2.2.1 27 0)), (1, .int (nI a))] []
    refine g_iconst C ((nI 0)) dX6_symmetries_13 (by decide) ?_
    refine g_istn (lv' := [(2, .int (nI 0)), (0, .ref (Z.2.2.1 27 0)), (1, .int (nI a))]) C dX6_symmetries_14 rfl rfl ?_
    refine g_aldn C dX6_symmetries_15 rfl ?_
    refine g_ildn C dX6_symmetries_16 rfl ?_
    refine g_ildn C dX6_symmetries_17 rfl ?_
    refine g_iconst C ((nI 0)) dX6_symmetries_18 (by decide) ?_
    refine g_callV (As := [.int (nI a), .int (nI a), .int (nI 0)]) (st := []) C (c_X6_search hA (hv.ss q1) (g := a) (h := a) ha ha (fr := 0) (rs := false) (f0 := fun i => i) (f := fun i => i) (w := 0) (CU.zero hn1) (fun i hi => absurd hi (Nat.not_lt_zero i)) (by rw [q3]; decide)) wX6_search iX6_search sX6_search mX6_93 27 0 (by decide) (by decide) rfl rfl rfl rfl rfl rfl rfl rfl dX6_symmetries_19 ?_
    rintro v9 I2 J9 ⟨b, F, h91, e2, h93, hb1, hb2⟩
    rw [h91, h93]
    clear h91 h93 v9 J9
    obtain ⟨f4, hf4, htw⟩ := tw_se (fun i x hi => Or.inl (q2 i (by omega))) hb1 hb2
    show G X _ Z _ I2 J 22 [(2, .int (nI 0)), (0, .ref (Z.2.2.1 27 0)), (1, .int (nI a))] [.int (bI b)]
    refine g_istn (lv' := [(3, .int (bI b)), (2, .int (nI 0)), (0, .ref (Z.2.2.1 27 0)), (1, .int (nI a))]) C dX6_symmetries_22 rfl rfl ?_
    refine g_lv [2, 3, 1, 0] rfl ?_
    exact l_X6_symmetries_23 hA C hr hm ha (fun v9 I9 J9 h9 => by rw [if_pos c4]; obtain ⟨m, h1, h2⟩ := h9; exact ⟨a, m, ha, rfl, h1, h2⟩) ((if b = true then 10 ^ n - hnm f4 n else 0) + 1) 0 b f4 I2 (by omega) (fun q z1 z2 => by rw [e2, sK_ne z1, q1 q z1 z2]) (fun i hi => by rw [e2, sK_ne (by decide)]; exact q2 i hi) (CS.zero htw) (fun q => ⟨fun i hi => by rw [e2, sK_self]; exact hf4 q i hi, (htw.1 q).1⟩)
  · refine g_iconst C ((-1)) dX6_symmetries_7 (by decide) ?_
    exact g_ireturn C hr dX6_symmetries_8 (by rw [if_neg (by rw [c4]; decide)]; exact ⟨rfl, rfl, fun _ _ => rfl, hm⟩)

