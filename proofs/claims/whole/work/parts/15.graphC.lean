/-! ===== Graph: empty, become, swap ===== -/
/-- rows 9 g .. 9 g + w - 1 are emptied -/
def flr (F : Nat → Nat → Int32) (g w : Nat) : Nat → Nat → Int32 := fun r => if 9 * g ≤ r ∧ r < 9 * g + w then fl (F r) 9 (nI 0) else F r
theorem flr_0 (F : Nat → Nat → Int32) (g : Nat) : flr F g 0 = F := by
  funext r
  unfold flr
  rw [if_neg (by omega)]
theorem flr_s (F : Nat → Nat → Int32) (g w : Nat) : va_up (flr F g w) (9 * g + w) (fl (flr F g w (9 * g + w)) 9 (nI 0)) = flr F g (w + 1) := by
  funext r
  by_cases h : r = 9 * g + w
  · subst h
    rw [va_up_self]
    unfold flr
    rw [if_neg (by omega), if_pos (by omega)]
  · rw [va_up_ne _ _ h]
    unfold flr
    by_cases h2 : 9 * g ≤ r ∧ r < 9 * g + w
    · rw [if_pos h2, if_pos (by omega)]
    · rw [if_neg h2, if_neg (by omega)]
/-- rows 9 g .. 9 g + w - 1 become those of h -/
def cpr (F : Nat → Nat → Int32) (h g w : Nat) : Nat → Nat → Int32 := fun r => if 9 * g ≤ r ∧ r < 9 * g + w then va_cpy (F (9 * h + (r - 9 * g))) (F r) 0 0 9 else F r
theorem cpr_0 (F : Nat → Nat → Int32) (h g : Nat) : cpr F h g 0 = F := by
  funext r
  unfold cpr
  rw [if_neg (by omega)]
theorem cpr_s (F : Nat → Nat → Int32) {h g w : Nat} (hne : h ≠ g) (hw : w < 9) : va_up (cpr F h g w) (9 * g + w) (va_cpy (cpr F h g w (9 * h + w)) (cpr F h g w (9 * g + w)) 0 0 9) = cpr F h g (w + 1) := by
  have e : cpr F h g w (9 * h + w) = F (9 * h + w) := by unfold cpr; rw [if_neg (by omega)]
  have e2 : cpr F h g w (9 * g + w) = F (9 * g + w) := by unfold cpr; rw [if_neg (by omega)]
  rw [e, e2]
  funext r
  by_cases h1 : r = 9 * g + w
  · subst h1
    rw [va_up_self]
    unfold cpr
    rw [if_pos (by omega), show 9 * h + (9 * g + w - 9 * g) = 9 * h + w by omega]
  · rw [va_up_ne _ _ h1]
    unfold cpr
    by_cases h2 : 9 * g ≤ r ∧ r < 9 * g + w
    · rw [if_pos h2, if_pos (by omega)]
    · rw [if_neg h2, if_neg (by omega)]
/-- rows a and b are exchanged in their first w places -/
def sw1 (F : Nat → Nat → Int32) (a b w : Nat) : Nat → Nat → Int32 := fun r y => if y < w then F (if r = a then b else if r = b then a else r) y else F r y
theorem sw1_0 (F : Nat → Nat → Int32) (a b : Nat) : sw1 F a b 0 = F := rfl
theorem sw1_s (F : Nat → Nat → Int32) (a b w : Nat) : up2 (up2 (sw1 F a b w) a w (sw1 F a b w b w)) b w (sw1 F a b w a w) = sw1 F a b (w + 1) := by
  funext r y
  rw [up2_at, up2_at]
  unfold sw1
  rw [if_neg (Nat.lt_irrefl w), if_neg (Nat.lt_irrefl w)]
  by_cases hy : y = w
  · subst hy
    rw [if_pos (Nat.lt_succ_self y), if_neg (Nat.lt_irrefl y)]
    by_cases h1 : r = a
    · subst h1
      by_cases h2 : r = b
      · subst h2; simp
      · simp [h2]
    · by_cases h2 : r = b
      · subst h2; simp [h1]
      · simp [h1, h2]
  · rw [if_neg (fun q => hy q.2), if_neg (fun q => hy q.2)]
    by_cases h : y < w
    · rw [if_pos h, if_pos (show y < w + 1 by omega)]
    · rw [if_neg h, if_neg (show ¬ y < w + 1 by omega)]
/-- places u and v are exchanged in rows 9 g .. 9 g + w - 1 -/
def sw2 (F : Nat → Nat → Int32) (g u v w : Nat) : Nat → Nat → Int32 := fun r y => if 9 * g ≤ r ∧ r < 9 * g + w then F r (if y = u then v else if y = v then u else y) else F r y
theorem sw2_0 (F : Nat → Nat → Int32) (g u v : Nat) : sw2 F g u v 0 = F := by
  funext r y
  unfold sw2
  rw [if_neg (by omega)]
theorem sw2_s (F : Nat → Nat → Int32) (g u v w : Nat) : up2 (up2 (sw2 F g u v w) (9 * g + w) u (sw2 F g u v w (9 * g + w) v)) (9 * g + w) v (sw2 F g u v w (9 * g + w) u) = sw2 F g u v (w + 1) := by
  funext r y
  rw [up2_at, up2_at]
  unfold sw2
  rw [if_neg (show ¬ (9 * g ≤ 9 * g + w ∧ 9 * g + w < 9 * g + w) by omega), if_neg (show ¬ (9 * g ≤ 9 * g + w ∧ 9 * g + w < 9 * g + w) by omega)]
  by_cases hr : r = 9 * g + w
  · subst hr
    rw [if_pos (show 9 * g ≤ 9 * g + w ∧ 9 * g + w < 9 * g + (w + 1) by omega), if_neg (show ¬ (9 * g ≤ 9 * g + w ∧ 9 * g + w < 9 * g + w) by omega)]
    by_cases h1 : y = u
    · subst h1
      by_cases h2 : y = v
      · subst h2; simp
      · simp [h2]
    · by_cases h2 : y = v
      · subst h2; simp [h1]
      · simp [h1, h2]
  · rw [if_neg (fun q => hr q.1), if_neg (fun q => hr q.1)]
    by_cases h : 9 * g ≤ r ∧ r < 9 * g + w
    · rw [if_pos h, if_pos (show 9 * g ≤ r ∧ r < 9 * g + (w + 1) by omega)]
    · rw [if_neg h, if_neg (show ¬ (9 * g ≤ r ∧ r < 9 * g + (w + 1)) by omega)]
set_option maxRecDepth 100000 in
set_option maxHeartbeats 4000000 in
theorem l_X1_empty_15 {X : Pk} {Z : Zk} {I : SI} {J : SJ} (hA : AJ Z.2.2.1) (C : Cx X cX1_empty 3 RX1 Z 1 40) (hr : (xE X).sig.returnType = none) {g m : Nat} (hg : g < 2) : ∀ k w, 9 - w < k → w ≤ 9 → G X 3 Z (QG X Z (fun v' I' J' => v' = none ∧ I' = sK (sK (sK I 2 (up2 (I 2) g 0 (nI m))) 3 (va_up (I 3) g (fl (I 3 g) 9 (nI 0)))) 5 (flr (I 5) g 9) ∧ J' = J)) (sK (sK (sK I 2 (up2 (I 2) g 0 (nI m))) 3 (va_up (I 3) g (fl (I 3 g) 9 (nI 0)))) 5 (flr (I 5) g w)) J 15 [(0, .ref (Z.2.2.1 2 g)), (1, .int (nI m)), (2, .int (nI w))] [] := by
  intro k
  induction k with
  | zero => intro v h; exact absurd h (by omega)
  | succ k ih =>
    intro w hk hw
    refine g_ildn C dX1_empty_15 rfl ?_
    refine g_bipush C ((nI 9)) dX1_empty_16 (by decide) ?_
    refine n_icmp_ge (tgt := 37) C dX1_empty_18 rfl (by omega) (by omega) (fun c_1 => ?_) (fun c_1 => ?_)
    · exact g_return C hr dX1_empty_37 ⟨rfl, by rw [show w = 9 by omega], rfl⟩
    · refine g_aldn C dX1_empty_21 rfl ?_
      refine g_get C 2 g (by decide) (show g < 2 by omega) u1 rfl 2 rfl fX1_21 rfl rfl dX1_empty_22 ?_
      refine g_ildn C dX1_empty_25 rfl ?_
      refine g_aald C 4 g 3 (by decide) (show g < 2 by omega) (fun _ _ => rfl) rfl rfl w (show w < 9 by omega) rfl dX1_empty_26 ?_
      refine g_iconst C ((nI 0)) dX1_empty_27 (by decide) ?_
      refine g_callS (As := [.ref (Z.2.2.1 5 (9 * g + w)), .int (nI 0)]) (st := []) C (c_fillI hA (k := 5) (r := 9 * g + w) (n := 9) (by decide) (show 9 * g + w < 18 by omega) (fun _ _ => rfl) (by decide)) wJ7_fill_53178 tJ7_fill_53178 mX1_34 rfl rfl rfl rfl dX1_empty_28 ?_
      rintro v9 I9 J9 ⟨h91, h92, h93⟩
      rw [h91, h92, h93, sK_self, sK_sK, flr_s]
      clear h91 h92 h93 v9 I9 J9
      show G X _ Z _ (sK (sK (sK I 2 (up2 (I 2) g 0 (nI m))) 3 (va_up (I 3) g (fl (I 3 g) 9 (nI 0)))) 5 (flr (I 5) g (w + 1))) J 31 [(0, .ref (Z.2.2.1 2 g)), (1, .int (nI m)), (2, .int (nI w))] []
      refine g_iinc (lv' := [(2, .int (nI (w + 1))), (0, .ref (Z.2.2.1 2 g)), (1, .int (nI m))]) C ((nI (w + 1))) dX1_empty_31 rfl (inc1 _) rfl rfl ?_
      refine g_goto (tgt := 15) C dX1_empty_34 rfl ?_
      refine g_lv [1, 2, 0] rfl ?_
      exact ih (w + 1) (by omega) (by omega)

set_option maxRecDepth 100000 in
set_option maxHeartbeats 4000000 in
/-- empty -/
theorem c_X1_empty {l : Launch} {Y : Yk} (hA : AJ Y.2.2) {I : SI} {J : SJ} {g m : Nat} (hg : g < 2) : MX l Y yX1_empty cX1_empty 3 (none) 1 40 [.ref (Y.2.2 2 g), .int (nI m)] I J (fun v' I' J' => v' = none ∧ I' = sK (sK (sK I 2 (up2 (I 2) g 0 (nI m))) 3 (va_up (I 3) g (fl (I 3 g) 9 (nI 0)))) 5 (flr (I 5) g 9) ∧ J' = J) := by
  refine MX.of hA (by decide) (own := RX1) rfl rfl rfl ?_
  intro X Z hl hY1 hY2 hY3 C hr
  obtain ⟨D0, ca0, ad0⟩ := Y
  dsimp only at hA hY1 hY2 hY3
  subst hY1; subst hY2; subst hY3; subst hl
  show G X 3 Z (QG X Z _) I J 0 [(0, .ref (Z.2.2.1 2 g)), (1, .int (nI m))] []
  refine g_aldn C dX1_empty_0 rfl ?_
  refine g_ildn C dX1_empty_1 rfl ?_
  refine g_put C 2 g (by decide) (show g < 2 by omega) tyX1 tyX1_ok nmX1 u1 rfl 0 rfl fX1_9 rfl (fun _ _ => rfl) (by simp [va_up]) rfl rfl rfl dX1_empty_2 ?_
  refine g_I (I1 := sK I 2 (up2 (I 2) g 0 (nI m))) rfl ?_
  refine g_aldn C dX1_empty_5 rfl ?_
  refine g_get C 2 g (by decide) (show g < 2 by omega) u1 rfl 1 rfl fX1_15 rfl rfl dX1_empty_6 ?_
  refine g_iconst C ((nI 0)) dX1_empty_9 (by decide) ?_
  refine g_callS (As := [.ref (Z.2.2.1 3 g), .int (nI 0)]) (st := []) C (c_fillI hA (k := 3) (r := g) (n := 9) (by decide) (show g < 2 by omega) (fun _ _ => rfl) (by decide)) wJ7_fill_53178 tJ7_fill_53178 mX1_34 rfl rfl rfl rfl dX1_empty_10 ?_
  rintro v9 I9 J9 ⟨h91, h92, h93⟩
  rw [h91, h92, h93]
  clear h91 h92 h93 v9 I9 J9
  show G X _ Z _ (sK (sK I 2 (up2 (I 2) g 0 (nI m))) 3 (va_up (I 3) g (fl (I 3 g) 9 (nI 0)))) J 13 [(0, .ref (Z.2.2.1 2 g)), (1, .int (nI m))] []
  refine g_iconst C ((nI 0)) dX1_empty_13 (by decide) ?_
  refine g_istn (lv' := [(2, .int (nI 0)), (0, .ref (Z.2.2.1 2 g)), (1, .int (nI m))]) C dX1_empty_14 rfl rfl ?_
  refine g_lv [1, 2, 0] rfl ?_
  refine g_I (I1 := sK (sK (sK I 2 (up2 (I 2) g 0 (nI m))) 3 (va_up (I 3) g (fl (I 3 g) 9 (nI 0)))) 5 (flr (I 5) g 0)) (by rw [flr_0]; exact (sK_id _ 5).symm) ?_
  exact l_X1_empty_15 hA C hr hg 10 0 (by omega) (by omega)

set_option maxRecDepth 100000 in
set_option maxHeartbeats 4000000 in
theorem l_X1_become_17 {X : Pk} {Z : Zk} {I : SI} {J : SJ} (C : Cx X cX1_become 3 RX1 Z 1 40) (hr : (xE X).sig.returnType = none) {g h : Nat} (hg : g < 2) (hh : h < 2) (hne : h ≠ g) : ∀ k w, 9 - w < k → w ≤ 9 → G X 3 Z (QG X Z (fun v' I' J' => v' = none ∧ I' = sK (sK I 3 (va_up (I 3) g (va_cpy (I 3 h) (I 3 g) 0 0 9))) 5 (cpr (I 5) h g 9) ∧ J' = J)) (sK (sK I 3 (va_up (I 3) g (va_cpy (I 3 h) (I 3 g) 0 0 9))) 5 (cpr (I 5) h g w)) J 17 [(0, .ref (Z.2.2.1 2 g)), (1, .ref (Z.2.2.1 2 h)), (2, .int (nI w))] [] := by
  intro k
  induction k with
  | zero => intro v h; exact absurd h (by omega)
  | succ k ih =>
    intro w hk hw
    refine g_ildn C dX1_become_17 rfl ?_
    refine g_bipush C ((nI 9)) dX1_become_18 (by decide) ?_
    refine n_icmp_ge (tgt := 48) C dX1_become_20 rfl (by omega) (by omega) (fun c_1 => ?_) (fun c_1 => ?_)
    · exact g_return C hr dX1_become_48 ⟨rfl, by rw [show w = 9 by omega], rfl⟩
    · refine g_aldn C dX1_become_23 rfl ?_
      refine g_get C 2 h (by decide) (show h < 2 by omega) u1 rfl 2 rfl fX1_21 rfl rfl dX1_become_24 ?_
      refine g_ildn C dX1_become_27 rfl ?_
      refine g_aald C 4 h 3 (by decide) (show h < 2 by omega) (fun _ _ => rfl) rfl rfl w (show w < 9 by omega) rfl dX1_become_28 ?_
      refine g_iconst C ((nI 0)) dX1_become_29 (by decide) ?_
      refine g_aldn C dX1_become_30 rfl ?_
      refine g_get C 2 g (by decide) (show g < 2 by omega) u1 rfl 2 rfl fX1_21 rfl rfl dX1_become_31 ?_
      refine g_ildn C dX1_become_34 rfl ?_
      refine g_aald C 4 g 3 (by decide) (show g < 2 by omega) (fun _ _ => rfl) rfl rfl w (show w < 9 by omega) rfl dX1_become_35 ?_
      refine g_iconst C ((nI 0)) dX1_become_36 (by decide) ?_
      refine g_bipush C ((nI 9)) dX1_become_37 (by decide) ?_
      refine g_copyi C mX1_40 5 (9 * h + w) 5 (9 * g + w) (by decide) (show 9 * h + w < 18 by omega) (by decide) (show 9 * g + w < 18 by omega) (fun _ _ => rfl) (fun _ _ => rfl) 0 0 9 (by decide) (by decide) rfl rfl rfl rfl dX1_become_39 ?_
      refine g_I (I1 := sK (sK I 3 (va_up (I 3) g (va_cpy (I 3 h) (I 3 g) 0 0 9))) 5 (cpr (I 5) h g (w + 1))) (by rw [sK_self, sK_sK, cpr_s _ hne (by omega)]) ?_
      refine g_iinc (lv' := [(2, .int (nI (w + 1))), (0, .ref (Z.2.2.1 2 g)), (1, .ref (Z.2.2.1 2 h))]) C ((nI (w + 1))) dX1_become_42 rfl (inc1 _) rfl rfl ?_
      refine g_goto (tgt := 17) C dX1_become_45 rfl ?_
      refine g_lv [1, 2, 0] rfl ?_
      exact ih (w + 1) (by omega) (by omega)

set_option maxRecDepth 100000 in
set_option maxHeartbeats 4000000 in
/-- become -/
theorem c_X1_become {l : Launch} {Y : Yk} (hA : AJ Y.2.2) {I : SI} {J : SJ} {g h : Nat} (hg : g < 2) (hh : h < 2) (hne : h ≠ g) : MX l Y yX1_become cX1_become 3 (none) 1 40 [.ref (Y.2.2 2 g), .ref (Y.2.2 2 h)] I J (fun v' I' J' => v' = none ∧ I' = sK (sK I 3 (va_up (I 3) g (va_cpy (I 3 h) (I 3 g) 0 0 9))) 5 (cpr (I 5) h g 9) ∧ J' = J) := by
  refine MX.of hA (by decide) (own := RX1) rfl rfl rfl ?_
  intro X Z hl hY1 hY2 hY3 C hr
  obtain ⟨D0, ca0, ad0⟩ := Y
  dsimp only at hA hY1 hY2 hY3
  subst hY1; subst hY2; subst hY3; subst hl
  show G X 3 Z (QG X Z _) I J 0 [(0, .ref (Z.2.2.1 2 g)), (1, .ref (Z.2.2.1 2 h))] []
  refine g_aldn C dX1_become_0 rfl ?_
  refine g_get C 2 h (by decide) (show h < 2 by omega) u1 rfl 1 rfl fX1_15 rfl rfl dX1_become_1 ?_
  refine g_iconst C ((nI 0)) dX1_become_4 (by decide) ?_
  refine g_aldn C dX1_become_5 rfl ?_
  refine g_get C 2 g (by decide) (show g < 2 by omega) u1 rfl 1 rfl fX1_15 rfl rfl dX1_become_6 ?_
  refine g_iconst C ((nI 0)) dX1_become_9 (by decide) ?_
  refine g_bipush C ((nI 9)) dX1_become_10 (by decide) ?_
  refine g_copyi C mX1_40 3 h 3 g (by decide) (show h < 2 by omega) (by decide) (show g < 2 by omega) (fun _ _ => rfl) (fun _ _ => rfl) 0 0 9 (by decide) (by decide) rfl rfl rfl rfl dX1_become_12 ?_
  refine g_I (I1 := sK I 3 (va_up (I 3) g (va_cpy (I 3 h) (I 3 g) 0 0 9))) rfl ?_
  refine g_iconst C ((nI 0)) dX1_become_15 (by decide) ?_
  refine g_istn (lv' := [(2, .int (nI 0)), (0, .ref (Z.2.2.1 2 g)), (1, .ref (Z.2.2.1 2 h))]) C dX1_become_16 rfl rfl ?_
  refine g_lv [1, 2, 0] rfl ?_
  refine g_I (I1 := sK (sK I 3 (va_up (I 3) g (va_cpy (I 3 h) (I 3 g) 0 0 9))) 5 (cpr (I 5) h g 0)) (by rw [cpr_0]; exact (sK_id _ 5).symm) ?_
  exact l_X1_become_17 C hr hg hh hne 10 0 (by omega) (by omega)

set_option maxRecDepth 100000 in
set_option maxHeartbeats 4000000 in
theorem l_X1_swap_29 {X : Pk} {Z : Zk} {fr lo : Nat} {Q : State → Prop} {I : SI} {J : SJ} (C : Cx X cX1_swap 6 RX1 Z fr lo) {n : Nat} (hn : n ≤ 9) {g u v : Nat} (hg : g < 2) (hsz : I 2 g 0 = nI n) (hu : u < n) (hw : v < n) {t : Int32} (hex : G X 6 Z Q (sK (sK I 3 (up2 (up2 (I 3) g u (I 3 g v)) g v (I 3 g u))) 5 (sw1 (I 5) (9 * g + u) (9 * g + v) n)) J 84 [(0, .ref (Z.2.2.1 2 g)), (1, .int (nI u)), (2, .int (nI v)), (3, .int t), (4, .int (nI n))] []) : ∀ k w, n - w < k → w ≤ n → G X 6 Z Q (sK (sK I 3 (up2 (up2 (I 3) g u (I 3 g v)) g v (I 3 g u))) 5 (sw1 (I 5) (9 * g + u) (9 * g + v) w)) J 29 [(0, .ref (Z.2.2.1 2 g)), (1, .int (nI u)), (2, .int (nI v)), (3, .int t), (4, .int (nI w))] [] := by
  intro k
  induction k with
  | zero => intro v h; exact absurd h (by omega)
  | succ k ih =>
    intro w hk hwn
    refine g_ild C dX1_swap_29 rfl ?_
    refine g_aldn C dX1_swap_31 rfl ?_
    refine g_get C 2 g (by decide) (show g < 2 by omega) u1 rfl 0 rfl fX1_9 rfl rfl dX1_swap_32 ?_
    refine g_top (y := (nI n)) hsz ?_
    refine n_icmp_ge (tgt := 84) C dX1_swap_35 rfl (by omega) (by omega) (fun c_1 => ?_) (fun c_1 => ?_)
    · have e : w = n := by omega
      subst e
      refine g_lv [0, 1, 2, 3, 4] rfl ?_
      exact hex
    · refine g_aldn C dX1_swap_38 rfl ?_
      refine g_get C 2 g (by decide) (show g < 2 by omega) u1 rfl 2 rfl fX1_21 rfl rfl dX1_swap_39 ?_
      refine g_ildn C dX1_swap_42 rfl ?_
      refine g_aald C 4 g 3 (by decide) (show g < 2 by omega) (fun _ _ => rfl) rfl rfl u (show u < 9 by omega) rfl dX1_swap_43 ?_
      refine g_ild C dX1_swap_44 rfl ?_
      refine g_iald C 5 (9 * g + u) (by decide) (show 9 * g + u < 18 by omega) (fun _ _ => rfl) w (show w < 9 by omega) rfl dX1_swap_46 (v := ((sw1 (I 5) (9 * g + u) (9 * g + v) w) (9 * g + u) w)) rfl ?_
      refine g_ist (lv' := [(5, .int ((sw1 (I 5) (9 * g + u) (9 * g + v) w) (9 * g + u) w)), (0, .ref (Z.2.2.1 2 g)), (1, .int (nI u)), (2, .int (nI v)), (3, .int t), (4, .int (nI w))]) C dX1_swap_47 rfl rfl ?_
      refine g_aldn C dX1_swap_49 rfl ?_
      refine g_get C 2 g (by decide) (show g < 2 by omega) u1 rfl 2 rfl fX1_21 rfl rfl dX1_swap_50 ?_
      refine g_ildn C dX1_swap_53 rfl ?_
      refine g_aald C 4 g 3 (by decide) (show g < 2 by omega) (fun _ _ => rfl) rfl rfl u (show u < 9 by omega) rfl dX1_swap_54 ?_
      refine g_ild C dX1_swap_55 rfl ?_
      refine g_aldn C dX1_swap_57 rfl ?_
      refine g_get C 2 g (by decide) (show g < 2 by omega) u1 rfl 2 rfl fX1_21 rfl rfl dX1_swap_58 ?_
      refine g_ildn C dX1_swap_61 rfl ?_
      refine g_aald C 4 g 3 (by decide) (show g < 2 by omega) (fun _ _ => rfl) rfl rfl v (show v < 9 by omega) rfl dX1_swap_62 ?_
      refine g_ild C dX1_swap_63 rfl ?_
      refine g_iald C 5 (9 * g + v) (by decide) (show 9 * g + v < 18 by omega) (fun _ _ => rfl) w (show w < 9 by omega) rfl dX1_swap_65 (v := ((sw1 (I 5) (9 * g + u) (9 * g + v) w) (9 * g + v) w)) rfl ?_
      refine g_iast C 5 (9 * g + u) (by decide) (show 9 * g + u < 18 by omega) (fun _ _ => rfl) w (show w < 9 by omega) rfl dX1_swap_66 ?_
      refine g_I (I1 := sK (sK I 3 (up2 (up2 (I 3) g u (I 3 g v)) g v (I 3 g u))) 5 (up2 (sw1 (I 5) (9 * g + u) (9 * g + v) w) (9 * g + u) w (((sw1 (I 5) (9 * g + u) (9 * g + v) w) (9 * g + v) w)))) (by rw [sK_self, sK_sK]) ?_
      refine g_aldn C dX1_swap_67 rfl ?_
      refine g_get C 2 g (by decide) (show g < 2 by omega) u1 rfl 2 rfl fX1_21 rfl rfl dX1_swap_68 ?_
      refine g_ildn C dX1_swap_71 rfl ?_
      refine g_aald C 4 g 3 (by decide) (show g < 2 by omega) (fun _ _ => rfl) rfl rfl v (show v < 9 by omega) rfl dX1_swap_72 ?_
      refine g_ild C dX1_swap_73 rfl ?_
      refine g_ild C dX1_swap_75 rfl ?_
      refine g_iast C 5 (9 * g + v) (by decide) (show 9 * g + v < 18 by omega) (fun _ _ => rfl) w (show w < 9 by omega) rfl dX1_swap_77 ?_
      refine g_I (I1 := sK (sK I 3 (up2 (up2 (I 3) g u (I 3 g v)) g v (I 3 g u))) 5 (up2 (up2 (sw1 (I 5) (9 * g + u) (9 * g + v) w) (9 * g + u) w (((sw1 (I 5) (9 * g + u) (9 * g + v) w) (9 * g + v) w))) (9 * g + v) w (((sw1 (I 5) (9 * g + u) (9 * g + v) w) (9 * g + u) w)))) (by rw [sK_self, sK_sK]) ?_
      refine g_iinc (lv' := [(4, .int (nI (w + 1))), (5, .int ((sw1 (I 5) (9 * g + u) (9 * g + v) w) (9 * g + u) w)), (0, .ref (Z.2.2.1 2 g)), (1, .int (nI u)), (2, .int (nI v)), (3, .int t)]) C ((nI (w + 1))) dX1_swap_78 rfl (inc1 _) rfl rfl ?_
      refine g_goto (tgt := 29) C dX1_swap_81 rfl ?_
      refine g_lv [2, 3, 4, 5, 0] rfl ?_
      refine g_I (I1 := sK (sK I 3 (up2 (up2 (I 3) g u (I 3 g v)) g v (I 3 g u))) 5 (sw1 (I 5) (9 * g + u) (9 * g + v) (w + 1))) (by rw [← sw1_s]) ?_
      exact ih (w + 1) (by omega) (by omega)

set_option maxRecDepth 100000 in
set_option maxHeartbeats 4000000 in
theorem l_X1_swap_87 {X : Pk} {Z : Zk} {fr lo : Nat} {I : SI} {J : SJ} (hr : (xE X).sig.returnType = none) (C : Cx X cX1_swap 6 RX1 Z fr lo) {n : Nat} (hn : n ≤ 9) {g u v : Nat} (hg : g < 2) (hsz : I 2 g 0 = nI n) (hu : u < n) (hw : v < n) {t : Int32} : ∀ k w, n - w < k → w ≤ n → G X 6 Z (QG X Z (fun v' I' J' => v' = none ∧ I' = sK (sK I 3 (up2 (up2 (I 3) g u (I 3 g v)) g v (I 3 g u))) 5 (sw2 (sw1 (I 5) (9 * g + u) (9 * g + v) n) g u v n) ∧ J' = J)) (sK (sK I 3 (up2 (up2 (I 3) g u (I 3 g v)) g v (I 3 g u))) 5 (sw2 (sw1 (I 5) (9 * g + u) (9 * g + v) n) g u v w)) J 87 [(0, .ref (Z.2.2.1 2 g)), (1, .int (nI u)), (2, .int (nI v)), (3, .int t), (4, .int (nI w))] [] := by
  intro k
  induction k with
  | zero => intro v h; exact absurd h (by omega)
  | succ k ih =>
    intro w hk hwn
    refine g_ild C dX1_swap_87 rfl ?_
    refine g_aldn C dX1_swap_89 rfl ?_
    refine g_get C 2 g (by decide) (show g < 2 by omega) u1 rfl 0 rfl fX1_9 rfl rfl dX1_swap_90 ?_
    refine g_top (y := (nI n)) hsz ?_
    refine n_icmp_ge (tgt := 142) C dX1_swap_93 rfl (by omega) (by omega) (fun c_1 => ?_) (fun c_1 => ?_)
    · exact g_return C hr dX1_swap_142 ⟨rfl, by rw [show w = n by omega], rfl⟩
    · refine g_aldn C dX1_swap_96 rfl ?_
      refine g_get C 2 g (by decide) (show g < 2 by omega) u1 rfl 2 rfl fX1_21 rfl rfl dX1_swap_97 ?_
      refine g_ild C dX1_swap_100 rfl ?_
      refine g_aald C 4 g 3 (by decide) (show g < 2 by omega) (fun _ _ => rfl) rfl rfl w (show w < 9 by omega) rfl dX1_swap_102 ?_
      refine g_ildn C dX1_swap_103 rfl ?_
      refine g_iald C 5 (9 * g + w) (by decide) (show 9 * g + w < 18 by omega) (fun _ _ => rfl) u (show u < 9 by omega) rfl dX1_swap_104 (v := ((sw2 (sw1 (I 5) (9 * g + u) (9 * g + v) n) g u v w) (9 * g + w) u)) rfl ?_
      refine g_ist (lv' := [(5, .int ((sw2 (sw1 (I 5) (9 * g + u) (9 * g + v) n) g u v w) (9 * g + w) u)), (0, .ref (Z.2.2.1 2 g)), (1, .int (nI u)), (2, .int (nI v)), (3, .int t), (4, .int (nI w))]) C dX1_swap_105 rfl rfl ?_
      refine g_aldn C dX1_swap_107 rfl ?_
      refine g_get C 2 g (by decide) (show g < 2 by omega) u1 rfl 2 rfl fX1_21 rfl rfl dX1_swap_108 ?_
      refine g_ild C dX1_swap_111 rfl ?_
      refine g_aald C 4 g 3 (by decide) (show g < 2 by omega) (fun _ _ => rfl) rfl rfl w (show w < 9 by omega) rfl dX1_swap_113 ?_
      refine g_ildn C dX1_swap_114 rfl ?_
      refine g_aldn C dX1_swap_115 rfl ?_
      refine g_get C 2 g (by decide) (show g < 2 by omega) u1 rfl 2 rfl fX1_21 rfl rfl dX1_swap_116 ?_
      refine g_ild C dX1_swap_119 rfl ?_
      refine g_aald C 4 g 3 (by decide) (show g < 2 by omega) (fun _ _ => rfl) rfl rfl w (show w < 9 by omega) rfl dX1_swap_121 ?_
      refine g_ildn C dX1_swap_122 rfl ?_
      refine g_iald C 5 (9 * g + w) (by decide) (show 9 * g + w < 18 by omega) (fun _ _ => rfl) v (show v < 9 by omega) rfl dX1_swap_123 (v := ((sw2 (sw1 (I 5) (9 * g + u) (9 * g + v) n) g u v w) (9 * g + w) v)) rfl ?_
      refine g_iast C 5 (9 * g + w) (by decide) (show 9 * g + w < 18 by omega) (fun _ _ => rfl) u (show u < 9 by omega) rfl dX1_swap_124 ?_
      refine g_I (I1 := sK (sK I 3 (up2 (up2 (I 3) g u (I 3 g v)) g v (I 3 g u))) 5 (up2 (sw2 (sw1 (I 5) (9 * g + u) (9 * g + v) n) g u v w) (9 * g + w) u (((sw2 (sw1 (I 5) (9 * g + u) (9 * g + v) n) g u v w) (9 * g + w) v)))) (by rw [sK_self, sK_sK]) ?_
      refine g_aldn C dX1_swap_125 rfl ?_
      refine g_get C 2 g (by decide) (show g < 2 by omega) u1 rfl 2 rfl fX1_21 rfl rfl dX1_swap_126 ?_
      refine g_ild C dX1_swap_129 rfl ?_
      refine g_aald C 4 g 3 (by decide) (show g < 2 by omega) (fun _ _ => rfl) rfl rfl w (show w < 9 by omega) rfl dX1_swap_131 ?_
      refine g_ildn C dX1_swap_132 rfl ?_
      refine g_ild C dX1_swap_133 rfl ?_
      refine g_iast C 5 (9 * g + w) (by decide) (show 9 * g + w < 18 by omega) (fun _ _ => rfl) v (show v < 9 by omega) rfl dX1_swap_135 ?_
      refine g_I (I1 := sK (sK I 3 (up2 (up2 (I 3) g u (I 3 g v)) g v (I 3 g u))) 5 (up2 (up2 (sw2 (sw1 (I 5) (9 * g + u) (9 * g + v) n) g u v w) (9 * g + w) u (((sw2 (sw1 (I 5) (9 * g + u) (9 * g + v) n) g u v w) (9 * g + w) v))) (9 * g + w) v (((sw2 (sw1 (I 5) (9 * g + u) (9 * g + v) n) g u v w) (9 * g + w) u)))) (by rw [sK_self, sK_sK]) ?_
      refine g_iinc (lv' := [(4, .int (nI (w + 1))), (5, .int ((sw2 (sw1 (I 5) (9 * g + u) (9 * g + v) n) g u v w) (9 * g + w) u)), (0, .ref (Z.2.2.1 2 g)), (1, .int (nI u)), (2, .int (nI v)), (3, .int t)]) C ((nI (w + 1))) dX1_swap_136 rfl (inc1 _) rfl rfl ?_
      refine g_goto (tgt := 87) C dX1_swap_139 rfl ?_
      refine g_lv [2, 3, 4, 5, 0] rfl ?_
      refine g_I (I1 := sK (sK I 3 (up2 (up2 (I 3) g u (I 3 g v)) g v (I 3 g u))) 5 (sw2 (sw1 (I 5) (9 * g + u) (9 * g + v) n) g u v (w + 1))) (by rw [← sw2_s]) ?_
      exact ih (w + 1) (by omega) (by omega)

set_option maxRecDepth 100000 in
set_option maxHeartbeats 4000000 in
/-- swap -/
theorem c_X1_swap {l : Launch} {Y : Yk} (hA : AJ Y.2.2) {I : SI} {J : SJ} {n : Nat} (hn : n ≤ 9) {g u v : Nat} (hg : g < 2) (hsz : I 2 g 0 = nI n) (hu : u < n) (hw : v < n) : MX l Y yX1_swap cX1_swap 6 (none) 0 0 [.ref (Y.2.2 2 g), .int (nI u), .int (nI v)] I J (fun v' I' J' => v' = none ∧ I' = sK (sK I 3 (up2 (up2 (I 3) g u (I 3 g v)) g v (I 3 g u))) 5 (sw2 (sw1 (I 5) (9 * g + u) (9 * g + v) n) g u v n) ∧ J' = J) := by
  refine MX.of hA (by decide) (own := RX1) rfl rfl rfl ?_
  intro X Z hl hY1 hY2 hY3 C hr
  obtain ⟨D0, ca0, ad0⟩ := Y
  dsimp only at hA hY1 hY2 hY3
  subst hY1; subst hY2; subst hY3; subst hl
  show G X 6 Z (QG X Z _) I J 0 [(0, .ref (Z.2.2.1 2 g)), (1, .int (nI u)), (2, .int (nI v))] []
  refine g_aldn C dX1_swap_0 rfl ?_
  refine g_get C 2 g (by decide) (show g < 2 by omega) u1 rfl 1 rfl fX1_15 rfl rfl dX1_swap_1 ?_
  refine g_ildn C dX1_swap_4 rfl ?_
  refine g_iald C 3 g (by decide) (show g < 2 by omega) (fun _ _ => rfl) u (show u < 9 by omega) rfl dX1_swap_5 (v := (I 3 g u)) rfl ?_
  refine g_istn (lv' := [(3, .int (I 3 g u)), (0, .ref (Z.2.2.1 2 g)), (1, .int (nI u)), (2, .int (nI v))]) C dX1_swap_6 rfl rfl ?_
  refine g_aldn C dX1_swap_7 rfl ?_
  refine g_get C 2 g (by decide) (show g < 2 by omega) u1 rfl 1 rfl fX1_15 rfl rfl dX1_swap_8 ?_
  refine g_ildn C dX1_swap_11 rfl ?_
  refine g_aldn C dX1_swap_12 rfl ?_
  refine g_get C 2 g (by decide) (show g < 2 by omega) u1 rfl 1 rfl fX1_15 rfl rfl dX1_swap_13 ?_
  refine g_ildn C dX1_swap_16 rfl ?_
  refine g_iald C 3 g (by decide) (show g < 2 by omega) (fun _ _ => rfl) v (show v < 9 by omega) rfl dX1_swap_17 (v := (I 3 g v)) rfl ?_
  refine g_iast C 3 g (by decide) (show g < 2 by omega) (fun _ _ => rfl) u (show u < 9 by omega) rfl dX1_swap_18 ?_
  refine g_I (I1 := sK I 3 (up2 (I 3) g u ((I 3 g v)))) (by first | rfl | rw [sK_self, sK_sK]) ?_
  refine g_aldn C dX1_swap_19 rfl ?_
  refine g_get C 2 g (by decide) (show g < 2 by omega) u1 rfl 1 rfl fX1_15 rfl rfl dX1_swap_20 ?_
  refine g_ildn C dX1_swap_23 rfl ?_
  refine g_ildn C dX1_swap_24 rfl ?_
  refine g_iast C 3 g (by decide) (show g < 2 by omega) (fun _ _ => rfl) v (show v < 9 by omega) rfl dX1_swap_25 ?_
  refine g_I (I1 := sK I 3 (up2 (up2 (I 3) g u ((I 3 g v))) g v ((I 3 g u)))) (by first | rfl | rw [sK_self, sK_sK]) ?_
  refine g_iconst C ((nI 0)) dX1_swap_26 (by decide) ?_
  refine g_ist (lv' := [(4, .int (nI 0)), (3, .int (I 3 g u)), (0, .ref (Z.2.2.1 2 g)), (1, .int (nI u)), (2, .int (nI v))]) C dX1_swap_27 rfl rfl ?_
  refine g_lv [2, 3, 4, 1, 0] rfl ?_
  refine g_I (I1 := sK (sK I 3 (up2 (up2 (I 3) g u (I 3 g v)) g v (I 3 g u))) 5 (sw1 (I 5) (9 * g + u) (9 * g + v) 0)) (by rw [sw1_0]; exact (sK_id _ 5).symm) ?_
  refine l_X1_swap_29 C hn hg hsz hu hw ?_ (n + 1) 0 (by omega) (by omega)
  refine g_iconst C ((nI 0)) dX1_swap_84 (by decide) ?_
  refine g_ist (lv' := [(4, .int (nI 0)), (0, .ref (Z.2.2.1 2 g)), (1, .int (nI u)), (2, .int (nI v)), (3, .int (I 3 g u))]) C dX1_swap_85 rfl rfl ?_
  refine g_lv [1, 2, 3, 4, 0] rfl ?_
  refine g_I (I1 := sK (sK I 3 (up2 (up2 (I 3) g u (I 3 g v)) g v (I 3 g u))) 5 (sw2 (sw1 (I 5) (9 * g + u) (9 * g + v) n) g u v 0)) (by rw [sw2_0]) ?_
  exact l_X1_swap_87 hr C hn hg hsz hu hw (n + 1) 0 (by omega) (by omega)
