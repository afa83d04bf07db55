/-! ===== GraphTwins: the face: begin, colours, colour, twins, image, next, symmetries, orbit, form, compare, count ===== -/
theorem bg_t {x : Int32} (h1 : ¬ x < nI 1) (h2 : x ≤ nI 9) : ∃ k : Nat, 1 ≤ k ∧ k ≤ 9 ∧ x = nI k := by
  have h0 : (0 : Int32) ≤ x := Int32.le_trans (by decide : (0 : Int32) ≤ nI 1) (Int32.not_lt.mp h1)
  obtain ⟨j, hj, rfl⟩ := ge0_of h0
  have a := (nI_leI (b := 9) hj (by decide)).mp h2
  have b : ¬ j < 1 := fun q => h1 ((nI_ltI hj (by decide)).mpr q)
  exact ⟨j, by omega, a, rfl⟩
theorem bg_fin {I I1 I2 I3 I4 : SI} {J : SJ} {m : Nat} {nm : Nat → Nat} (h1 : 1 ≤ m) (h9 : m ≤ 9) (e1 : I1 = sK (sK (sK I 2 (up2 (I 2) 0 0 (nI m))) 3 (va_up (I 3) 0 (fl (I 3 0) 9 (nI 0)))) 5 (flr (I 5) 0 9)) (e2 : I2 = sK (sK (sK I1 2 (up2 (I1 2) 1 0 (nI m))) 3 (va_up (I1 3) 1 (fl (I1 3 1) 9 (nI 0)))) 5 (flr (I1 5) 1 9)) (e3 : I3 = sK (sK I2 2 (up2 (up2 (I2 2) 0 6 (nI 0)) 0 8 (nI 0))) 0 (up2 (up2 (I2 0) 0 5 (nI 0)) 0 6 (nI 0))) (e4 : I4 = sK (sK I3 2 (up2 (up2 (I3 2) 1 6 (nI 0)) 1 8 (nI 0))) 0 (up2 (up2 (I3 0) 0 5 (nI 0)) 0 6 (nI 0))) : aP I (nI 0) m (fun _ _ => 0) (fun _ _ _ => 0) false nm (some (.int (nI 0))) I4 J := by
  have a2 : I1 2 = up2 (I 2) 0 0 (nI m) := by rw [e1, sK_ne (by decide), sK_ne (by decide), sK_self]
  have a3 : I1 3 = va_up (I 3) 0 (fl (I 3 0) 9 (nI 0)) := by rw [e1, sK_ne (by decide), sK_self]
  have a5 : I1 5 = flr (I 5) 0 9 := by rw [e1, sK_self]
  have b2 : I2 2 = up2 (I1 2) 1 0 (nI m) := by rw [e2, sK_ne (by decide), sK_ne (by decide), sK_self]
  have b3 : I2 3 = va_up (I1 3) 1 (fl (I1 3 1) 9 (nI 0)) := by rw [e2, sK_ne (by decide), sK_self]
  have b5 : I2 5 = flr (I1 5) 1 9 := by rw [e2, sK_self]
  have c2 : I3 2 = up2 (up2 (I2 2) 0 6 (nI 0)) 0 8 (nI 0) := by rw [e3, sK_ne (by decide), sK_self]
  have d2 : I4 2 = up2 (up2 (I3 2) 1 6 (nI 0)) 1 8 (nI 0) := by rw [e4, sK_ne (by decide), sK_self]
  have d0 : I4 0 = up2 (up2 (I3 0) 0 5 (nI 0)) 0 6 (nI 0) := by rw [e4, sK_self]
  have d3 : I4 3 = I2 3 := by rw [e4, sK_ne (by decide), sK_ne (by decide), e3, sK_ne (by decide), sK_ne (by decide)]
  have d5 : I4 5 = I2 5 := by rw [e4, sK_ne (by decide), sK_ne (by decide), e3, sK_ne (by decide), sK_ne (by decide)]
  have hz : ∀ g, g < 2 → I4 2 g 0 = nI m ∧ I4 2 g 6 = nI 0 ∧ I4 2 g 8 = nI 0 := fun g hg => by
    rw [d2, c2, b2, a2]
    rcases (show g = 0 ∨ g = 1 by omega) with q | q <;> subst q <;> refine ⟨?_, ?_, ?_⟩ <;> simp [up2_at]
  refine ⟨rfl, fun q hq => ?_, ⟨⟨h1, h9⟩, fun g hg => ⟨(hz g hg).1, fun v hv => ⟨?_, Nat.zero_lt_succ 3⟩, fun u v hu hv => ⟨?_, Nat.zero_lt_succ 3⟩⟩⟩, fun _ _ _ _ => rfl, ⟨false, by rw [d0, up2_ne (by decide), up2_self]; rfl, fun q => absurd q (by decide)⟩, by rw [d0, up2_self]; rfl, fun q => absurd q (by decide), fun g hg => ⟨⟨false, (hz g hg).2.1, fun q => absurd q (by decide)⟩, false, (hz g hg).2.2, fun q => absurd q (by decide)⟩⟩
  · rw [e4, sK_ne (by omega), sK_ne (by omega), e3, sK_ne (by omega), sK_ne (by omega), e2, sK_ne (by omega), sK_ne (by omega), sK_ne (by omega), e1, sK_ne (by omega), sK_ne (by omega), sK_ne (by omega)]
  · rw [d3, b3]
    rcases (show g = 0 ∨ g = 1 by omega) with q | q <;> subst q
    · rw [va_up_ne _ _ (by decide), a3, va_up_self]; unfold fl; rw [if_pos (by omega)]
    · rw [va_up_self]; unfold fl; rw [if_pos (by omega)]
  · rw [d5, b5]
    rcases (show g = 0 ∨ g = 1 by omega) with q | q <;> subst q
    · unfold flr; rw [if_neg (by omega), a5]; unfold flr; rw [if_pos (by omega)]; unfold fl; rw [if_pos (by omega)]
    · unfold flr; rw [if_pos (by omega)]; unfold fl; rw [if_pos (by omega)]
set_option maxRecDepth 100000 in
set_option maxHeartbeats 4000000 in
/-- begin -/
theorem c_X5_begin {l : Launch} {Y : Yk} (hA : AJ Y.2.2) {I : SI} {J : SJ} {n : Nat} {T : Nat → Nat → Nat} {L : Nat → Nat → Nat → Nat} {ah : Bool} {nm : Nat → Nat} (hci : CI I J n T L ah nm) (x : Int32) : MX l Y yX5_begin cX5_begin 2 (some .int) 3 120 [.ref (Y.2.2 0 0), .int x] I J (fun v' I' J' => if ¬ x < nI 1 ∧ x ≤ nI 9 then ∃ m, 1 ≤ m ∧ m ≤ 9 ∧ x = nI m ∧ aP I (nI 0) m (fun _ _ => 0) (fun _ _ _ => 0) false nm v' I' J' else aP I (-1) n T L ah nm v' I' J') := by
  refine MX.of hA (by decide) (own := RX5) rfl rfl rfl ?_
  intro X Z hl hY1 hY2 hY3 C hr
  obtain ⟨D0, ca0, ad0⟩ := Y
  dsimp only at hA hY1 hY2 hY3
  subst hY1; subst hY2; subst hY3; subst hl
  show G X 2 Z (QG X Z _) I J 0 [(0, .ref (Z.2.2.1 0 0)), (1, .int x)] []
  refine g_ildn C dX5_begin_0 rfl ?_
  refine g_iconst C ((nI 1)) dX5_begin_1 (by decide) ?_
  refine g_icmp_lt (tgt := 11) C dX5_begin_2 rfl (fun c2 => ?_) (fun c2 => ?_)
  · refine g_iconst C ((-1)) dX5_begin_11 (by decide) ?_
    exact g_ireturn C hr dX5_begin_12 (by rw [if_neg (fun q => by first | exact q.1 c2 | exact c8 q.2)]; exact ⟨rfl, fun _ _ => rfl, hci⟩)
  · refine g_ildn C dX5_begin_5 rfl ?_
    refine g_bipush C ((nI 9)) dX5_begin_6 (by decide) ?_
    refine g_icmp_le (tgt := 13) C dX5_begin_8 rfl (fun c8 => ?_) (fun c8 => ?_)
    · have hok : ¬ x < nI 1 ∧ x ≤ nI 9 := ⟨c2, c8⟩
      obtain ⟨m, h1, h9, rfl⟩ := bg_t c2 c8
      refine g_aldn C dX5_begin_13 rfl ?_
      refine g_get C 0 0 (by decide) (by decide) u5 rfl 0 rfl fX5_9 rfl rfl dX5_begin_14 ?_
      refine g_iconst C ((nI 0)) dX5_begin_17 (by decide) ?_
      refine g_aald C 1 0 2 (by decide) (by decide) (fun _ _ => rfl) rfl rfl 0 (show 0 < 2 by omega) rfl dX5_begin_18 ?_
      refine g_ildn C dX5_begin_19 rfl ?_
      refine g_callV (As := [.int (nI m)]) (st := []) C (c_X1_empty hA (by decide)) wX1_empty iX1_empty sX1_empty mX5_44 2 0 (by decide) (by decide) rfl rfl rfl rfl rfl rfl rfl rfl dX5_begin_20 ?_
      rintro v9 I1 J9 ⟨h91, e1, h93⟩
      rw [h91, h93]
      clear h91 h93 v9 J9
      show G X _ Z _ I1 J 23 [(0, .ref (Z.2.2.1 0 0)), (1, .int (nI m))] []
      refine g_aldn C dX5_begin_23 rfl ?_
      refine g_get C 0 0 (by decide) (by decide) u5 rfl 0 rfl fX5_9 rfl rfl dX5_begin_24 ?_
      refine g_iconst C ((nI 1)) dX5_begin_27 (by decide) ?_
      refine g_aald C 1 0 2 (by decide) (by decide) (fun _ _ => rfl) rfl rfl 1 (show 1 < 2 by omega) rfl dX5_begin_28 ?_
      refine g_ildn C dX5_begin_29 rfl ?_
      refine g_callV (As := [.int (nI m)]) (st := []) C (c_X1_empty hA (by decide)) wX1_empty iX1_empty sX1_empty mX5_44 2 1 (by decide) (by decide) rfl rfl rfl rfl rfl rfl rfl rfl dX5_begin_30 ?_
      rintro v9 I2 J9 ⟨h91, e2, h93⟩
      rw [h91, h93]
      clear h91 h93 v9 J9
      show G X _ Z _ I2 J 33 [(0, .ref (Z.2.2.1 0 0)), (1, .int (nI m))] []
      refine g_aldn C dX5_begin_33 rfl ?_
      refine g_aldn C dX5_begin_34 rfl ?_
      refine g_get C 0 0 (by decide) (by decide) u5 rfl 0 rfl fX5_9 rfl rfl dX5_begin_35 ?_
      refine g_iconst C ((nI 0)) dX5_begin_38 (by decide) ?_
      refine g_aald C 1 0 2 (by decide) (by decide) (fun _ _ => rfl) rfl rfl 0 (show 0 < 2 by omega) rfl dX5_begin_39 ?_
      refine g_callV (As := [.ref (Z.2.2.1 2 0)]) (st := []) C (c_X5_noteChange hA (by decide)) wX5_noteChange iX5_noteChange sX5_noteChange mX5_48 0 0 (by decide) (by decide) rfl rfl rfl rfl rfl rfl rfl rfl dX5_begin_40 ?_
      rintro v9 I3 J9 ⟨h91, e3, h93⟩
      rw [h91, h93]
      clear h91 h93 v9 J9
      show G X _ Z _ I3 J 43 [(0, .ref (Z.2.2.1 0 0)), (1, .int (nI m))] []
      refine g_aldn C dX5_begin_43 rfl ?_
      refine g_aldn C dX5_begin_44 rfl ?_
      refine g_get C 0 0 (by decide) (by decide) u5 rfl 0 rfl fX5_9 rfl rfl dX5_begin_45 ?_
      refine g_iconst C ((nI 1)) dX5_begin_48 (by decide) ?_
      refine g_aald C 1 0 2 (by decide) (by decide) (fun _ _ => rfl) rfl rfl 1 (show 1 < 2 by omega) rfl dX5_begin_49 ?_
      refine g_callV (As := [.ref (Z.2.2.1 2 1)]) (st := []) C (c_X5_noteChange hA (by decide)) wX5_noteChange iX5_noteChange sX5_noteChange mX5_48 0 0 (by decide) (by decide) rfl rfl rfl rfl rfl rfl rfl rfl dX5_begin_50 ?_
      rintro v9 I4 J9 ⟨h91, e4, h93⟩
      rw [h91, h93]
      clear h91 h93 v9 J9
      show G X _ Z _ I4 J 53 [(0, .ref (Z.2.2.1 0 0)), (1, .int (nI m))] []
      refine g_iconst C ((nI 0)) dX5_begin_53 (by decide) ?_
      exact g_ireturn C hr dX5_begin_54 (by rw [if_pos hok]; exact ⟨m, h1, h9, rfl, bg_fin h1 h9 e1 e2 e3 e4⟩)
    · refine g_iconst C ((-1)) dX5_begin_11 (by decide) ?_
      exact g_ireturn C hr dX5_begin_12 (by rw [if_neg (fun q => by first | exact q.1 c2 | exact c8 q.2)]; exact ⟨rfl, fun _ _ => rfl, hci⟩)

set_option maxRecDepth 100000 in
set_option maxHeartbeats 4000000 in
/-- colours -/
theorem c_X5_colours {l : Launch} {Y : Yk} (hA : AJ Y.2.2) {I : SI} {J : SJ} {n : Nat} {T : Nat → Nat → Nat} {L : Nat → Nat → Nat → Nat} {ah : Bool} {nm : Nat → Nat} (hci : CI I J n T L ah nm)  : MX l Y yX5_colours cX5_colours 1 (some .int) 27 1200 [.ref (Y.2.2 0 0)] I J (fun v' I' J' => ∃ k, rnd n T L k ∧ aP I (nI (ms n T L k)) n T L ah nm v' I' J') := by
  refine MX.of hA (by decide) (own := RX5) rfl rfl rfl ?_
  intro X Z hl hY1 hY2 hY3 C hr
  obtain ⟨D0, ca0, ad0⟩ := Y
  dsimp only at hA hY1 hY2 hY3
  subst hY1; subst hY2; subst hY3; subst hl
  show G X 1 Z (QG X Z _) I J 0 [(0, .ref (Z.2.2.1 0 0))] []
  refine g_aldn C dX5_colours_0 rfl ?_
  refine g_callV (As := []) (st := []) C (c_X5_paintGraphs hA hci) wX5_paintGraphs iX5_paintGraphs sX5_paintGraphs mX5_78 0 0 (by decide) (by decide) rfl rfl rfl rfl rfl rfl rfl rfl dX5_colours_1 ?_
  rintro v9 I2 J9 ⟨h91, h93, hci2, ⟨k, hpt⟩, h5t, hkp, h2e, h8e⟩
  rw [h91, h93]
  rw [h93] at hci2
  clear h91 h93 v9 J9
  show G X _ Z _ I2 J 4 [(0, .ref (Z.2.2.1 0 0))] []
  refine g_aldn C dX5_colours_4 rfl ?_
  refine g_get C 0 0 (by decide) (by decide) u5 rfl 1 rfl fX5_18 rfl rfl dX5_colours_5 ?_
  refine g_get C 10 0 (by decide) (by decide) u3 rfl 0 rfl fX5_81 rfl rfl dX5_colours_8 ?_
  refine g_top (y := (nI (ms n T L k))) hpt.2.1 ?_
  exact g_ireturn C hr dX5_colours_11 ⟨k, hpt.1, rfl, hkp, hci2⟩

set_option maxRecDepth 100000 in
set_option maxHeartbeats 4000000 in
/-- colour -/
theorem c_X5_colour {l : Launch} {Y : Yk} (hA : AJ Y.2.2) {I : SI} {J : SJ} {n : Nat} {T : Nat → Nat → Nat} {L : Nat → Nat → Nat → Nat} {ah : Bool} {nm : Nat → Nat} (hci : CI I J n T L ah nm) (g v : Int32) : MX l Y yX5_colour cX5_colour 3 (some .int) 27 1200 [.ref (Y.2.2 0 0), .int g, .int v] I J (fun v' I' J' => if isV n g v then ∃ k a b, rnd n T L k ∧ a < 2 ∧ b < n ∧ g = nI a ∧ v = nI b ∧ aP I (nI (col n T L k a b)) n T L ah nm v' I' J' else aP I (-1) n T L ah nm v' I' J') := by
  refine MX.of hA (by decide) (own := RX5) rfl rfl rfl ?_
  intro X Z hl hY1 hY2 hY3 C hr
  obtain ⟨D0, ca0, ad0⟩ := Y
  dsimp only at hA hY1 hY2 hY3
  subst hY1; subst hY2; subst hY3; subst hl
  show G X 3 Z (QG X Z _) I J 0 [(0, .ref (Z.2.2.1 0 0)), (1, .int g), (2, .int v)] []
  obtain ⟨⟨hn1, hn9⟩, -⟩ := id hci.1
  refine g_aldn C dX5_colour_0 rfl ?_
  refine g_ildn C dX5_colour_1 rfl ?_
  refine g_ildn C dX5_colour_2 rfl ?_
  refine g_callV (As := [.int g, .int v]) (st := []) C (c_X5_isVertex hA hci.1 g v) wX5_isVertex iX5_isVertex sX5_isVertex mX5_52 0 0 (by decide) (by decide) rfl rfl rfl rfl rfl rfl rfl rfl dX5_colour_3 ?_
  rintro v9 I9 J9 ⟨h91, h92, h93⟩
  rw [h91, h92, h93]
  clear h91 h92 h93 v9 I9 J9
  show G X _ Z _ I J 6 [(0, .ref (Z.2.2.1 0 0)), (1, .int g), (2, .int v)] [.int (bI (isV n g v))]
  refine b_if_ne (tgt := 11) C dX5_colour_6 rfl (fun c6 => ?_) (fun c6 => ?_)
  · obtain ⟨a, b, ha, hb, rfl, rfl⟩ := isV_t (by omega) c6
    refine g_aldn C dX5_colour_11 rfl ?_
    refine g_callV (As := []) (st := []) C (c_X5_paintGraphs hA hci) wX5_paintGraphs iX5_paintGraphs sX5_paintGraphs mX5_78 0 0 (by decide) (by decide) rfl rfl rfl rfl rfl rfl rfl rfl dX5_colour_12 ?_
    rintro v9 I2 J9 ⟨h91, h93, hci2, ⟨k, hpt⟩, h5t, hkp, h2e, h8e⟩
    rw [h91, h93]
    rw [h93] at hci2
    clear h91 h93 v9 J9
    show G X _ Z _ I2 J 15 [(0, .ref (Z.2.2.1 0 0)), (1, .int (nI a)), (2, .int (nI b))] []
    refine g_aldn C dX5_colour_15 rfl ?_
    refine g_get C 0 0 (by decide) (by decide) u5 rfl 0 rfl fX5_9 rfl rfl dX5_colour_16 ?_
    refine g_ildn C dX5_colour_19 rfl ?_
    refine g_aald C 1 0 2 (by decide) (by decide) (fun _ _ => rfl) rfl rfl a (show a < 2 by omega) rfl dX5_colour_20 ?_
    refine g_get C 2 a (by decide) (show a < 2 by omega) u1 rfl 3 rfl fX5_85 rfl rfl dX5_colour_21 ?_
    refine g_ildn C dX5_colour_24 rfl ?_
    refine g_iald C 7 a (by decide) (show a < 2 by omega) (fun _ _ => rfl) b (show b < 9 by omega) rfl dX5_colour_25 (v := (nI (col n T L k a b))) (hpt.2.2 a b ha hb) ?_
    exact g_ireturn C hr dX5_colour_26 (by rw [if_pos c6]; exact ⟨k, a, b, hpt.1, ha, hb, rfl, rfl, rfl, hkp, hci2⟩)
  · refine g_iconst C ((-1)) dX5_colour_9 (by decide) ?_
    exact g_ireturn C hr dX5_colour_10 (by rw [if_neg (by rw [c6]; decide)]; exact ⟨rfl, fun _ _ => rfl, hci⟩)

/-- b says whether a naming leads g to h (one behind f, if rs); f' is then the first such -/
def Tw (n : Nat) (T : Nat → Nat → Nat) (L : Nat → Nat → Nat → Nat) (g h : Nat) (rs : Bool) (f : Nat → Nat) (b : Bool) (f' : Nat → Nat) : Prop :=
  (b = true → tr n T L g h f' n ∧ (rs = true → lx n f f') ∧ ∀ f2, tr n T L g h f2 n → (rs = true → lx n f f2) → lxe n f' f2) ∧ (b = false → ∀ f2, tr n T L g h f2 n → ¬ (rs = true → lx n f f2))
theorem tw_pl {n : Nat} {T : Nat → Nat → Nat} {L : Nat → Nat → Nat → Nat} {k : Nat} {rs b : Bool} {f : Nat → Nat} {F : Nat → Nat → Int32} (hn : n ≤ 9) (h1 : b = true → ∃ f', (∀ i, i < n → F 0 i = nI (f' i)) ∧ PC n (col n T L k) L 0 1 0 rs f f' ∧ ∀ f2, PC n (col n T L k) L 0 1 0 rs f f2 → lxe n f' f2) (h2 : b = false → ∀ f2, ¬ PC n (col n T L k) L 0 1 0 rs f f2) : ∃ f', (b = true → ∀ i, i < n → F 0 i = nI (f' i)) ∧ Tw n T L 0 1 rs f b f' := by
  have hP : ∀ f2, PC n (col n T L k) L 0 1 0 rs f f2 ↔ tr n T L 0 1 f2 n ∧ (rs = true → lx n f f2) := fun f2 => ⟨fun q => ⟨(tr_col hn (by decide) (by decide) k).mp q.1, q.2.2⟩, fun q => ⟨(tr_col hn (by decide) (by decide) k).mpr q.1, fun i hi => absurd hi (Nat.not_lt_zero i), q.2⟩⟩
  cases b with
  | true =>
    obtain ⟨f', a1, a2, a3⟩ := h1 rfl
    exact ⟨f', fun _ => a1, fun _ => ⟨((hP f').mp a2).1, ((hP f').mp a2).2, fun f2 q1 q2 => a3 f2 ((hP f2).mpr ⟨q1, q2⟩)⟩, fun q => absurd q (by decide)⟩
  | false => exact ⟨f, fun q => absurd q (by decide), fun q => absurd q (by decide), fun _ f2 q1 q2 => h2 rfl f2 ((hP f2).mpr ⟨q1, q2⟩)⟩
theorem tw_ci {I I2 I' : SI} {J : SJ} {n : Nat} {T : Nat → Nat → Nat} {L : Nat → Nat → Nat → Nat} {ah b : Bool} {nm f : Nat → Nat} {k : Nat} (hci : CI I2 J n T L ah nm) (hkp : keep I I2) (hpt : PTk I2 n T L k) (h5t : I2 0 0 5 = bI true) (ho : ∀ q, q ≠ 0 → q ≠ 14 → q ≠ 18 → I' q = I2 q) (h0 : I' 0 = up2 (I2 0) 0 6 (bI b)) (hat : b = true → ATk I' n T L f) {r : Int32} (hr : r = bI b) : aP I (bI b) n T L b f (some (.int r)) I' J := by
  subst hr
  have h5 : I' 0 0 5 = bI true := by rw [h0, up2_ne (by decide)]; exact h5t
  have o2 := ho 2 (by decide) (by decide) (by decide)
  have hpt2 : PTk I' n T L k := ⟨hpt.1, by rw [ho 10 (by decide) (by decide) (by decide)]; exact hpt.2.1, by rw [ho 7 (by decide) (by decide) (by decide)]; exact hpt.2.2⟩
  exact ⟨rfl, fun q hq => (ho q (by omega) (by omega) (by omega)).trans (hkp q hq), hci.1.of o2 (ho 3 (by decide) (by decide) (by decide)) (ho 5 (by decide) (by decide) (by decide)), hci.2.1, ⟨true, h5, fun _ => ⟨k, hpt2⟩⟩, by rw [h0, up2_self], fun q => ⟨h5, hat q⟩, fun g hg => (hci.2.2.2.2.2 g hg).of (by rw [o2]) (by rw [ho 8 (by decide) (by decide) (by decide)]) rfl⟩
/-- graphs that aren't painted alike have no naming -/
theorem pa_no {n : Nat} {T : Nat → Nat → Nat} {L : Nat → Nat → Nat → Nat} {k m : Nat} (hn : n ≤ 9) (h : ¬ ∀ x, x < m → ct (fun u => decide (col n T L k 0 u = x)) n = ct (fun u => decide (col n T L k 1 u = x)) n) (f : Nat → Nat) : ¬ tr n T L 0 1 f n := fun ht => by
  refine h (fun x _ => ?_)
  rw [← ct_perm n f (fun u => decide (col n T L k 1 u = x)) (tr_nmg ht)]
  refine ct_congr n (fun u hu => ?_)
  have e : col n T L k 0 u = col n T L k 1 (f u) := cs_iso hn (by decide) (by decide) ht k u hu
  rw [e]
set_option maxRecDepth 100000 in
set_option maxHeartbeats 4000000 in
/-- twins -/
theorem c_X5_twins {l : Launch} {Y : Yk} (hA : AJ Y.2.2) {I : SI} {J : SJ} {n : Nat} {T : Nat → Nat → Nat} {L : Nat → Nat → Nat → Nat} {ah : Bool} {nm : Nat → Nat} (hci : CI I J n T L ah nm)  : MX l Y yX5_twins cX5_twins 1 (some .int) 27 1200 [.ref (Y.2.2 0 0)] I J (fun v' I' J' => ∃ b f, Tw n T L 0 1 false (fun i => i) b f ∧ aP I (bI b) n T L b f v' I' J') := by
  refine MX.of hA (by decide) (own := RX5) rfl rfl rfl ?_
  intro X Z hl hY1 hY2 hY3 C hr
  obtain ⟨D0, ca0, ad0⟩ := Y
  dsimp only at hA hY1 hY2 hY3
  subst hY1; subst hY2; subst hY3; subst hl
  show G X 1 Z (QG X Z _) I J 0 [(0, .ref (Z.2.2.1 0 0))] []
  obtain ⟨⟨hn1, hn9⟩, -⟩ := id hci.1
  refine g_aldn C dX5_twins_0 rfl ?_
  refine g_callV (As := []) (st := []) C (c_X5_paintGraphs hA hci) wX5_paintGraphs iX5_paintGraphs sX5_paintGraphs mX5_78 0 0 (by decide) (by decide) rfl rfl rfl rfl rfl rfl rfl rfl dX5_twins_1 ?_
  rintro v9 I2 J9 ⟨h91, h93, hci2, ⟨k, hpt⟩, h5t, hkp, h2e, h8e⟩
  rw [h91, h93]
  rw [h93] at hci2
  clear h91 h93 v9 J9
  show G X _ Z _ I2 J 4 [(0, .ref (Z.2.2.1 0 0))] []
  refine g_aldn C dX5_twins_4 rfl ?_
  refine g_aldn C dX5_twins_5 rfl ?_
  refine g_get C 0 0 (by decide) (by decide) u5 rfl 1 rfl fX5_18 rfl rfl dX5_twins_6 ?_
  refine g_aldn C dX5_twins_9 rfl ?_
  refine g_get C 0 0 (by decide) (by decide) u5 rfl 0 rfl fX5_9 rfl rfl dX5_twins_10 ?_
  refine g_callV (As := [.ref (Z.2.2.1 1 0)]) (st := [.ref (Z.2.2.1 0 0)]) C (c_X3_paintsAlike hA hci2.1 (hpt.cc hn9) (ms_le n T L k) hpt.2.1) wX3_paintsAlike iX3_paintsAlike sX3_paintsAlike mX5_88 10 0 (by decide) (by decide) rfl rfl rfl rfl rfl rfl rfl rfl dX5_twins_13 ?_
  rintro v9 I3 J9 ⟨pa, F, h91, e3, h93, hpa⟩
  rw [h91, h93]
  clear h91 h93 v9 J9
  have o3 : ∀ q, q ≠ 14 → I3 q = I2 q := fun q h => by rw [e3, sK_ne h]
  show G X _ Z _ I3 J 16 [(0, .ref (Z.2.2.1 0 0))] [.int (bI pa), .ref (Z.2.2.1 0 0)]
  refine b_if_eq (tgt := 45) C dX5_twins_16 rfl (fun c16 => ?_) (fun c16 => ?_)
  · refine g_iconst C ((nI 0)) dX5_twins_45 (by decide) ?_
    refine g_put C 0 0 (by decide) (by decide) tyX5 tyX5_ok nmX5 u5 rfl 6 rfl fX5_96 rfl (fun _ _ => rfl) (by simp [va_up]) rfl (by decide) (by decide) dX5_twins_46 ?_
    refine g_I (I1 := sK I3 0 (up2 (I3 0) 0 6 (nI 0))) rfl ?_
    refine g_aldn C dX5_twins_49 rfl ?_
    refine g_get C 0 0 (by decide) (by decide) u5 rfl 6 rfl fX5_96 rfl rfl dX5_twins_50 ?_
    refine g_top (y := (nI 0)) (by rw [sK_self, up2_self]) ?_
    refine n_if_eq (tgt := 60) C dX5_twins_53 rfl (by decide) (fun _ => ?_) (fun q => absurd rfl q)
    refine g_iconst C ((nI 0)) dX5_twins_60 (by decide) ?_
    exact g_ireturn C hr dX5_twins_61 ⟨false, fun i => i, ⟨fun q => absurd q (by decide), fun _ f2 q1 _ => pa_no hn9 (fun q => absurd (hpa.mpr q) (by rw [c16]; decide)) f2 q1⟩, tw_ci hci2 hkp hpt h5t (fun q z0 z14 z18 => by rw [sK_ne z0, o3 q z14]) (by rw [sK_self, o3 0 (by decide)]; rfl) (fun q => absurd q (by decide)) rfl⟩
  · refine g_aldn C dX5_twins_19 rfl ?_
    refine g_get C 0 0 (by decide) (by decide) u5 rfl 2 rfl fX5_25 rfl rfl dX5_twins_20 ?_
    refine g_aldn C dX5_twins_23 rfl ?_
    refine g_get C 0 0 (by decide) (by decide) u5 rfl 0 rfl fX5_9 rfl rfl dX5_twins_24 ?_
    refine g_iconst C ((nI 0)) dX5_twins_27 (by decide) ?_
    refine g_aald C 1 0 2 (by decide) (by decide) (fun _ _ => rfl) rfl rfl 0 (show 0 < 2 by omega) rfl dX5_twins_28 ?_
    refine g_aldn C dX5_twins_29 rfl ?_
    refine g_get C 0 0 (by decide) (by decide) u5 rfl 0 rfl fX5_9 rfl rfl dX5_twins_30 ?_
    refine g_iconst C ((nI 1)) dX5_twins_33 (by decide) ?_
    refine g_aald C 1 0 2 (by decide) (by decide) (fun _ _ => rfl) rfl rfl 1 (show 1 < 2 by omega) rfl dX5_twins_34 ?_
    refine g_callV (As := [.ref (Z.2.2.1 2 0), .ref (Z.2.2.1 2 1)]) (st := [.ref (Z.2.2.1 0 0)]) C (c_X2_findFirst hA (f := fun i => i) (q := 0) (g := 0) (h := 1) (hci2.1.of (o3 2 (by decide)) (o3 3 (by decide)) (o3 5 (by decide))) ((hpt.cc hn9).of (o3 7 (by decide))) (by decide) (by decide) (by decide)) wX2_findFirst iX2_findFirst sX2_findFirst mX5_92 17 0 (by decide) (by decide) rfl rfl rfl rfl rfl rfl rfl rfl dX5_twins_35 ?_
    rintro v9 I4 J9 ⟨b4, F4, h91, e4, h93, r4, -, hb4, hb5⟩
    rw [h91, h93]
    clear h91 h93 v9 J9
    obtain ⟨f4, hf4, htw⟩ := tw_pl hn9 hb4 hb5
    show G X _ Z _ I4 J 38 [(0, .ref (Z.2.2.1 0 0))] [.int (bI b4), .ref (Z.2.2.1 0 0)]
    refine b_if_eq (tgt := 45) C dX5_twins_38 rfl (fun c38 => ?_) (fun c38 => ?_)
    · refine g_iconst C ((nI 0)) dX5_twins_45 (by decide) ?_
      refine g_put C 0 0 (by decide) (by decide) tyX5 tyX5_ok nmX5 u5 rfl 6 rfl fX5_96 rfl (fun _ _ => rfl) (by simp [va_up]) rfl (by decide) (by decide) dX5_twins_46 ?_
      refine g_I (I1 := sK I4 0 (up2 (I4 0) 0 6 (nI 0))) rfl ?_
      refine g_aldn C dX5_twins_49 rfl ?_
      refine g_get C 0 0 (by decide) (by decide) u5 rfl 6 rfl fX5_96 rfl rfl dX5_twins_50 ?_
      refine g_top (y := (nI 0)) (by rw [sK_self, up2_self]) ?_
      refine n_if_eq (tgt := 60) C dX5_twins_53 rfl (by decide) (fun _ => ?_) (fun q => absurd rfl q)
      refine g_iconst C ((nI 0)) dX5_twins_60 (by decide) ?_
      exact g_ireturn C hr dX5_twins_61 (by rw [c38] at htw; exact ⟨_, f4, htw, tw_ci hci2 hkp hpt h5t (fun q z0 z14 z18 => by rw [sK_ne z0, e4, sK_ne z18, o3 q z14]) (by rw [sK_self, e4, sK_ne (by decide), o3 0 (by decide)]; rfl) (fun q => absurd q (by decide)) rfl⟩)
    · refine g_iconst C ((nI 1)) dX5_twins_41 (by decide) ?_
      refine g_goto (tgt := 46) C dX5_twins_42 rfl ?_
      refine g_put C 0 0 (by decide) (by decide) tyX5 tyX5_ok nmX5 u5 rfl 6 rfl fX5_96 rfl (fun _ _ => rfl) (by simp [va_up]) rfl (by decide) (by decide) dX5_twins_46 ?_
      refine g_I (I1 := sK I4 0 (up2 (I4 0) 0 6 (nI 1))) rfl ?_
      refine g_aldn C dX5_twins_49 rfl ?_
      refine g_get C 0 0 (by decide) (by decide) u5 rfl 6 rfl fX5_96 rfl rfl dX5_twins_50 ?_
      refine g_top (y := (nI 1)) (by rw [sK_self, up2_self]) ?_
      refine n_if_eq (tgt := 60) C dX5_twins_53 rfl (by decide) (fun q => absurd q (by decide)) (fun _ => ?_)
      refine g_iconst C ((nI 1)) dX5_twins_56 (by decide) ?_
      refine g_goto (tgt := 61) C dX5_twins_57 rfl ?_
      exact g_ireturn C hr dX5_twins_61 (by rw [c38] at htw; exact ⟨_, f4, htw, tw_ci hci2 hkp hpt h5t (fun q z0 z14 z18 => by rw [sK_ne z0, e4, sK_ne z18, o3 q z14]) (by rw [sK_self, e4, sK_ne (by decide), o3 0 (by decide)]; rfl) (fun q => ⟨fun i hi => by rw [sK_ne (by decide), e4, sK_self]; exact hf4 c38 i hi, (htw.1 rfl).1⟩) rfl⟩)

set_option maxRecDepth 100000 in
set_option maxHeartbeats 4000000 in
/-- image -/
theorem c_X5_image {l : Launch} {Y : Yk} (hA : AJ Y.2.2) {I : SI} {J : SJ} {n : Nat} {T : Nat → Nat → Nat} {L : Nat → Nat → Nat → Nat} {ah : Bool} {nm : Nat → Nat} (hci : CI I J n T L ah nm) (v : Int32) : MX l Y yX5_image cX5_image 2 (some .int) 27 1200 [.ref (Y.2.2 0 0), .int v] I J (fun v' I' J' => if ah && isV n (nI 0) v then ∃ b, b < n ∧ v = nI b ∧ aP I (nI (nm b)) n T L ah nm v' I' J' else aP I (-1) n T L ah nm v' I' J') := by
  refine MX.of hA (by decide) (own := RX5) rfl rfl rfl ?_
  intro X Z hl hY1 hY2 hY3 C hr
  obtain ⟨D0, ca0, ad0⟩ := Y
  dsimp only at hA hY1 hY2 hY3
  subst hY1; subst hY2; subst hY3; subst hl
  show G X 2 Z (QG X Z _) I J 0 [(0, .ref (Z.2.2.1 0 0)), (1, .int v)] []
  obtain ⟨⟨hn1, hn9⟩, -⟩ := id hci.1
  refine g_aldn C dX5_image_0 rfl ?_
  refine g_get C 0 0 (by decide) (by decide) u5 rfl 6 rfl fX5_96 rfl rfl dX5_image_1 ?_
  refine g_top (y := (bI ah)) hci.2.2.2.1 ?_
  refine b_if_eq (tgt := 28) C dX5_image_4 rfl (fun c4 => ?_) (fun c4 => ?_)
  · refine g_iconst C ((-1)) dX5_image_28 (by decide) ?_
    exact g_ireturn C hr dX5_image_29 (by rw [if_neg (by first | (rw [c4]; simp; done) | (rw [c4, c13]; simp; done))]; exact ⟨rfl, fun _ _ => rfl, hci⟩)
  · refine g_aldn C dX5_image_7 rfl ?_
    refine g_iconst C ((nI 0)) dX5_image_8 (by decide) ?_
    refine g_ildn C dX5_image_9 rfl ?_
    refine g_callV (As := [.int (nI 0), .int v]) (st := []) C (c_X5_isVertex hA hci.1 (nI 0) v) wX5_isVertex iX5_isVertex sX5_isVertex mX5_52 0 0 (by decide) (by decide) rfl rfl rfl rfl rfl rfl rfl rfl dX5_image_10 ?_
    rintro v9 I9 J9 ⟨h91, h92, h93⟩
    rw [h91, h92, h93]
    clear h91 h92 h93 v9 I9 J9
    show G X _ Z _ I J 13 [(0, .ref (Z.2.2.1 0 0)), (1, .int v)] [.int (bI (isV n (nI 0) v))]
    refine b_if_eq (tgt := 28) C dX5_image_13 rfl (fun c13 => ?_) (fun c13 => ?_)
    · refine g_iconst C ((-1)) dX5_image_28 (by decide) ?_
      exact g_ireturn C hr dX5_image_29 (by rw [if_neg (by first | (rw [c4]; simp; done) | (rw [c4, c13]; simp; done))]; exact ⟨rfl, fun _ _ => rfl, hci⟩)
    · obtain ⟨a0, b, -, hb, -, rfl⟩ := isV_t (by omega) c13
      refine g_aldn C dX5_image_16 rfl ?_
      refine g_get C 0 0 (by decide) (by decide) u5 rfl 2 rfl fX5_25 rfl rfl dX5_image_17 ?_
      refine g_get C 17 0 (by decide) (by decide) u2 rfl 0 rfl fX5_100 rfl rfl dX5_image_20 ?_
      refine g_ildn C dX5_image_23 rfl ?_
      refine g_iald C 18 0 (by decide) (by decide) (fun _ _ => rfl) b (show b < 9 by omega) rfl dX5_image_24 (v := (nI (nm b))) ((hci.2.2.2.2.1 c4).2.1 b hb) ?_
      refine g_goto (tgt := 29) C dX5_image_25 rfl ?_
      exact g_ireturn C hr dX5_image_29 (by rw [if_pos (by rw [c4, c13]; rfl)]; exact ⟨b, hb, rfl, rfl, fun _ _ => rfl, hci⟩)

set_option maxRecDepth 100000 in
set_option maxHeartbeats 4000000 in
/-- next -/
theorem c_X5_next {l : Launch} {Y : Yk} (hA : AJ Y.2.2) {I : SI} {J : SJ} {n : Nat} {T : Nat → Nat → Nat} {L : Nat → Nat → Nat → Nat} {ah : Bool} {nm : Nat → Nat} (hci : CI I J n T L ah nm)  : MX l Y yX5_next cX5_next 1 (some .int) 27 1200 [.ref (Y.2.2 0 0)] I J (fun v' I' J' => if ah then ∃ b f, Tw n T L 0 1 true nm b f ∧ aP I (bI b) n T L b f v' I' J' else aP I (-1) n T L ah nm v' I' J') := by
  refine MX.of hA (by decide) (own := RX5) rfl rfl rfl ?_
  intro X Z hl hY1 hY2 hY3 C hr
  obtain ⟨D0, ca0, ad0⟩ := Y
  dsimp only at hA hY1 hY2 hY3
  subst hY1; subst hY2; subst hY3; subst hl
  show G X 1 Z (QG X Z _) I J 0 [(0, .ref (Z.2.2.1 0 0))] []
  obtain ⟨⟨hn1, hn9⟩, -⟩ := id hci.1
  refine g_aldn C dX5_next_0 rfl ?_
  refine g_get C 0 0 (by decide) (by decide) u5 rfl 6 rfl fX5_96 rfl rfl dX5_next_1 ?_
  refine g_top (y := (bI ah)) hci.2.2.2.1 ?_
  refine b_if_ne (tgt := 9) C dX5_next_4 rfl (fun c4 => ?_) (fun c4 => ?_)
  · obtain ⟨h5t, hat⟩ := hci.2.2.2.2.1 c4
    obtain ⟨k, hpt⟩ : ∃ k, PTk I n T L k := by
      obtain ⟨pt, q1, q2⟩ := hci.2.2.1
      cases pt with
      | true => exact q2 rfl
      | false => exact absurd (q1.symm.trans h5t) (by decide)
    refine g_aldn C dX5_next_9 rfl ?_
    refine g_aldn C dX5_next_10 rfl ?_
    refine g_get C 0 0 (by decide) (by decide) u5 rfl 2 rfl fX5_25 rfl rfl dX5_next_11 ?_
    refine g_aldn C dX5_next_14 rfl ?_
    refine g_get C 0 0 (by decide) (by decide) u5 rfl 0 rfl fX5_9 rfl rfl dX5_next_15 ?_
    refine g_iconst C ((nI 0)) dX5_next_18 (by decide) ?_
    refine g_aald C 1 0 2 (by decide) (by decide) (fun _ _ => rfl) rfl rfl 0 (show 0 < 2 by omega) rfl dX5_next_19 ?_
    refine g_aldn C dX5_next_20 rfl ?_
    refine g_get C 0 0 (by decide) (by decide) u5 rfl 0 rfl fX5_9 rfl rfl dX5_next_21 ?_
    refine g_iconst C ((nI 1)) dX5_next_24 (by decide) ?_
    refine g_aald C 1 0 2 (by decide) (by decide) (fun _ _ => rfl) rfl rfl 1 (show 1 < 2 by omega) rfl dX5_next_25 ?_
    refine g_callV (As := [.ref (Z.2.2.1 2 0), .ref (Z.2.2.1 2 1)]) (st := [.ref (Z.2.2.1 0 0)]) C (c_X2_findNext hA (f := nm) (q := 0) (g := 0) (h := 1) hci.1 (hpt.cc hn9) (by decide) (by decide) (by decide) ((tr_col hn9 (by decide) (by decide) k).mpr hat.2) hat.1) wX2_findNext iX2_findNext sX2_findNext mX5_103 17 0 (by decide) (by decide) rfl rfl rfl rfl rfl rfl rfl rfl dX5_next_26 ?_
    rintro v9 I4 J9 ⟨b4, F4, h91, e4, h93, r4, -, hb4, hb5⟩
    rw [h91, h93]
    clear h91 h93 v9 J9
    obtain ⟨f4, hf4, htw⟩ := tw_pl hn9 hb4 hb5
    show G X _ Z _ I4 J 29 [(0, .ref (Z.2.2.1 0 0))] [.int (bI b4), .ref (Z.2.2.1 0 0)]
    refine g_put C 0 0 (by decide) (by decide) tyX5 tyX5_ok nmX5 u5 rfl 6 rfl fX5_96 rfl (fun _ _ => rfl) (by simp [va_up]) rfl (nar_b _) (fit_b _) dX5_next_29 ?_
    refine g_I (I1 := sK I4 0 (up2 (I4 0) 0 6 (bI b4))) rfl ?_
    refine g_aldn C dX5_next_32 rfl ?_
    refine g_get C 0 0 (by decide) (by decide) u5 rfl 6 rfl fX5_96 rfl rfl dX5_next_33 ?_
    refine g_top (y := (bI b4)) (by rw [sK_self, up2_self]) ?_
    refine b_if_eq (tgt := 43) C dX5_next_36 rfl (fun c36 => ?_) (fun c36 => ?_)
    · refine g_iconst C ((nI 0)) dX5_next_43 (by decide) ?_
      exact g_ireturn C hr dX5_next_44 (by rw [if_pos c4]; exact ⟨b4, f4, htw, tw_ci hci (fun _ _ => rfl) hpt h5t (fun q z0 z14 z18 => by rw [sK_ne z0, e4, sK_ne z18]) (by rw [sK_self, e4, sK_ne (by decide)]) (fun q => ⟨fun i hi => by rw [sK_ne (by decide), e4, sK_self]; exact hf4 q i hi, (htw.1 q).1⟩) (by rw [c36]; rfl)⟩)
    · refine g_iconst C ((nI 1)) dX5_next_39 (by decide) ?_
      refine g_goto (tgt := 44) C dX5_next_40 rfl ?_
      exact g_ireturn C hr dX5_next_44 (by rw [if_pos c4]; exact ⟨b4, f4, htw, tw_ci hci (fun _ _ => rfl) hpt h5t (fun q z0 z14 z18 => by rw [sK_ne z0, e4, sK_ne z18]) (by rw [sK_self, e4, sK_ne (by decide)]) (fun q => ⟨fun i hi => by rw [sK_ne (by decide), e4, sK_self]; exact hf4 q i hi, (htw.1 q).1⟩) (by rw [c36]; rfl)⟩)
  · refine g_iconst C ((-1)) dX5_next_7 (by decide) ?_
    exact g_ireturn C hr dX5_next_8 (by rw [if_neg (by rw [c4]; decide)]; exact ⟨rfl, fun _ _ => rfl, hci⟩)

set_option maxRecDepth 100000 in
set_option maxHeartbeats 4000000 in
/-- symmetries -/
theorem c_X5_symmetries {l : Launch} {Y : Yk} (hA : AJ Y.2.2) {I : SI} {J : SJ} {n : Nat} {T : Nat → Nat → Nat} {L : Nat → Nat → Nat → Nat} {ah : Bool} {nm : Nat → Nat} (hci : CI I J n T L ah nm) (g : Int32) : MX l Y yX5_symmetries cX5_symmetries 2 (some .int) 27 1200 [.ref (Y.2.2 0 0), .int g] I J (fun v' I' J' => if isG g then ∃ a, a < 2 ∧ g = nI a ∧ aP I (nI (sn n T L a n)) n T L ah nm v' I' J' else aP I (-1) n T L ah nm v' I' J') := by
  refine MX.of hA (by decide) (own := RX5) rfl rfl rfl ?_
  intro X Z hl hY1 hY2 hY3 C hr
  obtain ⟨D0, ca0, ad0⟩ := Y
  dsimp only at hA hY1 hY2 hY3
  subst hY1; subst hY2; subst hY3; subst hl
  show G X 2 Z (QG X Z _) I J 0 [(0, .ref (Z.2.2.1 0 0)), (1, .int g)] []
  obtain ⟨⟨hn1, hn9⟩, -⟩ := id hci.1
  refine g_ildn C dX5_symmetries_0 rfl ?_
  refine g_callS (As := [.int g]) (st := []) C (c_X5_isGraph hA g) wX5_isGraph tX5_isGraph mX5_72 rfl rfl rfl rfl dX5_symmetries_1 ?_
  rintro v9 I9 J9 ⟨h91, h92, h93⟩
  rw [h91, h92, h93]
  clear h91 h92 h93 v9 I9 J9
  show G X _ Z _ I J 4 [(0, .ref (Z.2.2.1 0 0)), (1, .int g)] [.int (bI (isG g))]
  refine b_if_eq (tgt := 18) C dX5_symmetries_4 rfl (fun c4 => ?_) (fun c4 => ?_)
  · refine g_iconst C ((-1)) dX5_symmetries_18 (by decide) ?_
    exact g_ireturn C hr dX5_symmetries_19 (by rw [if_neg (by rw [c4]; decide)]; exact ⟨rfl, fun _ _ => rfl, hci⟩)
  · obtain ⟨a, ha, rfl⟩ := isG_t c4
    refine g_aldn C dX5_symmetries_7 rfl ?_
    refine g_ildn C dX5_symmetries_8 rfl ?_
    refine g_callV (As := [.int (nI a)]) (st := []) C (c_X5_withSymmetries hA hci ha) wX5_withSymmetries iX5_withSymmetries sX5_withSymmetries mX5_106 0 0 (by decide) (by decide) rfl rfl rfl rfl rfl rfl rfl rfl dX5_symmetries_9 ?_
    rintro v9 I2 J9 ⟨h91, h93, hci2, hsy, hkp⟩
    rw [h91, h93]
    rw [h93] at hci2
    clear h91 h93 v9 J9
    show G X _ Z _ I2 J 12 [(0, .ref (Z.2.2.1 0 0)), (1, .int (nI a))] [.ref (Z.2.2.1 2 a)]
    refine g_get C 2 a (by decide) (show a < 2 by omega) u1 rfl 5 rfl fX5_110 rfl rfl dX5_symmetries_12 ?_
    refine g_top (y := (nI (sn n T L a n))) hsy.1 ?_
    refine g_goto (tgt := 19) C dX5_symmetries_15 rfl ?_
    exact g_ireturn C hr dX5_symmetries_19 (by rw [if_pos c4]; exact ⟨a, ha, rfl, rfl, hkp, hci2⟩)

set_option maxRecDepth 100000 in
set_option maxHeartbeats 4000000 in
/-- orbit -/
theorem c_X5_orbit {l : Launch} {Y : Yk} (hA : AJ Y.2.2) {I : SI} {J : SJ} {n : Nat} {T : Nat → Nat → Nat} {L : Nat → Nat → Nat → Nat} {ah : Bool} {nm : Nat → Nat} (hci : CI I J n T L ah nm) (g v : Int32) : MX l Y yX5_orbit cX5_orbit 3 (some .int) 27 1200 [.ref (Y.2.2 0 0), .int g, .int v] I J (fun v' I' J' => if isV n g v then ∃ a b oo, a < 2 ∧ b < n ∧ g = nI a ∧ v = nI b ∧ OR n T L a oo (fun _ _ => True) ∧ aP I (nI (oo b)) n T L ah nm v' I' J' else aP I (-1) n T L ah nm v' I' J') := by
  refine MX.of hA (by decide) (own := RX5) rfl rfl rfl ?_
  intro X Z hl hY1 hY2 hY3 C hr
  obtain ⟨D0, ca0, ad0⟩ := Y
  dsimp only at hA hY1 hY2 hY3
  subst hY1; subst hY2; subst hY3; subst hl
  show G X 3 Z (QG X Z _) I J 0 [(0, .ref (Z.2.2.1 0 0)), (1, .int g), (2, .int v)] []
  obtain ⟨⟨hn1, hn9⟩, -⟩ := id hci.1
  refine g_aldn C dX5_orbit_0 rfl ?_
  refine g_ildn C dX5_orbit_1 rfl ?_
  refine g_ildn C dX5_orbit_2 rfl ?_
  refine g_callV (As := [.int g, .int v]) (st := []) C (c_X5_isVertex hA hci.1 g v) wX5_isVertex iX5_isVertex sX5_isVertex mX5_52 0 0 (by decide) (by decide) rfl rfl rfl rfl rfl rfl rfl rfl dX5_orbit_3 ?_
  rintro v9 I9 J9 ⟨h91, h92, h93⟩
  rw [h91, h92, h93]
  clear h91 h92 h93 v9 I9 J9
  show G X _ Z _ I J 6 [(0, .ref (Z.2.2.1 0 0)), (1, .int g), (2, .int v)] [.int (bI (isV n g v))]
  refine b_if_eq (tgt := 22) C dX5_orbit_6 rfl (fun c6 => ?_) (fun c6 => ?_)
  · refine g_iconst C ((-1)) dX5_orbit_22 (by decide) ?_
    exact g_ireturn C hr dX5_orbit_23 (by rw [if_neg (by rw [c6]; decide)]; exact ⟨rfl, fun _ _ => rfl, hci⟩)
  · obtain ⟨a, b, ha, hb, rfl, rfl⟩ := isV_t (by omega) c6
    refine g_aldn C dX5_orbit_9 rfl ?_
    refine g_ildn C dX5_orbit_10 rfl ?_
    refine g_callV (As := [.int (nI a)]) (st := []) C (c_X5_withSymmetries hA hci ha) wX5_withSymmetries iX5_withSymmetries sX5_withSymmetries mX5_106 0 0 (by decide) (by decide) rfl rfl rfl rfl rfl rfl rfl rfl dX5_orbit_11 ?_
    rintro v9 I2 J9 ⟨h91, h93, hci2, ⟨-, oo, ho1, ho2⟩, hkp⟩
    rw [h91, h93]
    rw [h93] at hci2
    clear h91 h93 v9 J9
    show G X _ Z _ I2 J 14 [(0, .ref (Z.2.2.1 0 0)), (1, .int (nI a)), (2, .int (nI b))] [.ref (Z.2.2.1 2 a)]
    refine g_get C 2 a (by decide) (show a < 2 by omega) u1 rfl 4 rfl fX5_113 rfl rfl dX5_orbit_14 ?_
    refine g_ildn C dX5_orbit_17 rfl ?_
    refine g_iald C 8 a (by decide) (show a < 2 by omega) (fun _ _ => rfl) b (show b < 9 by omega) rfl dX5_orbit_18 (v := (nI (oo b))) (ho1 b hb) ?_
    refine g_goto (tgt := 23) C dX5_orbit_19 rfl ?_
    exact g_ireturn C hr dX5_orbit_23 (by rw [if_pos c6]; exact ⟨a, b, oo, ha, hb, rfl, rfl, ho2, rfl, hkp, hci2⟩)

theorem CV.sm4 {I : SI} {n : Nat} {T : Nat → Nat → Nat} {L : Nat → Nat → Nat → Nat} (h : CV I n T L) {g : Nat} (hg : g < 2) : sm4 n T L g := ⟨fun v hv => h.t4 hg hv, fun u v hu hv => h.l4 hg hu hv⟩
theorem frm_lt {n : Nat} {T : Nat → Nat → Nat} {L : Nat → Nat → Nat → Nat} {g : Nat} {B : Nat → Nat} (hn : n ≤ 9) (h4 : sm4 n T L g) (h : frm n T L g B) {i : Nat} (hi : i < n) : B i < 2 ^ 34 := by
  obtain ⟨⟨f, h1, h2⟩, -⟩ := h
  rw [h2 i hi]
  have := rv_lt (f := f) h4 (h1.1 i hi) i (fun j hj => h1.1 j (by omega))
  have h3 : 4 * 16 ^ i ≤ 4 * 16 ^ 8 := Nat.mul_le_mul_left 4 (Nat.pow_le_pow_right (by decide) (by omega))
  exact Nat.lt_of_lt_of_le this h3
set_option maxRecDepth 100000 in
set_option maxHeartbeats 4000000 in
/-- form -/
theorem c_X5_form {l : Launch} {Y : Yk} (hA : AJ Y.2.2) {I : SI} {J : SJ} {n : Nat} {T : Nat → Nat → Nat} {L : Nat → Nat → Nat → Nat} {ah : Bool} {nm : Nat → Nat} (hci : CI I J n T L ah nm) (g i : Int32) : MX l Y yX5_form cX5_form 3 (some .int) 27 1200 [.ref (Y.2.2 0 0), .int g, .int i] I J (fun v' I' J' => if isG g && decide (0 ≤ i ∧ i < nI (n * n)) then ∃ a ki row B, a < 2 ∧ g = nI a ∧ i = nI ki ∧ ki < n * n ∧ row < n ∧ row * row ≤ ki ∧ ki < (row + 1) * (row + 1) ∧ frm n T L a B ∧ aP I (nI (B row / 2 ^ (2 * (row * row + 2 * row - ki)) % 4)) n T L ah nm v' I' J' else aP I (-1) n T L ah nm v' I' J') := by
  refine MX.of hA (by decide) (own := RX5) rfl rfl rfl ?_
  intro X Z hl hY1 hY2 hY3 C hr
  obtain ⟨D0, ca0, ad0⟩ := Y
  dsimp only at hA hY1 hY2 hY3
  subst hY1; subst hY2; subst hY3; subst hl
  show G X 3 Z (QG X Z _) I J 0 [(0, .ref (Z.2.2.1 0 0)), (1, .int g), (2, .int i)] []
  obtain ⟨⟨hn1, hn9⟩, -⟩ := id hci.1
  refine g_ildn C dX5_form_0 rfl ?_
  refine g_callS (As := [.int g]) (st := []) C (c_X5_isGraph hA g) wX5_isGraph tX5_isGraph mX5_72 rfl rfl rfl rfl dX5_form_1 ?_
  rintro v9 I9 J9 ⟨h91, h92, h93⟩
  rw [h91, h92, h93]
  clear h91 h92 h93 v9 I9 J9
  show G X _ Z _ I J 4 [(0, .ref (Z.2.2.1 0 0)), (1, .int g), (2, .int i)] [.int (bI (isG g))]
  refine b_if_eq (tgt := 19) C dX5_form_4 rfl (fun c4 => ?_) (fun c4 => ?_)
  · refine g_iconst C ((-1)) dX5_form_19 (by decide) ?_
    exact g_ireturn C hr dX5_form_20 (by rw [if_neg (by first | (rw [c4]; simp; done) | (rw [decide_eq_false (fun q => absurd q.1 (Int32.not_le.mpr c8))]; simp; done) | (rw [decide_eq_false (fun q => c16 q.2)]; simp; done))]; exact ⟨rfl, fun _ _ => rfl, hci⟩)
  · refine g_ildn C dX5_form_7 rfl ?_
    refine g_if_lt (tgt := 19) C dX5_form_8 rfl (fun c8 => ?_) (fun c8 => ?_)
    · refine g_iconst C ((-1)) dX5_form_19 (by decide) ?_
      exact g_ireturn C hr dX5_form_20 (by rw [if_neg (by first | (rw [c4]; simp; done) | (rw [decide_eq_false (fun q => absurd q.1 (Int32.not_le.mpr c8))]; simp; done) | (rw [decide_eq_false (fun q => c16 q.2)]; simp; done))]; exact ⟨rfl, fun _ _ => rfl, hci⟩)
    · refine g_ildn C dX5_form_11 rfl ?_
      refine g_aldn C dX5_form_12 rfl ?_
      refine g_callV (As := []) (st := [.int i]) C (c_X5_formLength hA hci.1) wX5_formLength iX5_formLength sX5_formLength mX5_116 0 0 (by decide) (by decide) rfl rfl rfl rfl rfl rfl rfl rfl dX5_form_13 ?_
      rintro v9 I9 J9 ⟨h91, h92, h93⟩
      rw [h91, h92, h93]
      clear h91 h92 h93 v9 I9 J9
      show G X _ Z _ I J 16 [(0, .ref (Z.2.2.1 0 0)), (1, .int g), (2, .int i)] [.int (nI (n * n)), .int i]
      refine g_icmp_lt (tgt := 21) C dX5_form_16 rfl (fun c16 => ?_) (fun c16 => ?_)
      · have hok : (isG g && decide (0 ≤ i ∧ i < nI (n * n))) = true := by rw [c4, decide_eq_true ⟨Int32.not_lt.mp c8, c16⟩]; rfl
        obtain ⟨a, ha, rfl⟩ := isG_t c4
        obtain ⟨ki, hk0, rfl⟩ := ge0_of (Int32.not_lt.mp c8)
        have hnn : n * n ≤ 81 := Nat.mul_le_mul hn9 hn9
        have hki : ki < n * n := (nI_ltI hk0 (by omega)).mp c16
        refine g_aldn C dX5_form_21 rfl ?_
        refine g_ildn C dX5_form_22 rfl ?_
        refine g_callV (As := [.int (nI a)]) (st := []) C (c_X5_withForm hA hci ha) wX5_withForm iX5_withForm sX5_withForm mX5_120 0 0 (by decide) (by decide) rfl rfl rfl rfl rfl rfl rfl rfl dX5_form_23 ?_
        rintro v9 I2 J2 ⟨h91, hci2, ⟨B, hB1, hB2⟩, hkp, hJ2⟩
        rw [h91]
        clear h91 v9
        show G X _ Z _ I2 J2 26 [(0, .ref (Z.2.2.1 0 0)), (1, .int (nI a)), (2, .int (nI ki))] [.ref (Z.2.2.1 2 a)]
        refine g_ildn C dX5_form_26 rfl ?_
        refine g_callV (As := [.int (nI ki)]) (st := []) C (c_X1_formNumber hA hci2.1 ha (F := B) (fun r hr => ⟨(hB1 r hr).1, Nat.lt_of_lt_of_le (frm_lt hn9 (hci.1.sm4 ha) hB2 hr) (by decide)⟩) hki) wX1_formNumber iX1_formNumber sX1_formNumber mX5_123 2 a (by decide) (show a < 2 by omega) rfl rfl rfl rfl rfl rfl rfl rfl dX5_form_27 ?_
        rintro v9 I9 J9 ⟨⟨row, hr1, hr2, hr3, h91⟩, h92, h93⟩
        rw [h91, h92, h93]
        clear h91 h92 h93 v9 I9 J9
        show G X _ Z _ I2 J2 30 [(0, .ref (Z.2.2.1 0 0)), (1, .int (nI a)), (2, .int (nI ki))] [.int (nI (B row / 2 ^ (2 * (row * row + 2 * row - ki)) % 4))]
        exact g_ireturn C hr dX5_form_30 (by rw [if_pos hok]; exact ⟨a, ki, row, B, ha, rfl, rfl, hki, hr1, hr2, hr3, hB2, rfl, hkp, hci2⟩)
      · refine g_iconst C ((-1)) dX5_form_19 (by decide) ?_
        exact g_ireturn C hr dX5_form_20 (by rw [if_neg (by first | (rw [c4]; simp; done) | (rw [decide_eq_false (fun q => absurd q.1 (Int32.not_le.mpr c8))]; simp; done) | (rw [decide_eq_false (fun q => c16 q.2)]; simp; done))]; exact ⟨rfl, fun _ _ => rfl, hci⟩)

set_option maxRecDepth 100000 in
set_option maxHeartbeats 4000000 in
/-- compare -/
theorem c_X5_compare {l : Launch} {Y : Yk} (hA : AJ Y.2.2) {I : SI} {J : SJ} {n : Nat} {T : Nat → Nat → Nat} {L : Nat → Nat → Nat → Nat} {ah : Bool} {nm : Nat → Nat} (hci : CI I J n T L ah nm) (g : Int32) : MX l Y yX5_compare cX5_compare 2 (some .int) 27 1200 [.ref (Y.2.2 0 0), .int g] I J (fun v' I' J' => if isG g then ∃ a c B B2, a < 2 ∧ g = nI a ∧ frm n T L a B ∧ frm n T L (1 - a) B2 ∧ ((c = -1 ∧ lx n B B2) ∨ (c = 0 ∧ ∀ i, i < n → B i = B2 i) ∨ (c = 1 ∧ lx n B2 B)) ∧ aP I c n T L ah nm v' I' J' else aP I (-2) n T L ah nm v' I' J') := by
  refine MX.of hA (by decide) (own := RX5) rfl rfl rfl ?_
  intro X Z hl hY1 hY2 hY3 C hr
  obtain ⟨D0, ca0, ad0⟩ := Y
  dsimp only at hA hY1 hY2 hY3
  subst hY1; subst hY2; subst hY3; subst hl
  show G X 2 Z (QG X Z _) I J 0 [(0, .ref (Z.2.2.1 0 0)), (1, .int g)] []
  obtain ⟨⟨hn1, hn9⟩, -⟩ := id hci.1
  refine g_ildn C dX5_compare_0 rfl ?_
  refine g_callS (As := [.int g]) (st := []) C (c_X5_isGraph hA g) wX5_isGraph tX5_isGraph mX5_72 rfl rfl rfl rfl dX5_compare_1 ?_
  rintro v9 I9 J9 ⟨h91, h92, h93⟩
  rw [h91, h92, h93]
  clear h91 h92 h93 v9 I9 J9
  show G X _ Z _ I J 4 [(0, .ref (Z.2.2.1 0 0)), (1, .int g)] [.int (bI (isG g))]
  refine b_if_ne (tgt := 10) C dX5_compare_4 rfl (fun c4 => ?_) (fun c4 => ?_)
  · obtain ⟨a, ha, rfl⟩ := isG_t c4
    refine g_aldn C dX5_compare_10 rfl ?_
    refine g_ildn C dX5_compare_11 rfl ?_
    refine g_callV (As := [.int (nI a)]) (st := []) C (c_X5_withForm hA hci ha) wX5_withForm iX5_withForm sX5_withForm mX5_120 0 0 (by decide) (by decide) rfl rfl rfl rfl rfl rfl rfl rfl dX5_compare_12 ?_
    rintro v9 I2 J2 ⟨h91, hci2, ⟨B, hB1, hB2⟩, hkp, hJ2⟩
    rw [h91]
    clear h91 v9
    show G X _ Z _ I2 J2 15 [(0, .ref (Z.2.2.1 0 0)), (1, .int (nI a))] [.ref (Z.2.2.1 2 a)]
    refine g_get C 2 a (by decide) (show a < 2 by omega) u1 rfl 7 rfl fX5_127 rfl rfl dX5_compare_15 ?_
    refine g_aldn C dX5_compare_18 rfl ?_
    refine g_iconst C ((nI 1)) dX5_compare_19 (by decide) ?_
    refine g_ildn C dX5_compare_20 rfl ?_
    refine g_isub (v := (nI (1 - a))) C dX5_compare_21 (pk_sub (by omega)) ?_
    refine g_callV (As := [.int (nI (1 - a))]) (st := [.ref (Z.2.2.1 9 a)]) C (c_X5_withForm hA hci2 (show 1 - a < 2 by omega)) wX5_withForm iX5_withForm sX5_withForm mX5_120 0 0 (by decide) (by decide) rfl rfl rfl rfl rfl rfl rfl rfl dX5_compare_22 ?_
    rintro v9 I3 J3 ⟨h91, hci3, ⟨B3, hC1, hC2⟩, hkp3, hJ3⟩
    rw [h91]
    clear h91 v9
    show G X _ Z _ I3 J3 25 [(0, .ref (Z.2.2.1 0 0)), (1, .int (nI a))] [.ref (Z.2.2.1 2 (1 - a)), .ref (Z.2.2.1 9 a)]
    refine g_get C 2 (1 - a) (by decide) (show 1 - a < 2 by omega) u1 rfl 7 rfl fX5_127 rfl rfl dX5_compare_25 ?_
    refine g_aldn C dX5_compare_28 rfl ?_
    refine g_get C 0 0 (by decide) (by decide) u5 rfl 0 rfl fX5_9 rfl rfl dX5_compare_29 ?_
    refine g_ildn C dX5_compare_32 rfl ?_
    refine g_aald C 1 0 2 (by decide) (by decide) (fun _ _ => rfl) rfl rfl a (show a < 2 by omega) rfl dX5_compare_33 ?_
    refine g_get C 2 a (by decide) (show a < 2 by omega) u1 rfl 0 rfl fX5_131 rfl rfl dX5_compare_34 ?_
    refine g_top (y := (nI n)) (hci3.1.sz ha) ?_
    refine g_callS (As := [.ref (Z.2.2.1 9 a), .ref (Z.2.2.1 9 (1 - a)), .int (nI n)]) (st := []) C (c_X5_compareRows hA (k1 := 9) (r1 := a) (k2 := 9) (r2 := 1 - a) (m1 := 9) (m2 := 9) (A := B) (B := B3) (by decide) ha (by decide) (show 1 - a < 2 by omega) (fun _ _ => rfl) (fun _ _ => rfl) hn9 hn9 rfl rfl (fun i hi => ⟨by rw [hJ3 a (by omega)]; exact (hB1 i hi).1, Nat.lt_of_lt_of_le (frm_lt hn9 (hci.1.sm4 ha) hB2 hi) (by decide)⟩) (fun i hi => ⟨(hC1 i hi).1, Nat.lt_of_lt_of_le (frm_lt hn9 (hci.1.sm4 (by omega)) hC2 hi) (by decide)⟩)) wX5_compareRows tX5_compareRows mX5_134 rfl rfl rfl rfl dX5_compare_37 ?_
    rintro v9 I9 J9 ⟨⟨cr, h91, hcr⟩, h92, h93⟩
    rw [h91, h92, h93]
    clear h91 h92 h93 v9 I9 J9
    show G X _ Z _ I3 J3 40 [(0, .ref (Z.2.2.1 0 0)), (1, .int (nI a))] [.int cr]
    exact g_ireturn C hr dX5_compare_40 (by rw [if_pos c4]; exact ⟨a, cr, B, B3, ha, rfl, hB2, hC2, hcr, rfl, fun q hq => (hkp3 q hq).trans (hkp q hq), hci3⟩)
  · refine g_bipush C ((-2)) dX5_compare_7 (by decide) ?_
    exact g_ireturn C hr dX5_compare_9 (by rw [if_neg (by rw [c4]; decide)]; exact ⟨rfl, fun _ _ => rfl, hci⟩)

/-- what count answers -/
def cntA (n : Nat) (L : Nat → Nat → Nat → Nat) (ah : Bool) (w : Int32) : Int32 := if w = 0 then nI n else if w = 1 then nI (ed n L 0) else if w = 2 then nI (ed n L 1) else if w = 3 then bI ah else if w = 4 then nI (n * n) else -1
theorem tab5 (w : Int32) : w = 0 ∨ w = 1 ∨ w = 2 ∨ w = 3 ∨ w = 4 ∨ ((w.toInt < 0 ∨ 4 < w.toInt) ∧ ∀ n L ah, cntA n L ah w = -1) := by
  by_cases h0 : w = 0
  · exact Or.inl h0
  by_cases h1 : w = 1
  · exact Or.inr (Or.inl h1)
  by_cases h2 : w = 2
  · exact Or.inr (Or.inr (Or.inl h2))
  by_cases h3 : w = 3
  · exact Or.inr (Or.inr (Or.inr (Or.inl h3)))
  by_cases h4 : w = 4
  · exact Or.inr (Or.inr (Or.inr (Or.inr (Or.inl h4))))
  refine Or.inr (Or.inr (Or.inr (Or.inr (Or.inr ⟨?_, fun n L ah => by unfold cntA; rw [if_neg h0, if_neg h1, if_neg h2, if_neg h3, if_neg h4]⟩))))
  have k0 : w.toInt ≠ 0 := fun q => h0 (Int32.toInt_inj.mp q)
  have k1 : w.toInt ≠ 1 := fun q => h1 (Int32.toInt_inj.mp q)
  have k2 : w.toInt ≠ 2 := fun q => h2 (Int32.toInt_inj.mp q)
  have k3 : w.toInt ≠ 3 := fun q => h3 (Int32.toInt_inj.mp q)
  have k4 : w.toInt ≠ 4 := fun q => h4 (Int32.toInt_inj.mp q)
  omega
theorem cntA_0 (n : Nat) (L : Nat → Nat → Nat → Nat) (ah : Bool) : cntA n L ah 0 = nI n := rfl
theorem cntA_1 (n : Nat) (L : Nat → Nat → Nat → Nat) (ah : Bool) : cntA n L ah 1 = nI (ed n L 0) := rfl
theorem cntA_2 (n : Nat) (L : Nat → Nat → Nat → Nat) (ah : Bool) : cntA n L ah 2 = nI (ed n L 1) := rfl
theorem cntA_3 (n : Nat) (L : Nat → Nat → Nat → Nat) (ah : Bool) : cntA n L ah 3 = bI ah := rfl
theorem cntA_4 (n : Nat) (L : Nat → Nat → Nat → Nat) (ah : Bool) : cntA n L ah 4 = nI (n * n) := rfl
set_option maxRecDepth 100000 in
set_option maxHeartbeats 4000000 in
/-- count -/
theorem c_X5_count {l : Launch} {Y : Yk} (hA : AJ Y.2.2) {I : SI} {J : SJ} {n : Nat} {T : Nat → Nat → Nat} {L : Nat → Nat → Nat → Nat} {ah : Bool} {nm : Nat → Nat} (hci : CI I J n T L ah nm) (w : Int32) : MX l Y yX5_count cX5_count 2 (some .int) 27 1200 [.ref (Y.2.2 0 0), .int w] I J (aP I (cntA n L ah w) n T L ah nm) := by
  refine MX.of hA (by decide) (own := RX5) rfl rfl rfl ?_
  intro X Z hl hY1 hY2 hY3 C hr
  obtain ⟨D0, ca0, ad0⟩ := Y
  dsimp only at hA hY1 hY2 hY3
  subst hY1; subst hY2; subst hY3; subst hl
  show G X 2 Z (QG X Z _) I J 0 [(0, .ref (Z.2.2.1 0 0)), (1, .int w)] []
  obtain ⟨⟨hn1, hn9⟩, -⟩ := id hci.1
  refine g_ildn C dX5_count_0 rfl ?_
  rcases tab5 w with hw | hw | hw | hw | hw | hw
  · subst hw
    refine g_tabIn (tgt := 36) C dX5_count_1 (by decide) (by decide) rfl rfl ?_
    refine g_aldn C dX5_count_36 rfl ?_
    refine g_get C 0 0 (by decide) (by decide) u5 rfl 0 rfl fX5_9 rfl rfl dX5_count_37 ?_
    refine g_iconst C ((nI 0)) dX5_count_40 (by decide) ?_
    refine g_aald C 1 0 2 (by decide) (by decide) (fun _ _ => rfl) rfl rfl 0 (show 0 < 2 by omega) rfl dX5_count_41 ?_
    refine g_get C 2 0 (by decide) (by decide) u1 rfl 0 rfl fX5_131 rfl rfl dX5_count_42 ?_
    refine g_top (y := (nI n)) (hci.1.sz (by decide)) ?_
    exact g_ireturn C hr dX5_count_45 ⟨rfl, fun _ _ => rfl, hci⟩
  · subst hw
    refine g_tabIn (tgt := 46) C dX5_count_1 (by decide) (by decide) rfl rfl ?_
    refine g_aldn C dX5_count_46 rfl ?_
    refine g_get C 0 0 (by decide) (by decide) u5 rfl 0 rfl fX5_9 rfl rfl dX5_count_47 ?_
    refine g_iconst C ((nI 0)) dX5_count_50 (by decide) ?_
    refine g_aald C 1 0 2 (by decide) (by decide) (fun _ _ => rfl) rfl rfl 0 (show 0 < 2 by omega) rfl dX5_count_51 ?_
    refine g_callV (As := []) (st := []) C (c_X1_edges hA hci.1 (by decide)) wX1_edges iX1_edges sX1_edges mX5_138 2 0 (by decide) (by decide) rfl rfl rfl rfl rfl rfl rfl rfl dX5_count_52 ?_
    rintro v9 I9 J9 ⟨h91, h92, h93⟩
    rw [h91, h92, h93]
    clear h91 h92 h93 v9 I9 J9
    show G X _ Z _ I J 55 [(0, .ref (Z.2.2.1 0 0)), (1, .int (1 : Int32))] [.int (nI (ed n L 0))]
    exact g_ireturn C hr dX5_count_55 ⟨rfl, fun _ _ => rfl, hci⟩
  · subst hw
    refine g_tabIn (tgt := 56) C dX5_count_1 (by decide) (by decide) rfl rfl ?_
    refine g_aldn C dX5_count_56 rfl ?_
    refine g_get C 0 0 (by decide) (by decide) u5 rfl 0 rfl fX5_9 rfl rfl dX5_count_57 ?_
    refine g_iconst C ((nI 1)) dX5_count_60 (by decide) ?_
    refine g_aald C 1 0 2 (by decide) (by decide) (fun _ _ => rfl) rfl rfl 1 (show 1 < 2 by omega) rfl dX5_count_61 ?_
    refine g_callV (As := []) (st := []) C (c_X1_edges hA hci.1 (by decide)) wX1_edges iX1_edges sX1_edges mX5_138 2 1 (by decide) (by decide) rfl rfl rfl rfl rfl rfl rfl rfl dX5_count_62 ?_
    rintro v9 I9 J9 ⟨h91, h92, h93⟩
    rw [h91, h92, h93]
    clear h91 h92 h93 v9 I9 J9
    show G X _ Z _ I J 65 [(0, .ref (Z.2.2.1 0 0)), (1, .int (2 : Int32))] [.int (nI (ed n L 1))]
    exact g_ireturn C hr dX5_count_65 ⟨rfl, fun _ _ => rfl, hci⟩
  · subst hw
    refine g_tabIn (tgt := 66) C dX5_count_1 (by decide) (by decide) rfl rfl ?_
    refine g_aldn C dX5_count_66 rfl ?_
    refine g_get C 0 0 (by decide) (by decide) u5 rfl 6 rfl fX5_96 rfl rfl dX5_count_67 ?_
    refine g_top (y := (bI ah)) hci.2.2.2.1 ?_
    refine b_if_eq (tgt := 77) C dX5_count_70 rfl (fun c70 => ?_) (fun c70 => ?_)
    · refine g_iconst C ((nI 0)) dX5_count_77 (by decide) ?_
      exact g_ireturn C hr dX5_count_78 ⟨by rw [cntA_3, c70]; rfl, fun _ _ => rfl, hci⟩
    · refine g_iconst C ((nI 1)) dX5_count_73 (by decide) ?_
      refine g_goto (tgt := 78) C dX5_count_74 rfl ?_
      exact g_ireturn C hr dX5_count_78 ⟨by rw [cntA_3, c70]; rfl, fun _ _ => rfl, hci⟩
  · subst hw
    refine g_tabIn (tgt := 79) C dX5_count_1 (by decide) (by decide) rfl rfl ?_
    refine g_aldn C dX5_count_79 rfl ?_
    refine g_callV (As := []) (st := []) C (c_X5_formLength hA hci.1) wX5_formLength iX5_formLength sX5_formLength mX5_116 0 0 (by decide) (by decide) rfl rfl rfl rfl rfl rfl rfl rfl dX5_count_80 ?_
    rintro v9 I9 J9 ⟨h91, h92, h93⟩
    rw [h91, h92, h93]
    clear h91 h92 h93 v9 I9 J9
    show G X _ Z _ I J 83 [(0, .ref (Z.2.2.1 0 0)), (1, .int (4 : Int32))] [.int (nI (n * n))]
    exact g_ireturn C hr dX5_count_83 ⟨rfl, fun _ _ => rfl, hci⟩
  · refine g_tabOut (tgt := 84) C dX5_count_1 hw.1 rfl ?_
    refine g_iconst C ((-1)) dX5_count_84 (by decide) ?_
    exact g_ireturn C hr dX5_count_85 ⟨by rw [hw.2], fun _ _ => rfl, hci⟩

