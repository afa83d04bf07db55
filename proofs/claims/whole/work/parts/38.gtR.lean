/-! ===== GraphTwins: the face: begin, label, tint, exchange, copy ===== -/
/-- a call's end: it answered r, the class's object is as told, the reference's cells stay -/
def aP (I : SI) (r : Int32) (n : Nat) (T : Nat → Nat → Nat) (L : Nat → Nat → Nat → Nat) (ah : Bool) (nm : Nat → Nat) : Option Value → SI → SJ → Prop := fun v' I' J' => v' = some (.int r) ∧ keep I I' ∧ CI I' J' n T L ah nm
/-- one label of graph a becomes x -/
def upL (L : Nat → Nat → Nat → Nat) (a b c x : Nat) : Nat → Nat → Nat → Nat := fun g u v => if g = a ∧ u = b ∧ v = c then x else L g u v
def upT (T : Nat → Nat → Nat) (a b x : Nat) : Nat → Nat → Nat := fun g v => if g = a ∧ v = b then x else T g v
/-- vertices b and c of graph a are exchanged -/
def exL (L : Nat → Nat → Nat → Nat) (a b c : Nat) : Nat → Nat → Nat → Nat := fun g u v => if g = a then L g (swp b c u) (swp b c v) else L g u v
def exT (T : Nat → Nat → Nat) (a b c : Nat) : Nat → Nat → Nat := fun g v => if g = a then T g (swp b c v) else T g v
def cpL (L : Nat → Nat → Nat → Nat) (a : Nat) : Nat → Nat → Nat → Nat := fun g u v => if g = a then L (1 - a) u v else L g u v
def cpT (T : Nat → Nat → Nat) (a : Nat) : Nat → Nat → Nat := fun g v => if g = a then T (1 - a) v else T g v
theorem nc_fin {I I1 : SI} {J : SJ} {n : Nat} {T T' : Nat → Nat → Nat} {L L' : Nat → Nat → Nat → Nat} {ah : Bool} {nm : Nat → Nat} {g : Nat} {r : Int32} (hci : CI I J n T L ah nm) (hv : CV I1 n T' L') (hd : ∀ g v, g < 2 → v < n → L' g v v = 0) (ho : ∀ a, a ≠ g → T' a = T a ∧ L' a = L a) (h2 : I1 2 = I 2) (h8 : I1 8 = I 8) (hk : keep I I1) : aP I r n T' L' false nm (some (.int r)) (sK (sK I1 2 (up2 (up2 (I1 2) g 6 (nI 0)) g 8 (nI 0))) 0 (up2 (up2 (I1 0) 0 5 (nI 0)) 0 6 (nI 0))) J := by
  have e2 : (sK (sK I1 2 (up2 (up2 (I1 2) g 6 (nI 0)) g 8 (nI 0))) 0 (up2 (up2 (I1 0) 0 5 (nI 0)) 0 6 (nI 0))) 2 = up2 (up2 (I1 2) g 6 (nI 0)) g 8 (nI 0) := (sK_ne (by decide)).trans (sK_self _ _ _)
  have e0 : (sK (sK I1 2 (up2 (up2 (I1 2) g 6 (nI 0)) g 8 (nI 0))) 0 (up2 (up2 (I1 0) 0 5 (nI 0)) 0 6 (nI 0))) 0 = up2 (up2 (I1 0) 0 5 (nI 0)) 0 6 (nI 0) := sK_self _ _ _
  have eo : ∀ q, q ≠ 0 → q ≠ 2 → (sK (sK I1 2 (up2 (up2 (I1 2) g 6 (nI 0)) g 8 (nI 0))) 0 (up2 (up2 (I1 0) 0 5 (nI 0)) 0 6 (nI 0))) q = I1 q := fun q a b => (sK_ne a).trans (sK_ne b)
  refine ⟨rfl, fun q hq => (eo q (by omega) (by omega)).trans (hk q hq), ?_⟩
  refine hci.chg (g := g) (hv.of2 (fun b => by rw [e2, up2_at, if_neg (by omega), up2_at, if_neg (by omega)]) (eo 3 (by decide) (by decide)) (eo 5 (by decide) (by decide))) hd (by rw [e0, up2_ne (by decide), up2_self]) (by rw [e0, up2_self]) (by rw [e2, up2_ne (by decide), up2_self]) (by rw [e2, up2_self]) (fun a ha => ⟨(ho a ha).1, (ho a ha).2, ?_⟩) ((eo 8 (by decide) (by decide)).trans h8) rfl nm
  rw [e2, up2_row ha, up2_row ha, h2]
theorem lb_cv {I : SI} {n : Nat} {T : Nat → Nat → Nat} {L : Nat → Nat → Nat → Nat} {a b c y : Nat} (h : CV I n T L) (ha : a < 2) (hb : b < n) (hc : c < n) (hy : y < 4) : CV (sK I 5 (up2 (I 5) (9 * a + b) c (nI y))) n T (upL L a b c y) := by
  refine ⟨h.1, fun g hg => ⟨by rw [sK_ne (by decide)]; exact h.sz hg, fun v hv => by rw [sK_ne (by decide)]; exact (h.2 g hg).2.1 v hv, fun u v hu hv => ?_⟩⟩
  have hn9 := h.1.2
  rw [sK_self, up2_at]
  unfold upL
  by_cases e : g = a ∧ u = b ∧ v = c
  · rw [if_pos (by omega), if_pos e]; exact ⟨rfl, hy⟩
  · rw [if_neg (by omega), if_neg e]; exact (h.2 g hg).2.2 u v hu hv
set_option maxRecDepth 100000 in
set_option maxHeartbeats 4000000 in
/-- label -/
theorem c_X5_label {l : Launch} {Y : Yk} (hA : AJ Y.2.2) {I : SI} {J : SJ} {n : Nat} {T : Nat → Nat → Nat} {L : Nat → Nat → Nat → Nat} {ah : Bool} {nm : Nat → Nat} (hci : CI I J n T L ah nm) (g u v lb : Int32) : MX l Y yX5_label cX5_label 7 (some .int) 3 120 [.ref (Y.2.2 0 0), .int g, .int u, .int v, .int lb] I J (fun v' I' J' => if isV n g u && (isV n g v && (isM lb && decide (u ≠ v))) then ∃ a b c x, a < 2 ∧ b < n ∧ c < n ∧ x < 4 ∧ g = nI a ∧ u = nI b ∧ v = nI c ∧ lb = nI x ∧ aP I (nI (L a b c)) n T (upL L a b c x) false nm v' I' J' else aP I (-1) n T L ah nm v' I' J') := by
  refine MX.of hA (by decide) (own := RX5) rfl rfl rfl ?_
  intro X Z hl hY1 hY2 hY3 C hr
  obtain ⟨D0, ca0, ad0⟩ := Y
  dsimp only at hA hY1 hY2 hY3
  subst hY1; subst hY2; subst hY3; subst hl
  show G X 7 Z (QG X Z _) I J 0 [(0, .ref (Z.2.2.1 0 0)), (1, .int g), (2, .int u), (3, .int v), (4, .int lb)] []
  obtain ⟨⟨hn1, hn9⟩, -⟩ := id hci.1
  refine g_aldn C dX5_label_0 rfl ?_
  refine g_ildn C dX5_label_1 rfl ?_
  refine g_ildn C dX5_label_2 rfl ?_
  refine g_callV (As := [.int g, .int u]) (st := []) C (c_X5_isVertex hA hci.1 g u) wX5_isVertex iX5_isVertex sX5_isVertex mX5_52 0 0 (by decide) (by decide) rfl rfl rfl rfl rfl rfl rfl rfl dX5_label_3 ?_
  rintro v9 I9 J9 ⟨h91, h92, h93⟩
  rw [h91, h92, h93]
  clear h91 h92 h93 v9 I9 J9
  show G X _ Z _ I J 6 [(0, .ref (Z.2.2.1 0 0)), (1, .int g), (2, .int u), (3, .int v), (4, .int lb)] [.int (bI (isV n g u))]
  refine b_if_eq (tgt := 31) C dX5_label_6 rfl (fun c6 => ?_) (fun c6 => ?_)
  · refine g_iconst C ((-1)) dX5_label_31 (by decide) ?_
    exact g_ireturn C hr dX5_label_32 (by rw [if_neg (by first | (rw [c6]; simp; done) | (rw [c6, c15]; simp; done) | (rw [c6, c15, c23]; simp; done) | (rw [c6, c15, c23, decide_eq_false (fun q => q c28)]; simp; done))]; exact ⟨rfl, fun _ _ => rfl, hci⟩)
  · refine g_aldn C dX5_label_9 rfl ?_
    refine g_ildn C dX5_label_10 rfl ?_
    refine g_ildn C dX5_label_11 rfl ?_
    refine g_callV (As := [.int g, .int v]) (st := []) C (c_X5_isVertex hA hci.1 g v) wX5_isVertex iX5_isVertex sX5_isVertex mX5_52 0 0 (by decide) (by decide) rfl rfl rfl rfl rfl rfl rfl rfl dX5_label_12 ?_
    rintro v9 I9 J9 ⟨h91, h92, h93⟩
    rw [h91, h92, h93]
    clear h91 h92 h93 v9 I9 J9
    show G X _ Z _ I J 15 [(0, .ref (Z.2.2.1 0 0)), (1, .int g), (2, .int u), (3, .int v), (4, .int lb)] [.int (bI (isV n g v))]
    refine b_if_eq (tgt := 31) C dX5_label_15 rfl (fun c15 => ?_) (fun c15 => ?_)
    · refine g_iconst C ((-1)) dX5_label_31 (by decide) ?_
      exact g_ireturn C hr dX5_label_32 (by rw [if_neg (by first | (rw [c6]; simp; done) | (rw [c6, c15]; simp; done) | (rw [c6, c15, c23]; simp; done) | (rw [c6, c15, c23, decide_eq_false (fun q => q c28)]; simp; done))]; exact ⟨rfl, fun _ _ => rfl, hci⟩)
    · refine g_ild C dX5_label_18 rfl ?_
      refine g_callS (As := [.int lb]) (st := []) C (c_X5_isMark hA lb) wX5_isMark tX5_isMark mX5_56 rfl rfl rfl rfl dX5_label_20 ?_
      rintro v9 I9 J9 ⟨h91, h92, h93⟩
      rw [h91, h92, h93]
      clear h91 h92 h93 v9 I9 J9
      show G X _ Z _ I J 23 [(0, .ref (Z.2.2.1 0 0)), (1, .int g), (2, .int u), (3, .int v), (4, .int lb)] [.int (bI (isM lb))]
      refine b_if_eq (tgt := 31) C dX5_label_23 rfl (fun c23 => ?_) (fun c23 => ?_)
      · refine g_iconst C ((-1)) dX5_label_31 (by decide) ?_
        exact g_ireturn C hr dX5_label_32 (by rw [if_neg (by first | (rw [c6]; simp; done) | (rw [c6, c15]; simp; done) | (rw [c6, c15, c23]; simp; done) | (rw [c6, c15, c23, decide_eq_false (fun q => q c28)]; simp; done))]; exact ⟨rfl, fun _ _ => rfl, hci⟩)
      · refine g_ildn C dX5_label_26 rfl ?_
        refine g_ildn C dX5_label_27 rfl ?_
        refine g_icmp_ne (tgt := 33) C dX5_label_28 rfl (fun c28 => ?_) (fun c28 => ?_)
        · obtain ⟨a, b, ha, hb, rfl, rfl⟩ := isV_t (by omega) c6
          obtain ⟨a2, cc, -, hc2, ea, rfl⟩ := isV_t (by omega) c15
          obtain ⟨y, hy, rfl⟩ := isM_t c23
          have hok : (isV n (nI a) (nI b) && (isV n (nI a) (nI cc) && (isM (nI y) && decide (nI b ≠ nI cc)))) = true := by rw [c6, c15, c23, decide_eq_true c28]; rfl
          have hbc : b ≠ cc := fun q => c28 (by rw [q])
          refine g_aldn C dX5_label_33 rfl ?_
          refine g_get C 0 0 (by decide) (by decide) u5 rfl 0 rfl fX5_9 rfl rfl dX5_label_34 ?_
          refine g_ildn C dX5_label_37 rfl ?_
          refine g_aald C 1 0 2 (by decide) (by decide) (fun _ _ => rfl) rfl rfl a (show a < 2 by omega) rfl dX5_label_38 ?_
          refine g_ast (lv' := [(5, .ref (Z.2.2.1 2 a)), (0, .ref (Z.2.2.1 0 0)), (1, .int (nI a)), (2, .int (nI b)), (3, .int (nI cc)), (4, .int (nI y))]) C dX5_label_39 rfl rfl ?_
          refine g_ald C dX5_label_41 rfl ?_
          refine g_get C 2 a (by decide) (show a < 2 by omega) u1 rfl 2 rfl fX5_60 rfl rfl dX5_label_43 ?_
          refine g_ildn C dX5_label_46 rfl ?_
          refine g_aald C 4 a 3 (by decide) (show a < 2 by omega) (fun _ _ => rfl) rfl rfl b (show b < 9 by omega) rfl dX5_label_47 ?_
          refine g_ildn C dX5_label_48 rfl ?_
          refine g_iald C 5 (9 * a + b) (by decide) (show 9 * a + b < 18 by omega) (fun _ _ => rfl) cc (show cc < 9 by omega) rfl dX5_label_49 (v := (nI (L a b cc))) (hci.1.l ha hb hc2) ?_
          refine g_ist (lv' := [(6, .int (nI (L a b cc))), (5, .ref (Z.2.2.1 2 a)), (0, .ref (Z.2.2.1 0 0)), (1, .int (nI a)), (2, .int (nI b)), (3, .int (nI cc)), (4, .int (nI y))]) C dX5_label_50 rfl rfl ?_
          refine g_ald C dX5_label_52 rfl ?_
          refine g_get C 2 a (by decide) (show a < 2 by omega) u1 rfl 2 rfl fX5_60 rfl rfl dX5_label_54 ?_
          refine g_ildn C dX5_label_57 rfl ?_
          refine g_aald C 4 a 3 (by decide) (show a < 2 by omega) (fun _ _ => rfl) rfl rfl b (show b < 9 by omega) rfl dX5_label_58 ?_
          refine g_ildn C dX5_label_59 rfl ?_
          refine g_ild C dX5_label_60 rfl ?_
          refine g_iast C 5 (9 * a + b) (by decide) (show 9 * a + b < 18 by omega) (fun _ _ => rfl) cc (show cc < 9 by omega) rfl dX5_label_62 ?_
          refine g_I (I1 := sK I 5 (up2 (I 5) (9 * a + b) cc (nI y))) rfl ?_
          refine g_aldn C dX5_label_63 rfl ?_
          refine g_ald C dX5_label_64 rfl ?_
          refine g_callV (As := [.ref (Z.2.2.1 2 a)]) (st := []) C (c_X5_noteChange hA (g := a) (by omega)) wX5_noteChange iX5_noteChange sX5_noteChange mX5_48 0 0 (by decide) (by decide) rfl rfl rfl rfl rfl rfl rfl rfl dX5_label_66 ?_
          rintro v9 I9 J9 ⟨h91, h92, h93⟩
          rw [h91, h92, h93]
          clear h91 h92 h93 v9 I9 J9
          show G X _ Z _ (sK (sK (sK I 5 (up2 (I 5) (9 * a + b) cc (nI y))) 2 (up2 (up2 ((sK I 5 (up2 (I 5) (9 * a + b) cc (nI y))) 2) a 6 (nI 0)) a 8 (nI 0))) 0 (up2 (up2 ((sK I 5 (up2 (I 5) (9 * a + b) cc (nI y))) 0) 0 5 (nI 0)) 0 6 (nI 0))) J 69 [(6, .int (nI (L a b cc))), (5, .ref (Z.2.2.1 2 a)), (0, .ref (Z.2.2.1 0 0)), (1, .int (nI a)), (2, .int (nI b)), (3, .int (nI cc)), (4, .int (nI y))] []
          refine g_ild C dX5_label_69 rfl ?_
          exact g_ireturn C hr dX5_label_71 (by rw [if_pos hok]; exact ⟨a, b, cc, y, ha, hb, hc2, hy, rfl, rfl, rfl, rfl, nc_fin hci (lb_cv hci.1 ha hb hc2 hy) (fun g2 v2 h1 h2 => by unfold upL; rw [if_neg (fun q => hbc (by omega))]; exact hci.2.1 g2 v2 h1 h2) (fun a2 h => ⟨rfl, by funext u2 v2; unfold upL; rw [if_neg (fun q => h q.1)]⟩) (sK_ne (by decide)) (sK_ne (by decide)) (fun q hq => sK_ne (by omega))⟩)
        · refine g_iconst C ((-1)) dX5_label_31 (by decide) ?_
          exact g_ireturn C hr dX5_label_32 (by rw [if_neg (by first | (rw [c6]; simp; done) | (rw [c6, c15]; simp; done) | (rw [c6, c15, c23]; simp; done) | (rw [c6, c15, c23, decide_eq_false (fun q => q c28)]; simp; done))]; exact ⟨rfl, fun _ _ => rfl, hci⟩)

theorem tn_cv {I : SI} {n : Nat} {T : Nat → Nat → Nat} {L : Nat → Nat → Nat → Nat} {a b y : Nat} (h : CV I n T L) (ha : a < 2) (hb : b < n) (hy : y < 4) : CV (sK I 3 (up2 (I 3) a b (nI y))) n (upT T a b y) L := by
  refine ⟨h.1, fun g hg => ⟨by rw [sK_ne (by decide)]; exact h.sz hg, fun v hv => ?_, fun u v hu hv => by rw [sK_ne (by decide)]; exact (h.2 g hg).2.2 u v hu hv⟩⟩
  rw [sK_self, up2_at]
  unfold upT
  by_cases e : g = a ∧ v = b
  · rw [if_pos e, if_pos e]; exact ⟨rfl, hy⟩
  · rw [if_neg e, if_neg e]; exact (h.2 g hg).2.1 v hv
set_option maxRecDepth 100000 in
set_option maxHeartbeats 4000000 in
/-- tint -/
theorem c_X5_tint {l : Launch} {Y : Yk} (hA : AJ Y.2.2) {I : SI} {J : SJ} {n : Nat} {T : Nat → Nat → Nat} {L : Nat → Nat → Nat → Nat} {ah : Bool} {nm : Nat → Nat} (hci : CI I J n T L ah nm) (g v t : Int32) : MX l Y yX5_tint cX5_tint 6 (some .int) 3 120 [.ref (Y.2.2 0 0), .int g, .int v, .int t] I J (fun v' I' J' => if isV n g v && isM t then ∃ a b x, a < 2 ∧ b < n ∧ x < 4 ∧ g = nI a ∧ v = nI b ∧ t = nI x ∧ aP I (nI (T a b)) n (upT T a b x) L false nm v' I' J' else aP I (-1) n T L ah nm v' I' J') := by
  refine MX.of hA (by decide) (own := RX5) rfl rfl rfl ?_
  intro X Z hl hY1 hY2 hY3 C hr
  obtain ⟨D0, ca0, ad0⟩ := Y
  dsimp only at hA hY1 hY2 hY3
  subst hY1; subst hY2; subst hY3; subst hl
  show G X 6 Z (QG X Z _) I J 0 [(0, .ref (Z.2.2.1 0 0)), (1, .int g), (2, .int v), (3, .int t)] []
  obtain ⟨⟨hn1, hn9⟩, -⟩ := id hci.1
  refine g_aldn C dX5_tint_0 rfl ?_
  refine g_ildn C dX5_tint_1 rfl ?_
  refine g_ildn C dX5_tint_2 rfl ?_
  refine g_callV (As := [.int g, .int v]) (st := []) C (c_X5_isVertex hA hci.1 g v) wX5_isVertex iX5_isVertex sX5_isVertex mX5_52 0 0 (by decide) (by decide) rfl rfl rfl rfl rfl rfl rfl rfl dX5_tint_3 ?_
  rintro v9 I9 J9 ⟨h91, h92, h93⟩
  rw [h91, h92, h93]
  clear h91 h92 h93 v9 I9 J9
  show G X _ Z _ I J 6 [(0, .ref (Z.2.2.1 0 0)), (1, .int g), (2, .int v), (3, .int t)] [.int (bI (isV n g v))]
  refine b_if_eq (tgt := 16) C dX5_tint_6 rfl (fun c6 => ?_) (fun c6 => ?_)
  · refine g_iconst C ((-1)) dX5_tint_16 (by decide) ?_
    exact g_ireturn C hr dX5_tint_17 (by rw [if_neg (by first | (rw [c6, c13]; simp) | (rw [c6]; simp))]; exact ⟨rfl, fun _ _ => rfl, hci⟩)
  · refine g_ildn C dX5_tint_9 rfl ?_
    refine g_callS (As := [.int t]) (st := []) C (c_X5_isMark hA t) wX5_isMark tX5_isMark mX5_56 rfl rfl rfl rfl dX5_tint_10 ?_
    rintro v9 I9 J9 ⟨h91, h92, h93⟩
    rw [h91, h92, h93]
    clear h91 h92 h93 v9 I9 J9
    show G X _ Z _ I J 13 [(0, .ref (Z.2.2.1 0 0)), (1, .int g), (2, .int v), (3, .int t)] [.int (bI (isM t))]
    refine b_if_ne (tgt := 18) C dX5_tint_13 rfl (fun c13 => ?_) (fun c13 => ?_)
    · obtain ⟨a, b, ha, hb, rfl, rfl⟩ := isV_t (by omega) c6
      obtain ⟨y, hy, rfl⟩ := isM_t c13
      have hok : (isV n (nI a) (nI b) && isM (nI y)) = true := by rw [c6, c13]; rfl
      refine g_aldn C dX5_tint_18 rfl ?_
      refine g_get C 0 0 (by decide) (by decide) u5 rfl 0 rfl fX5_9 rfl rfl dX5_tint_19 ?_
      refine g_ildn C dX5_tint_22 rfl ?_
      refine g_aald C 1 0 2 (by decide) (by decide) (fun _ _ => rfl) rfl rfl a (show a < 2 by omega) rfl dX5_tint_23 ?_
      refine g_ast (lv' := [(4, .ref (Z.2.2.1 2 a)), (0, .ref (Z.2.2.1 0 0)), (1, .int (nI a)), (2, .int (nI b)), (3, .int (nI y))]) C dX5_tint_24 rfl rfl ?_
      refine g_ald C dX5_tint_26 rfl ?_
      refine g_get C 2 a (by decide) (show a < 2 by omega) u1 rfl 1 rfl fX5_64 rfl rfl dX5_tint_28 ?_
      refine g_ildn C dX5_tint_31 rfl ?_
      refine g_iald C 3 a (by decide) (show a < 2 by omega) (fun _ _ => rfl) b (show b < 9 by omega) rfl dX5_tint_32 (v := (nI (T a b))) (hci.1.t ha hb) ?_
      refine g_ist (lv' := [(5, .int (nI (T a b))), (4, .ref (Z.2.2.1 2 a)), (0, .ref (Z.2.2.1 0 0)), (1, .int (nI a)), (2, .int (nI b)), (3, .int (nI y))]) C dX5_tint_33 rfl rfl ?_
      refine g_ald C dX5_tint_35 rfl ?_
      refine g_get C 2 a (by decide) (show a < 2 by omega) u1 rfl 1 rfl fX5_64 rfl rfl dX5_tint_37 ?_
      refine g_ildn C dX5_tint_40 rfl ?_
      refine g_ildn C dX5_tint_41 rfl ?_
      refine g_iast C 3 a (by decide) (show a < 2 by omega) (fun _ _ => rfl) b (show b < 9 by omega) rfl dX5_tint_42 ?_
      refine g_I (I1 := sK I 3 (up2 (I 3) a b (nI y))) rfl ?_
      refine g_aldn C dX5_tint_43 rfl ?_
      refine g_ald C dX5_tint_44 rfl ?_
      refine g_callV (As := [.ref (Z.2.2.1 2 a)]) (st := []) C (c_X5_noteChange hA (g := a) (by omega)) wX5_noteChange iX5_noteChange sX5_noteChange mX5_48 0 0 (by decide) (by decide) rfl rfl rfl rfl rfl rfl rfl rfl dX5_tint_46 ?_
      rintro v9 I9 J9 ⟨h91, h92, h93⟩
      rw [h91, h92, h93]
      clear h91 h92 h93 v9 I9 J9
      show G X _ Z _ (sK (sK (sK I 3 (up2 (I 3) a b (nI y))) 2 (up2 (up2 ((sK I 3 (up2 (I 3) a b (nI y))) 2) a 6 (nI 0)) a 8 (nI 0))) 0 (up2 (up2 ((sK I 3 (up2 (I 3) a b (nI y))) 0) 0 5 (nI 0)) 0 6 (nI 0))) J 49 [(5, .int (nI (T a b))), (4, .ref (Z.2.2.1 2 a)), (0, .ref (Z.2.2.1 0 0)), (1, .int (nI a)), (2, .int (nI b)), (3, .int (nI y))] []
      refine g_ild C dX5_tint_49 rfl ?_
      exact g_ireturn C hr dX5_tint_51 (by rw [if_pos hok]; exact ⟨a, b, y, ha, hb, hy, rfl, rfl, rfl, nc_fin hci (tn_cv hci.1 ha hb hy) hci.2.1 (fun a2 h => ⟨by funext v2; unfold upT; rw [if_neg (fun q => h q.1)], rfl⟩) (sK_ne (by decide)) (sK_ne (by decide)) (fun q hq => sK_ne (by omega))⟩)
    · refine g_iconst C ((-1)) dX5_tint_16 (by decide) ?_
      exact g_ireturn C hr dX5_tint_17 (by rw [if_neg (by first | (rw [c6, c13]; simp) | (rw [c6]; simp))]; exact ⟨rfl, fun _ _ => rfl, hci⟩)

theorem ex_cv {I : SI} {n : Nat} {T : Nat → Nat → Nat} {L : Nat → Nat → Nat → Nat} {a b cc : Nat} (h : CV I n T L) (ha : a < 2) (hb : b < n) (hc : cc < n) : CV (sK (sK I 3 (up2 (up2 (I 3) a b (I 3 a cc)) a cc (I 3 a b))) 5 (sw2 (sw1 (I 5) (9 * a + b) (9 * a + cc) n) a b cc n)) n (exT T a b cc) (exL L a b cc) := by
  have hn9 := h.1.2
  refine ⟨h.1, fun g hg => ⟨by rw [sK_ne (by decide), sK_ne (by decide)]; exact h.sz hg, fun v hv => ?_, fun u v hu hv => ?_⟩⟩
  · rw [sK_ne (by decide), sK_self, up2_at, up2_at]
    unfold exT
    by_cases e : g = a
    · subst e
      rw [if_pos rfl]
      by_cases e1 : v = cc
      · subst e1; rw [if_pos ⟨rfl, rfl⟩, swp_r]; exact (h.2 g hg).2.1 b hb
      · rw [if_neg (fun q => e1 q.2)]
        by_cases e2 : v = b
        · subst e2; rw [if_pos ⟨rfl, rfl⟩, swp_l]; exact (h.2 g hg).2.1 cc hc
        · rw [if_neg (fun q => e2 q.2), swp_o e2 e1]; exact (h.2 g hg).2.1 v hv
    · rw [if_neg (fun q => e q.1), if_neg (fun q => e q.1), if_neg e]; exact (h.2 g hg).2.1 v hv
  · rw [sK_self]
    unfold exL sw2 sw1
    by_cases e : g = a
    · subst e
      rw [if_pos (by omega), if_pos rfl]
      have hs := swp_lt hb hc hv
      have es : (if v = b then cc else if v = cc then b else v) = swp b cc v := rfl
      rw [es, if_pos hs]
      have er : (if 9 * g + u = 9 * g + b then 9 * g + cc else if 9 * g + u = 9 * g + cc then 9 * g + b else 9 * g + u) = 9 * g + swp b cc u := by
        unfold swp
        by_cases e1 : u = b
        · rw [if_pos (by omega), if_pos e1]
        · rw [if_neg (by omega), if_neg e1]
          by_cases e2 : u = cc
          · rw [if_pos (by omega), if_pos e2]
          · rw [if_neg (by omega), if_neg e2]
      rw [er]
      exact (h.2 g hg).2.2 _ _ (swp_lt hb hc hu) hs
    · rw [if_neg (by omega), if_neg e]
      by_cases q : v < n
      · rw [if_pos q, if_neg (by omega), if_neg (by omega)]; exact (h.2 g hg).2.2 u v hu hv
      · exact absurd hv q
set_option maxRecDepth 100000 in
set_option maxHeartbeats 4000000 in
/-- exchange -/
theorem c_X5_exchange {l : Launch} {Y : Yk} (hA : AJ Y.2.2) {I : SI} {J : SJ} {n : Nat} {T : Nat → Nat → Nat} {L : Nat → Nat → Nat → Nat} {ah : Bool} {nm : Nat → Nat} (hci : CI I J n T L ah nm) (g u v : Int32) : MX l Y yX5_exchange cX5_exchange 4 (some .int) 3 120 [.ref (Y.2.2 0 0), .int g, .int u, .int v] I J (fun v' I' J' => if isV n g u && isV n g v then ∃ a b c, a < 2 ∧ b < n ∧ c < n ∧ g = nI a ∧ u = nI b ∧ v = nI c ∧ aP I (nI 0) n (exT T a b c) (exL L a b c) false nm v' I' J' else aP I (-1) n T L ah nm v' I' J') := by
  refine MX.of hA (by decide) (own := RX5) rfl rfl rfl ?_
  intro X Z hl hY1 hY2 hY3 C hr
  obtain ⟨D0, ca0, ad0⟩ := Y
  dsimp only at hA hY1 hY2 hY3
  subst hY1; subst hY2; subst hY3; subst hl
  show G X 4 Z (QG X Z _) I J 0 [(0, .ref (Z.2.2.1 0 0)), (1, .int g), (2, .int u), (3, .int v)] []
  obtain ⟨⟨hn1, hn9⟩, -⟩ := id hci.1
  refine g_aldn C dX5_exchange_0 rfl ?_
  refine g_ildn C dX5_exchange_1 rfl ?_
  refine g_ildn C dX5_exchange_2 rfl ?_
  refine g_callV (As := [.int g, .int u]) (st := []) C (c_X5_isVertex hA hci.1 g u) wX5_isVertex iX5_isVertex sX5_isVertex mX5_52 0 0 (by decide) (by decide) rfl rfl rfl rfl rfl rfl rfl rfl dX5_exchange_3 ?_
  rintro v9 I9 J9 ⟨h91, h92, h93⟩
  rw [h91, h92, h93]
  clear h91 h92 h93 v9 I9 J9
  show G X _ Z _ I J 6 [(0, .ref (Z.2.2.1 0 0)), (1, .int g), (2, .int u), (3, .int v)] [.int (bI (isV n g u))]
  refine b_if_eq (tgt := 18) C dX5_exchange_6 rfl (fun c6 => ?_) (fun c6 => ?_)
  · refine g_iconst C ((-1)) dX5_exchange_18 (by decide) ?_
    exact g_ireturn C hr dX5_exchange_19 (by rw [if_neg (by first | (rw [c6, c15]; simp) | (rw [c6]; simp))]; exact ⟨rfl, fun _ _ => rfl, hci⟩)
  · refine g_aldn C dX5_exchange_9 rfl ?_
    refine g_ildn C dX5_exchange_10 rfl ?_
    refine g_ildn C dX5_exchange_11 rfl ?_
    refine g_callV (As := [.int g, .int v]) (st := []) C (c_X5_isVertex hA hci.1 g v) wX5_isVertex iX5_isVertex sX5_isVertex mX5_52 0 0 (by decide) (by decide) rfl rfl rfl rfl rfl rfl rfl rfl dX5_exchange_12 ?_
    rintro v9 I9 J9 ⟨h91, h92, h93⟩
    rw [h91, h92, h93]
    clear h91 h92 h93 v9 I9 J9
    show G X _ Z _ I J 15 [(0, .ref (Z.2.2.1 0 0)), (1, .int g), (2, .int u), (3, .int v)] [.int (bI (isV n g v))]
    refine b_if_ne (tgt := 20) C dX5_exchange_15 rfl (fun c15 => ?_) (fun c15 => ?_)
    · obtain ⟨a, b, ha, hb, rfl, rfl⟩ := isV_t (by omega) c6
      obtain ⟨a2, cc, -, hc2, ea, rfl⟩ := isV_t (by omega) c15
      have hok : (isV n (nI a) (nI b) && isV n (nI a) (nI cc)) = true := by rw [c6, c15]; rfl
      refine g_aldn C dX5_exchange_20 rfl ?_
      refine g_get C 0 0 (by decide) (by decide) u5 rfl 0 rfl fX5_9 rfl rfl dX5_exchange_21 ?_
      refine g_ildn C dX5_exchange_24 rfl ?_
      refine g_aald C 1 0 2 (by decide) (by decide) (fun _ _ => rfl) rfl rfl a (show a < 2 by omega) rfl dX5_exchange_25 ?_
      refine g_ildn C dX5_exchange_26 rfl ?_
      refine g_ildn C dX5_exchange_27 rfl ?_
      refine g_callV (As := [.int (nI b), .int (nI cc)]) (st := []) C (c_X1_swap hA hn9 ha (hci.1.sz ha) hb hc2) wX1_swap iX1_swap sX1_swap mX5_68 2 a (by decide) (show a < 2 by omega) rfl rfl rfl rfl rfl rfl rfl rfl dX5_exchange_28 ?_
      rintro v9 I9 J9 ⟨h91, h92, h93⟩
      rw [h91, h92, h93]
      clear h91 h92 h93 v9 I9 J9
      show G X _ Z _ (sK (sK I 3 (up2 (up2 (I 3) a b (I 3 a cc)) a cc (I 3 a b))) 5 (sw2 (sw1 (I 5) (9 * a + b) (9 * a + cc) n) a b cc n)) J 31 [(0, .ref (Z.2.2.1 0 0)), (1, .int (nI a)), (2, .int (nI b)), (3, .int (nI cc))] []
      refine g_aldn C dX5_exchange_31 rfl ?_
      refine g_aldn C dX5_exchange_32 rfl ?_
      refine g_get C 0 0 (by decide) (by decide) u5 rfl 0 rfl fX5_9 rfl rfl dX5_exchange_33 ?_
      refine g_ildn C dX5_exchange_36 rfl ?_
      refine g_aald C 1 0 2 (by decide) (by decide) (fun _ _ => rfl) rfl rfl a (show a < 2 by omega) rfl dX5_exchange_37 ?_
      refine g_callV (As := [.ref (Z.2.2.1 2 a)]) (st := []) C (c_X5_noteChange hA (g := a) (by omega)) wX5_noteChange iX5_noteChange sX5_noteChange mX5_48 0 0 (by decide) (by decide) rfl rfl rfl rfl rfl rfl rfl rfl dX5_exchange_38 ?_
      rintro v9 I9 J9 ⟨h91, h92, h93⟩
      rw [h91, h92, h93]
      clear h91 h92 h93 v9 I9 J9
      show G X _ Z _ (sK (sK (sK (sK I 3 (up2 (up2 (I 3) a b (I 3 a cc)) a cc (I 3 a b))) 5 (sw2 (sw1 (I 5) (9 * a + b) (9 * a + cc) n) a b cc n)) 2 (up2 (up2 ((sK (sK I 3 (up2 (up2 (I 3) a b (I 3 a cc)) a cc (I 3 a b))) 5 (sw2 (sw1 (I 5) (9 * a + b) (9 * a + cc) n) a b cc n)) 2) a 6 (nI 0)) a 8 (nI 0))) 0 (up2 (up2 ((sK (sK I 3 (up2 (up2 (I 3) a b (I 3 a cc)) a cc (I 3 a b))) 5 (sw2 (sw1 (I 5) (9 * a + b) (9 * a + cc) n) a b cc n)) 0) 0 5 (nI 0)) 0 6 (nI 0))) J 41 [(0, .ref (Z.2.2.1 0 0)), (1, .int (nI a)), (2, .int (nI b)), (3, .int (nI cc))] []
      refine g_iconst C ((nI 0)) dX5_exchange_41 (by decide) ?_
      exact g_ireturn C hr dX5_exchange_42 (by rw [if_pos hok]; exact ⟨a, b, cc, ha, hb, hc2, rfl, rfl, rfl, nc_fin hci (ex_cv hci.1 ha hb hc2) (fun g2 v2 h1 h2 => by unfold exL; by_cases q : g2 = a; rw [if_pos q]; exact hci.2.1 g2 _ h1 (swp_lt hb hc2 h2); rw [if_neg q]; exact hci.2.1 g2 v2 h1 h2) (fun a2 h => ⟨by funext v2; unfold exT; rw [if_neg h], by funext u2 v2; unfold exL; rw [if_neg h]⟩) ((sK_ne (by decide)).trans (sK_ne (by decide))) ((sK_ne (by decide)).trans (sK_ne (by decide))) (fun q hq => (sK_ne (by omega)).trans (sK_ne (by omega)))⟩)
    · refine g_iconst C ((-1)) dX5_exchange_18 (by decide) ?_
      exact g_ireturn C hr dX5_exchange_19 (by rw [if_neg (by first | (rw [c6, c15]; simp) | (rw [c6]; simp))]; exact ⟨rfl, fun _ _ => rfl, hci⟩)

theorem cp_cv {I : SI} {n : Nat} {T : Nat → Nat → Nat} {L : Nat → Nat → Nat → Nat} {a : Nat} (h : CV I n T L) (ha : a < 2) : CV (sK (sK I 3 (va_up (I 3) a (va_cpy (I 3 (1 - a)) (I 3 a) 0 0 9))) 5 (cpr (I 5) (1 - a) a 9)) n (cpT T a) (cpL L a) := by
  have hn9 := h.1.2
  refine ⟨h.1, fun g hg => ⟨by rw [sK_ne (by decide), sK_ne (by decide)]; exact h.sz hg, fun v hv => ?_, fun u v hu hv => ?_⟩⟩
  · rw [sK_ne (by decide), sK_self]
    unfold cpT
    by_cases e : g = a
    · subst e; rw [va_up_self, pk_cpy_in (by omega) (by omega), if_pos rfl, show 0 + (v - 0) = v by omega]; exact (h.2 (1 - g) (by omega)).2.1 v hv
    · rw [va_up_ne _ _ e, if_neg e]; exact (h.2 g hg).2.1 v hv
  · rw [sK_self]
    unfold cpL cpr
    by_cases e : g = a
    · subst e
      rw [if_pos (by omega), if_pos rfl, pk_cpy_in (by omega) (by omega), show 0 + (v - 0) = v by omega, show 9 * g + u - 9 * g = u by omega]
      exact (h.2 (1 - g) (by omega)).2.2 u v hu hv
    · rw [if_neg (by omega), if_neg e]; exact (h.2 g hg).2.2 u v hu hv
set_option maxRecDepth 100000 in
set_option maxHeartbeats 4000000 in
/-- copy -/
theorem c_X5_copy {l : Launch} {Y : Yk} (hA : AJ Y.2.2) {I : SI} {J : SJ} {n : Nat} {T : Nat → Nat → Nat} {L : Nat → Nat → Nat → Nat} {ah : Bool} {nm : Nat → Nat} (hci : CI I J n T L ah nm) (g : Int32) : MX l Y yX5_copy cX5_copy 2 (some .int) 3 120 [.ref (Y.2.2 0 0), .int g] I J (fun v' I' J' => if isG g then ∃ a, a < 2 ∧ g = nI a ∧ aP I (nI 0) n (cpT T a) (cpL L a) false nm v' I' J' else aP I (-1) n T L ah nm v' I' J') := by
  refine MX.of hA (by decide) (own := RX5) rfl rfl rfl ?_
  intro X Z hl hY1 hY2 hY3 C hr
  obtain ⟨D0, ca0, ad0⟩ := Y
  dsimp only at hA hY1 hY2 hY3
  subst hY1; subst hY2; subst hY3; subst hl
  show G X 2 Z (QG X Z _) I J 0 [(0, .ref (Z.2.2.1 0 0)), (1, .int g)] []
  obtain ⟨⟨hn1, hn9⟩, -⟩ := id hci.1
  refine g_ildn C dX5_copy_0 rfl ?_
  refine g_callS (As := [.int g]) (st := []) C (c_X5_isGraph hA g) wX5_isGraph tX5_isGraph mX5_72 rfl rfl rfl rfl dX5_copy_1 ?_
  rintro v9 I9 J9 ⟨h91, h92, h93⟩
  rw [h91, h92, h93]
  clear h91 h92 h93 v9 I9 J9
  show G X _ Z _ I J 4 [(0, .ref (Z.2.2.1 0 0)), (1, .int g)] [.int (bI (isG g))]
  refine b_if_ne (tgt := 9) C dX5_copy_4 rfl (fun c4 => ?_) (fun c4 => ?_)
  · obtain ⟨a, ha, rfl⟩ := isG_t c4
    refine g_aldn C dX5_copy_9 rfl ?_
    refine g_get C 0 0 (by decide) (by decide) u5 rfl 0 rfl fX5_9 rfl rfl dX5_copy_10 ?_
    refine g_ildn C dX5_copy_13 rfl ?_
    refine g_aald C 1 0 2 (by decide) (by decide) (fun _ _ => rfl) rfl rfl a (show a < 2 by omega) rfl dX5_copy_14 ?_
    refine g_aldn C dX5_copy_15 rfl ?_
    refine g_get C 0 0 (by decide) (by decide) u5 rfl 0 rfl fX5_9 rfl rfl dX5_copy_16 ?_
    refine g_iconst C ((nI 1)) dX5_copy_19 (by decide) ?_
    refine g_ildn C dX5_copy_20 rfl ?_
    refine g_isub (v := (nI (1 - a))) C dX5_copy_21 (pk_sub (by omega)) ?_
    refine g_aald C 1 0 2 (by decide) (by decide) (fun _ _ => rfl) rfl rfl (1 - a) (show 1 - a < 2 by omega) rfl dX5_copy_22 ?_
    refine g_callV (As := [.ref (Z.2.2.1 2 (1 - a))]) (st := []) C (c_X1_become hA (g := a) (h := 1 - a) ha (by omega) (by omega)) wX1_become iX1_become sX1_become mX5_75 2 a (by decide) (show a < 2 by omega) rfl rfl rfl rfl rfl rfl rfl rfl dX5_copy_23 ?_
    rintro v9 I9 J9 ⟨h91, h92, h93⟩
    rw [h91, h92, h93]
    clear h91 h92 h93 v9 I9 J9
    show G X _ Z _ (sK (sK I 3 (va_up (I 3) a (va_cpy (I 3 (1 - a)) (I 3 a) 0 0 9))) 5 (cpr (I 5) (1 - a) a 9)) J 26 [(0, .ref (Z.2.2.1 0 0)), (1, .int (nI a))] []
    refine g_aldn C dX5_copy_26 rfl ?_
    refine g_aldn C dX5_copy_27 rfl ?_
    refine g_get C 0 0 (by decide) (by decide) u5 rfl 0 rfl fX5_9 rfl rfl dX5_copy_28 ?_
    refine g_ildn C dX5_copy_31 rfl ?_
    refine g_aald C 1 0 2 (by decide) (by decide) (fun _ _ => rfl) rfl rfl a (show a < 2 by omega) rfl dX5_copy_32 ?_
    refine g_callV (As := [.ref (Z.2.2.1 2 a)]) (st := []) C (c_X5_noteChange hA (g := a) (by omega)) wX5_noteChange iX5_noteChange sX5_noteChange mX5_48 0 0 (by decide) (by decide) rfl rfl rfl rfl rfl rfl rfl rfl dX5_copy_33 ?_
    rintro v9 I9 J9 ⟨h91, h92, h93⟩
    rw [h91, h92, h93]
    clear h91 h92 h93 v9 I9 J9
    show G X _ Z _ (sK (sK (sK (sK I 3 (va_up (I 3) a (va_cpy (I 3 (1 - a)) (I 3 a) 0 0 9))) 5 (cpr (I 5) (1 - a) a 9)) 2 (up2 (up2 ((sK (sK I 3 (va_up (I 3) a (va_cpy (I 3 (1 - a)) (I 3 a) 0 0 9))) 5 (cpr (I 5) (1 - a) a 9)) 2) a 6 (nI 0)) a 8 (nI 0))) 0 (up2 (up2 ((sK (sK I 3 (va_up (I 3) a (va_cpy (I 3 (1 - a)) (I 3 a) 0 0 9))) 5 (cpr (I 5) (1 - a) a 9)) 0) 0 5 (nI 0)) 0 6 (nI 0))) J 36 [(0, .ref (Z.2.2.1 0 0)), (1, .int (nI a))] []
    refine g_iconst C ((nI 0)) dX5_copy_36 (by decide) ?_
    exact g_ireturn C hr dX5_copy_37 (by rw [if_pos c4]; exact ⟨a, ha, rfl, nc_fin hci (cp_cv hci.1 ha) (fun g2 v2 h1 h2 => by unfold cpL; by_cases q : g2 = a; rw [if_pos q]; exact hci.2.1 _ _ (by omega) h2; rw [if_neg q]; exact hci.2.1 g2 v2 h1 h2) (fun a2 h => ⟨by funext v2; unfold cpT; rw [if_neg h], by funext u2 v2; unfold cpL; rw [if_neg h]⟩) ((sK_ne (by decide)).trans (sK_ne (by decide))) ((sK_ne (by decide)).trans (sK_ne (by decide))) (fun q hq => (sK_ne (by omega)).trans (sK_ne (by omega)))⟩)
  · refine g_iconst C ((-1)) dX5_copy_7 (by decide) ?_
    exact g_ireturn C hr dX5_copy_8 (by rw [if_neg (by rw [c4]; decide)]; exact ⟨rfl, fun _ _ => rfl, hci⟩)

