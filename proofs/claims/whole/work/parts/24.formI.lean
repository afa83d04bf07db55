/-! ===== FormFinder: bound ===== -/
/-- the rest: neither v nor taken -/
def sel (tk v : Nat) (a : Nat) : Bool := decide (a ≠ v) && !tk.testBit a
theorem sel_t {tk v a : Nat} (h1 : a ≠ v) (h2 : tk.testBit a = false) : sel tk v a = true := by unfold sel; rw [decide_eq_true h1, h2]; rfl
theorem sel_v {tk v a : Nat} (h : a = v) : sel tk v a = false := by unfold sel; rw [decide_eq_false (fun q => q h)]; rfl
theorem sel_f {tk v a : Nat} (h : tk.testBit a = true) : sel tk v a = false := by unfold sel; rw [h]; cases decide (a ≠ v) <;> rfl
/-- only row R of the bounds, and there behind place dp, is another -/
def bD (J : SJ) (dp R : Nat) (D : Nat → Nat → Int64) : Prop := (∀ r, r ≠ R → D r = J 25 r) ∧ ∀ i, i ≤ dp → D R i = J 23 0 i
/-- s is what stands behind place dp: the values y of the chosen ones below w, in order -/
def bS (tk v : Nat) (y : Nat → Nat) (YB w m : Nat) (s : Nat → Nat) : Prop := m = ct (sel tk v) w ∧ srt s m ∧ (∀ j, j < m → s j < YB) ∧ ∀ q : Nat → Bool, ct (fun j => q (s j)) m = ct (fun a => sel tk v a && q (y a)) w
theorem bS.no {tk v YB w m : Nat} {y s : Nat → Nat} (h : bS tk v y YB w m s) (hn : sel tk v w = false) : bS tk v y YB (w + 1) m s :=
  ⟨by rw [ct_f hn]; exact h.1, h.2.1, h.2.2.1, fun q => by rw [ct_f (p := fun a => sel tk v a && q (y a)) (by rw [hn]; rfl)]; exact h.2.2.2 q⟩
theorem bS.put {tk v YB w m a : Nat} {y s : Nat → Nat} (h : bS tk v y YB w m s) (hs : sel tk v w = true) (hy : y w < YB) (ha : a ≤ m) (h1 : a = 0 ∨ s (a - 1) ≤ y w) (h2 : ∀ j, a ≤ j → j < m → y w < s j) : bS tk v y YB (w + 1) (m + 1) (ins s a (y w)) := by
  refine ⟨by rw [ct_t hs, ← h.1], ins_srt h.2.1 ha h1 h2, fun j hj => ?_, fun q => ?_⟩
  · rcases Nat.lt_trichotomy j a with e | e | e
    · rw [ins_lt e]; exact h.2.2.1 j (by omega)
    · subst e; rw [ins_at]; exact hy
    · obtain ⟨i, rfl⟩ : ∃ i, j = i + 1 := ⟨j - 1, by omega⟩
      rw [ins_gt (by omega)]; exact h.2.2.1 i (by omega)
  · rw [ct_ins q s a (y w) m ha, h.2.2.2 q, ct_s (fun a => sel tk v a && q (y a)) w, hs]
    rfl
set_option maxRecDepth 100000 in
set_option maxHeartbeats 4000000 in
theorem l_X0_bound_77 {X : Pk} {Z : Zk} {fr lo : Nat} {Q : State → Prop} {I : SI} {J : SJ} (C : Cx X cX0_bound 11 RX0 Z fr lo) {n g dp tk v w m : Nat} {L : Nat → Nat → Nat → Nat} {r s : Nat → Nat} (hn9 : n ≤ 9) (hvn : v < n) (hdp : dp + 1 + m < n) (hs : ∀ j, j < m → s j < 2 ^ 40) (hx : r w * 16 + pr L g w v < 2 ^ 40) (hex : ∀ a D, a ≤ m → bD J dp (dp * 9 + v) D → (∀ j, j < a → D (dp * 9 + v) (dp + 1 + j) = lN (s j)) → (∀ j, a ≤ j → j < m → D (dp * 9 + v) (dp + 1 + j + 1) = lN (s j)) → (∀ j, a ≤ j → j < m → r w * 16 + pr L g w v < s j) → (a = 0 ∨ s (a - 1) ≤ r w * 16 + pr L g w v) → G X 11 Z Q I (sK J 25 D) 116 [(0, .ref (Z.2.2.1 20 0)), (1, .ref (Z.2.2.1 2 g)), (2, .int (nI dp)), (3, .int (nI tk)), (4, .int (nI v)), (5, .ref (Z.2.2.1 25 (dp * 9 + v))), (6, .int (nI (dp + 1 + m))), (7, .int (nI w)), (8, .long (lN (r w * 16 + pr L g w v))), (10, .int (nI (dp + 1 + a)))] []) : ∀ k a D, a < k → a ≤ m → bD J dp (dp * 9 + v) D → (∀ j, j < a → D (dp * 9 + v) (dp + 1 + j) = lN (s j)) → (∀ j, a ≤ j → j < m → D (dp * 9 + v) (dp + 1 + j + 1) = lN (s j)) → (∀ j, a ≤ j → j < m → r w * 16 + pr L g w v < s j) → G X 11 Z Q I (sK J 25 D) 77 [(0, .ref (Z.2.2.1 20 0)), (1, .ref (Z.2.2.1 2 g)), (2, .int (nI dp)), (3, .int (nI tk)), (4, .int (nI v)), (5, .ref (Z.2.2.1 25 (dp * 9 + v))), (6, .int (nI (dp + 1 + m))), (7, .int (nI w)), (8, .long (lN (r w * 16 + pr L g w v))), (10, .int (nI (dp + 1 + a)))] [] := by
  intro k
  induction k with
  | zero => intro a D h; exact absurd h (by omega)
  | succ k ih =>
    intro a D hk ham hD1 hD3 hD4 h5
    have hsa : 0 < a → s (a - 1) < 2 ^ 40 := fun h => hs _ (by omega)
    refine g_ild C dX0_bound_77 rfl ?_
    refine g_ildn C dX0_bound_79 rfl ?_
    refine g_iconst C ((nI 1)) dX0_bound_80 (by decide) ?_
    refine g_iadd (v := (nI (dp + 1))) C dX0_bound_81 (nI_add _ _) ?_
    refine n_icmp_le (tgt := 116) C dX0_bound_82 rfl (by omega) (by omega) (fun c82 => ?_) (fun c82 => ?_)
    · refine g_lv [0, 1, 2, 3, 4, 5, 6, 7, 8, 9] rfl ?_
      exact hex a D ham hD1 hD3 hD4 h5 (by first | exact Or.inl (by omega) | exact Or.inr c95)
    · refine g_ald C dX0_bound_85 rfl ?_
      refine g_ild C dX0_bound_87 rfl ?_
      refine g_iconst C ((nI 1)) dX0_bound_89 (by decide) ?_
      refine g_isub (v := (nI (dp + 1 + a - 1))) C dX0_bound_90 (pk_sub (by omega)) ?_
      refine g_lald C 25 (dp * 9 + v) (by decide) (show dp * 9 + v < 81 by omega) (fun _ _ => rfl) (dp + 1 + a - 1) (show dp + 1 + a - 1 < 9 by omega) rfl dX0_bound_91 (v := (lN (s (a - 1)))) (by have := hD3 (a - 1) (by omega); rw [sK_self, show dp + 1 + a - 1 = dp + 1 + (a - 1) by omega]; exact this) ?_
      refine g_lld C dX0_bound_92 rfl ?_
      refine g_lcmp (v := (cmpN (s (a - 1)) (r w * 16 + pr L g w v))) C dX0_bound_94 (lcmpN (by omega) (by omega)) ?_
      refine c_if_le (tgt := 116) C dX0_bound_95 rfl (fun c95 => ?_) (fun c95 => ?_)
      · refine g_lv [0, 1, 2, 3, 4, 5, 6, 7, 8, 9] rfl ?_
        exact hex a D ham hD1 hD3 hD4 h5 (by first | exact Or.inl (by omega) | exact Or.inr c95)
      · refine g_ald C dX0_bound_98 rfl ?_
        refine g_ild C dX0_bound_100 rfl ?_
        refine g_ald C dX0_bound_102 rfl ?_
        refine g_ild C dX0_bound_104 rfl ?_
        refine g_iconst C ((nI 1)) dX0_bound_106 (by decide) ?_
        refine g_isub (v := (nI (dp + 1 + a - 1))) C dX0_bound_107 (pk_sub (by omega)) ?_
        refine g_lald C 25 (dp * 9 + v) (by decide) (show dp * 9 + v < 81 by omega) (fun _ _ => rfl) (dp + 1 + a - 1) (show dp + 1 + a - 1 < 9 by omega) rfl dX0_bound_108 (v := (lN (s (a - 1)))) (by have := hD3 (a - 1) (by omega); rw [sK_self, show dp + 1 + a - 1 = dp + 1 + (a - 1) by omega]; exact this) ?_
        refine g_last C 25 (dp * 9 + v) (by decide) (show dp * 9 + v < 81 by omega) (fun _ _ => rfl) (dp + 1 + a) (show dp + 1 + a < 9 by omega) rfl dX0_bound_109 ?_
        refine g_J (J1 := sK J 25 (up2 D (dp * 9 + v) (dp + 1 + a) (lN (s (a - 1))))) (by rw [sK_self, sK_sK]) ?_
        refine g_iinc (lv' := [(10, .int (nI (dp + 1 + a - 1))), (0, .ref (Z.2.2.1 20 0)), (1, .ref (Z.2.2.1 2 g)), (2, .int (nI dp)), (3, .int (nI tk)), (4, .int (nI v)), (5, .ref (Z.2.2.1 25 (dp * 9 + v))), (6, .int (nI (dp + 1 + m))), (7, .int (nI w)), (8, .long (lN (r w * 16 + pr L g w v)))]) C ((nI (dp + 1 + a - 1))) dX0_bound_110 rfl (dec1 (by omega)) rfl rfl ?_
        refine g_goto (tgt := 77) C dX0_bound_113 rfl ?_
        refine g_lv (lv1 := [(0, .ref (Z.2.2.1 20 0)), (1, .ref (Z.2.2.1 2 g)), (2, .int (nI dp)), (3, .int (nI tk)), (4, .int (nI v)), (5, .ref (Z.2.2.1 25 (dp * 9 + v))), (6, .int (nI (dp + 1 + m))), (7, .int (nI w)), (8, .long (lN (r w * 16 + pr L g w v))), (10, .int (nI (dp + 1 + (a - 1))))]) [1, 2, 3, 4, 5, 6, 7, 8, 9, 0] (by rw [show dp + 1 + (a - 1) = dp + 1 + a - 1 by omega]; rfl) ?_
        refine ih (a - 1) _ (by omega) (by omega) ⟨fun r0 hr0 => by rw [up2_row hr0]; exact hD1.1 r0 hr0, fun i hi => by rw [up2_ne (by omega)]; exact hD1.2 i hi⟩ (fun j hj => by rw [up2_ne (by omega)]; exact hD3 j (by omega)) (fun j hj hj2 => ?_) (fun j hj hj2 => ?_)
        · by_cases e : j = a - 1
          · subst e; rw [show dp + 1 + (a - 1) + 1 = dp + 1 + a by omega, up2_self]
          · rw [up2_ne (by omega)]; exact hD4 j (by omega) hj2
        · by_cases e : j = a - 1
          · subst e; exact c95
          · exact h5 j (by omega) hj2

set_option maxRecDepth 100000 in
set_option maxHeartbeats 4000000 in
theorem l_X0_bound_36 {X : Pk} {Z : Zk} {I : SI} {J : SJ} (hA : AJ Z.2.2.1) (C : Cx X cX0_bound 11 RX0 Z 2 80) {Q : State → Prop} {n : Nat} {T : Nat → Nat → Nat} {L : Nat → Nat → Nat → Nat} (hv : CV I n T L) {g : Nat} (hg : g < 2) {dp tk v : Nat} (hdp : dp < 9) (htk : tk < 2 ^ 9) (hvn : v < n) {r : Nat → Nat} (hrw : ∀ a, a < n → tk.testBit a = false → J 22 dp a = lN (r a)) {YB : Nat} (hYB : YB ≤ 2 ^ 40) (hy : ∀ a, a < n → tk.testBit a = false → r a * 16 + pr L g a v < YB) (hcnt : ct (sel tk v) n + (dp + 1) ≤ n) (hex : ∀ m s D, bD J dp (dp * 9 + v) D → bS tk v (fun a => r a * 16 + pr L g a v) YB n m s → (∀ j, j < m → D (dp * 9 + v) (dp + 1 + j) = lN (s j)) → G X 11 Z Q I (sK J 25 D) 132 [(0, .ref (Z.2.2.1 20 0)), (1, .ref (Z.2.2.1 2 g)), (2, .int (nI dp)), (3, .int (nI tk)), (4, .int (nI v)), (5, .ref (Z.2.2.1 25 (dp * 9 + v))), (6, .int (nI (dp + 1 + m)))] []) : ∀ k w m s D, n - w < k → w ≤ n → bD J dp (dp * 9 + v) D → bS tk v (fun a => r a * 16 + pr L g a v) YB w m s → (∀ j, j < m → D (dp * 9 + v) (dp + 1 + j) = lN (s j)) → G X 11 Z Q I (sK J 25 D) 36 [(0, .ref (Z.2.2.1 20 0)), (1, .ref (Z.2.2.1 2 g)), (2, .int (nI dp)), (3, .int (nI tk)), (4, .int (nI v)), (5, .ref (Z.2.2.1 25 (dp * 9 + v))), (6, .int (nI (dp + 1 + m))), (7, .int (nI w))] [] := by
  obtain ⟨⟨hn1, hn9⟩, -⟩ := id hv
  intro k
  induction k with
  | zero => intro w m s D h; exact absurd h (by omega)
  | succ k ih =>
    intro w m s D hk hwn hD1 hS hD3
    have hdv : tk / 2 ^ w ≤ tk := Nat.div_le_self _ _
    have hmm := ct_mono (sel tk v) hwn
    rw [← hS.1] at hmm
    refine g_ild C dX0_bound_36 rfl ?_
    refine g_aldn C dX0_bound_38 rfl ?_
    refine g_get C 2 g (by decide) (show g < 2 by omega) u1 rfl 0 rfl fX0_40 rfl rfl dX0_bound_39 ?_
    refine g_top (y := (nI n)) (hv.sz hg) ?_
    refine n_icmp_ge (tgt := 132) C dX0_bound_42 rfl (by omega) (by omega) (fun c42 => ?_) (fun c42 => ?_)
    · have e : w = n := by omega
      subst e
      refine g_lv [0, 1, 2, 3, 4, 5, 6] rfl ?_
      exact hex m s D hD1 hS hD3
    · refine g_ild C dX0_bound_45 rfl ?_
      refine g_ild C dX0_bound_47 rfl ?_
      refine n_icmp_eq (tgt := 126) C dX0_bound_49 rfl (by omega) (by omega) (fun c49 => ?_) (fun c49 => ?_)
      · refine g_iinc (lv' := [(7, .int (nI (w + 1))), (0, .ref (Z.2.2.1 20 0)), (1, .ref (Z.2.2.1 2 g)), (2, .int (nI dp)), (3, .int (nI tk)), (4, .int (nI v)), (5, .ref (Z.2.2.1 25 (dp * 9 + v))), (6, .int (nI (dp + 1 + m)))]) C ((nI (w + 1))) dX0_bound_126 rfl (inc1 _) rfl rfl ?_
        refine g_goto (tgt := 36) C dX0_bound_129 rfl ?_
        refine g_lv [1, 2, 3, 4, 5, 6, 7, 0] rfl ?_
        exact ih (w + 1) m s D (by omega) (by omega) hD1 (hS.no (by first | exact sel_v c49 | exact sel_f (bit_t (by omega)))) hD3
      · refine g_ildn C dX0_bound_52 rfl ?_
        refine g_ild C dX0_bound_53 rfl ?_
        refine g_ishr (v := (nI (tk / 2 ^ w))) C dX0_bound_55 (shrI (by omega) (by omega)) ?_
        refine g_iconst C ((nI 1)) dX0_bound_56 (by decide) ?_
        refine g_iand (v := (nI (tk / 2 ^ w % 2))) C dX0_bound_57 (and1 _) ?_
        refine n_if_ne (tgt := 126) C dX0_bound_58 rfl (by omega) (fun c58 => ?_) (fun c58 => ?_)
        · refine g_iinc (lv' := [(7, .int (nI (w + 1))), (0, .ref (Z.2.2.1 20 0)), (1, .ref (Z.2.2.1 2 g)), (2, .int (nI dp)), (3, .int (nI tk)), (4, .int (nI v)), (5, .ref (Z.2.2.1 25 (dp * 9 + v))), (6, .int (nI (dp + 1 + m)))]) C ((nI (w + 1))) dX0_bound_126 rfl (inc1 _) rfl rfl ?_
          refine g_goto (tgt := 36) C dX0_bound_129 rfl ?_
          refine g_lv [1, 2, 3, 4, 5, 6, 7, 0] rfl ?_
          exact ih (w + 1) m s D (by omega) (by omega) hD1 (hS.no (by first | exact sel_v c49 | exact sel_f (bit_t (by omega)))) hD3
        · have hbf : tk.testBit w = false := bit_f (by omega)
          have hsl : sel tk v w = true := sel_t c49 hbf
          have hyw := hy w (by omega) hbf
          have hm1 := ct_mono (sel tk v) (show w + 1 ≤ n by omega)
          rw [ct_t hsl, ← hS.1] at hm1
          refine g_aldn C dX0_bound_61 rfl ?_
          refine g_aldn C dX0_bound_62 rfl ?_
          refine g_ildn C dX0_bound_63 rfl ?_
          refine g_ild C dX0_bound_64 rfl ?_
          refine g_ild C dX0_bound_66 rfl ?_
          refine g_callV (As := [.ref (Z.2.2.1 2 g), .int (nI dp), .int (nI w), .int (nI v)]) (st := []) C (c_X0_longerRow hA hv hg (dp := dp) (w := w) (v := v) (x := r w) hdp (show w < n by omega) hvn ((congrFun (congrFun (sK_ne (by decide)) dp) w).trans (hrw w (by omega) hbf)) (by omega)) wX0_longerRow iX0_longerRow sX0_longerRow mX0_84 20 0 (by decide) (by decide) rfl rfl rfl rfl rfl rfl rfl rfl dX0_bound_68 ?_
          rintro v9 I9 J9 ⟨h91, h92, h93⟩
          rw [h91, h92, h93]
          clear h91 h92 h93 v9 I9 J9
          show G X _ Z _ I (sK J 25 D) 71 [(0, .ref (Z.2.2.1 20 0)), (1, .ref (Z.2.2.1 2 g)), (2, .int (nI dp)), (3, .int (nI tk)), (4, .int (nI v)), (5, .ref (Z.2.2.1 25 (dp * 9 + v))), (6, .int (nI (dp + 1 + m))), (7, .int (nI w))] [.long (lN (r w * 16 + pr L g w v))]
          refine g_lst (lv' := [(8, .long (lN (r w * 16 + pr L g w v))), (0, .ref (Z.2.2.1 20 0)), (1, .ref (Z.2.2.1 2 g)), (2, .int (nI dp)), (3, .int (nI tk)), (4, .int (nI v)), (5, .ref (Z.2.2.1 25 (dp * 9 + v))), (6, .int (nI (dp + 1 + m))), (7, .int (nI w))]) C dX0_bound_71 rfl rfl ?_
          refine g_ild C dX0_bound_73 rfl ?_
          refine g_ist (lv' := [(10, .int (nI (dp + 1 + m))), (8, .long (lN (r w * 16 + pr L g w v))), (0, .ref (Z.2.2.1 20 0)), (1, .ref (Z.2.2.1 2 g)), (2, .int (nI dp)), (3, .int (nI tk)), (4, .int (nI v)), (5, .ref (Z.2.2.1 25 (dp * 9 + v))), (6, .int (nI (dp + 1 + m))), (7, .int (nI w))]) C dX0_bound_75 rfl rfl ?_
          refine g_lv (lv1 := [(0, .ref (Z.2.2.1 20 0)), (1, .ref (Z.2.2.1 2 g)), (2, .int (nI dp)), (3, .int (nI tk)), (4, .int (nI v)), (5, .ref (Z.2.2.1 25 (dp * 9 + v))), (6, .int (nI (dp + 1 + m))), (7, .int (nI w)), (8, .long (lN (r w * 16 + pr L g w v))), (10, .int (nI (dp + 1 + m)))]) [2, 3, 4, 5, 6, 7, 8, 9, 1, 0] rfl ?_
          refine l_X0_bound_77 (L := L) (r := r) (s := s) C hn9 hvn (by omega) (fun j hj => Nat.lt_of_lt_of_le (hS.2.2.1 j hj) hYB) (by omega) ?_ (m + 1) m D (by omega) (by omega) hD1 hD3 (fun j h1 h2 => absurd h1 (by omega)) (fun j h1 h2 => absurd h1 (by omega))
          clear hD1 hD3 D
          intro a D ham hD1 hD3 hD4 h5 h6
          refine g_ald C dX0_bound_116 rfl ?_
          refine g_ild C dX0_bound_118 rfl ?_
          refine g_lld C dX0_bound_120 rfl ?_
          refine g_last C 25 (dp * 9 + v) (by decide) (show dp * 9 + v < 81 by omega) (fun _ _ => rfl) (dp + 1 + a) (show dp + 1 + a < 9 by omega) rfl dX0_bound_122 ?_
          refine g_J (J1 := sK J 25 (up2 D (dp * 9 + v) (dp + 1 + a) (lN (r w * 16 + pr L g w v)))) (by rw [sK_self, sK_sK]) ?_
          refine g_iinc (lv' := [(6, .int (nI (dp + 1 + m + 1))), (0, .ref (Z.2.2.1 20 0)), (1, .ref (Z.2.2.1 2 g)), (2, .int (nI dp)), (3, .int (nI tk)), (4, .int (nI v)), (5, .ref (Z.2.2.1 25 (dp * 9 + v))), (7, .int (nI w)), (8, .long (lN (r w * 16 + pr L g w v))), (10, .int (nI (dp + 1 + a)))]) C ((nI (dp + 1 + m + 1))) dX0_bound_123 rfl (inc1 _) rfl rfl ?_
          refine g_iinc (lv' := [(7, .int (nI (w + 1))), (6, .int (nI (dp + 1 + m + 1))), (0, .ref (Z.2.2.1 20 0)), (1, .ref (Z.2.2.1 2 g)), (2, .int (nI dp)), (3, .int (nI tk)), (4, .int (nI v)), (5, .ref (Z.2.2.1 25 (dp * 9 + v))), (8, .long (lN (r w * 16 + pr L g w v))), (10, .int (nI (dp + 1 + a)))]) C ((nI (w + 1))) dX0_bound_126 rfl (inc1 _) rfl rfl ?_
          refine g_goto (tgt := 36) C dX0_bound_129 rfl ?_
          refine g_lv (lv1 := [(0, .ref (Z.2.2.1 20 0)), (1, .ref (Z.2.2.1 2 g)), (2, .int (nI dp)), (3, .int (nI tk)), (4, .int (nI v)), (5, .ref (Z.2.2.1 25 (dp * 9 + v))), (6, .int (nI (dp + 1 + (m + 1)))), (7, .int (nI (w + 1)))]) [2, 3, 4, 5, 6, 7, 1, 0] rfl ?_
          refine ih (w + 1) (m + 1) (ins s a (r w * 16 + pr L g w v)) _ (by omega) (by omega) ⟨fun r0 hr0 => by rw [up2_row hr0]; exact hD1.1 r0 hr0, fun i hi => by rw [up2_ne (by omega)]; exact hD1.2 i hi⟩ (hS.put (y := (fun a => r a * 16 + pr L g a v)) hsl hyw ham h6 h5) (fun j hj => ?_)
          rcases Nat.lt_trichotomy j a with e | e | e
          · rw [ins_lt e, up2_ne (by omega)]; exact hD3 j e
          · subst e; rw [ins_at, up2_self]
          · obtain ⟨i, rfl⟩ : ∃ i, j = i + 1 := ⟨j - 1, by omega⟩
            rw [ins_gt (by omega), up2_ne (by omega)]; exact hD4 i (by omega) (by omega)

set_option maxRecDepth 100000 in
set_option maxHeartbeats 4000000 in
theorem l_X0_bound_137 {X : Pk} {Z : Zk} {fr lo : Nat} {I : SI} {J : SJ} (C : Cx X cX0_bound 11 RX0 Z fr lo) (hr : (xE X).sig.returnType = none) {n g dp tk v m YB : Nat} {L : Nat → Nat → Nat → Nat} {r s : Nat → Nat} (hn9 : n ≤ 9) (hvn : v < n) (hdp : dp + 1 + m ≤ n) (hm : m = ct (sel tk v) n) (hS : bS tk v (fun a => r a * 16 + pr L g a v) YB n m s) : ∀ k i D, dp + 1 + m - i < k → dp + 2 ≤ i → i ≤ dp + 2 + m → bD J dp (dp * 9 + v) D → (∀ j, j < m → dp + 1 + j < i → D (dp * 9 + v) (dp + 1 + j) = lN (s j * 16 ^ j)) → (∀ j, j < m → i ≤ dp + 1 + j → D (dp * 9 + v) (dp + 1 + j) = lN (s j)) → G X 11 Z (QG X Z (fun v' I' J' => ∃ (D : Nat → Nat → Int64) (s : Nat → Nat), v' = none ∧ I' = I ∧ J' = sK J 25 D ∧ bD J dp (dp * 9 + v) D ∧ bS tk v (fun a => r a * 16 + pr L g a v) YB n (ct (sel tk v) n) s ∧ ∀ j, j < ct (sel tk v) n → D (dp * 9 + v) (dp + 1 + j) = lN (s j * 16 ^ j))) I (sK J 25 D) 137 [(0, .ref (Z.2.2.1 20 0)), (1, .ref (Z.2.2.1 2 g)), (2, .int (nI dp)), (3, .int (nI tk)), (4, .int (nI v)), (5, .ref (Z.2.2.1 25 (dp * 9 + v))), (6, .int (nI (dp + 1 + m))), (7, .int (nI i))] [] := by
  intro k
  induction k with
  | zero => intro i D h; exact absurd h (by omega)
  | succ k ih =>
    intro i D hk hi hi2 hD1 hD3 hD4
    refine g_ild C dX0_bound_137 rfl ?_
    refine g_ild C dX0_bound_139 rfl ?_
    refine n_icmp_ge (tgt := 166) C dX0_bound_141 rfl (by omega) (by omega) (fun c141 => ?_) (fun c141 => ?_)
    · exact g_return C hr dX0_bound_166 ⟨D, s, rfl, rfl, rfl, hD1, hm ▸ hS, fun j hj => hD3 j (by omega) (by omega)⟩
    · refine g_ald C dX0_bound_144 rfl ?_
      refine g_ild C dX0_bound_146 rfl ?_
      refine g_dup2 C dX0_bound_148 rfl rfl ?_
      refine g_lald C 25 (dp * 9 + v) (by decide) (show dp * 9 + v < 81 by omega) (fun _ _ => rfl) i (show i < 9 by omega) rfl dX0_bound_149 (v := (lN (s (i - (dp + 1))))) (by have := hD4 (i - (dp + 1)) (by omega) (by omega); rw [sK_self, show i = dp + 1 + (i - (dp + 1)) by omega]; rw [show dp + 1 + (i - (dp + 1)) - (dp + 1) = i - (dp + 1) by omega]; exact this) ?_
      refine g_iconst C ((nI 4)) dX0_bound_150 (by decide) ?_
      refine g_ild C dX0_bound_151 rfl ?_
      refine g_ildn C dX0_bound_153 rfl ?_
      refine g_isub (v := (nI (i - dp))) C dX0_bound_154 (pk_sub (by omega)) ?_
      refine g_iconst C ((nI 1)) dX0_bound_155 (by decide) ?_
      refine g_isub (v := (nI (i - dp - 1))) C dX0_bound_156 (pk_sub (by omega)) ?_
      refine g_imul (v := (nI (4 * (i - dp - 1)))) C dX0_bound_157 (pk_mul _ _) ?_
      refine g_lshl (v := (lN (s (i - (dp + 1)) * 2 ^ (4 * (i - dp - 1))))) C dX0_bound_158 (wb_shl _ (by omega)) ?_
      refine g_last C 25 (dp * 9 + v) (by decide) (show dp * 9 + v < 81 by omega) (fun _ _ => rfl) i (show i < 9 by omega) rfl dX0_bound_159 ?_
      refine g_J (J1 := sK J 25 (up2 D (dp * 9 + v) i (lN (s (i - (dp + 1)) * 2 ^ (4 * (i - dp - 1)))))) (by rw [sK_self, sK_sK]) ?_
      refine g_iinc (lv' := [(7, .int (nI (i + 1))), (0, .ref (Z.2.2.1 20 0)), (1, .ref (Z.2.2.1 2 g)), (2, .int (nI dp)), (3, .int (nI tk)), (4, .int (nI v)), (5, .ref (Z.2.2.1 25 (dp * 9 + v))), (6, .int (nI (dp + 1 + m)))]) C ((nI (i + 1))) dX0_bound_160 rfl (inc1 _) rfl rfl ?_
      refine g_goto (tgt := 137) C dX0_bound_163 rfl ?_
      refine g_lv [1, 2, 3, 4, 5, 6, 7, 0] rfl ?_
      refine ih (i + 1) _ (by omega) (by omega) (by omega) ⟨fun r0 hr0 => by rw [up2_row hr0]; exact hD1.1 r0 hr0, fun a ha => by rw [up2_ne (by omega)]; exact hD1.2 a ha⟩ (fun j hj hji => ?_) (fun j hj hji => by rw [up2_ne (by omega)]; exact hD4 j hj (by omega))
      by_cases e : dp + 1 + j = i
      · rw [← e, up2_self, show dp + 1 + j - (dp + 1) = j by omega, show dp + 1 + j - dp - 1 = j by omega, Nat.pow_mul]
      · rw [up2_ne e]; exact hD3 j hj (by omega)

set_option maxRecDepth 100000 in
set_option maxHeartbeats 4000000 in
/-- bound -/
theorem c_X0_bound {l : Launch} {Y : Yk} (hA : AJ Y.2.2) {I : SI} {J : SJ} {n : Nat} {T : Nat → Nat → Nat} {L : Nat → Nat → Nat → Nat} (hv : CV I n T L) {g : Nat} (hg : g < 2) {dp tk v : Nat} (hdp : dp < 9) (htk : tk < 2 ^ 9) (hvn : v < n) {r : Nat → Nat} (hrw : ∀ a, a < n → tk.testBit a = false → J 22 dp a = lN (r a)) {YB : Nat} (hYB : YB ≤ 2 ^ 40) (hy : ∀ a, a < n → tk.testBit a = false → r a * 16 + pr L g a v < YB) (hcnt : ct (sel tk v) n + (dp + 1) ≤ n)  : MX l Y yX0_bound cX0_bound 11 (none) 2 80 [.ref (Y.2.2 20 0), .ref (Y.2.2 2 g), .int (nI dp), .int (nI tk), .int (nI v)] I J (fun v' I' J' => ∃ (D : Nat → Nat → Int64) (s : Nat → Nat), v' = none ∧ I' = I ∧ J' = sK J 25 D ∧ bD J dp (dp * 9 + v) D ∧ bS tk v (fun a => r a * 16 + pr L g a v) YB n (ct (sel tk v) n) s ∧ ∀ j, j < ct (sel tk v) n → D (dp * 9 + v) (dp + 1 + j) = lN (s j * 16 ^ j)) := by
  refine MX.of hA (by decide) (own := RX0) rfl rfl rfl ?_
  intro X Z hl hY1 hY2 hY3 C hr
  obtain ⟨D0, ca0, ad0⟩ := Y
  dsimp only at hA hY1 hY2 hY3
  subst hY1; subst hY2; subst hY3; subst hl
  show G X 11 Z (QG X Z _) I J 0 [(0, .ref (Z.2.2.1 20 0)), (1, .ref (Z.2.2.1 2 g)), (2, .int (nI dp)), (3, .int (nI tk)), (4, .int (nI v))] []
  obtain ⟨⟨hn1, hn9⟩, -⟩ := id hv
  refine g_aldn C dX0_bound_0 rfl ?_
  refine g_get C 20 0 (by decide) (by decide) u0 rfl 2 rfl fX0_20 rfl rfl dX0_bound_1 ?_
  refine g_ildn C dX0_bound_4 rfl ?_
  refine g_bipush C ((nI 9)) dX0_bound_5 (by decide) ?_
  refine g_imul (v := (nI (dp * 9))) C dX0_bound_7 (pk_mul _ _) ?_
  refine g_ild C dX0_bound_8 rfl ?_
  refine g_iadd (v := (nI (dp * 9 + v))) C dX0_bound_10 (nI_add _ _) ?_
  refine g_aald C 24 0 4 (by decide) (by decide) (fun _ _ => rfl) rfl rfl (dp * 9 + v) (show dp * 9 + v < 81 by omega) rfl dX0_bound_11 ?_
  refine g_ast (lv' := [(5, .ref (Z.2.2.1 25 (dp * 9 + v))), (0, .ref (Z.2.2.1 20 0)), (1, .ref (Z.2.2.1 2 g)), (2, .int (nI dp)), (3, .int (nI tk)), (4, .int (nI v))]) C dX0_bound_12 rfl rfl ?_
  refine g_aldn C dX0_bound_14 rfl ?_
  refine g_get C 20 0 (by decide) (by decide) u0 rfl 1 rfl fX0_16 rfl rfl dX0_bound_15 ?_
  refine g_iconst C ((nI 0)) dX0_bound_18 (by decide) ?_
  refine g_ald C dX0_bound_19 rfl ?_
  refine g_iconst C ((nI 0)) dX0_bound_21 (by decide) ?_
  refine g_ildn C dX0_bound_22 rfl ?_
  refine g_iconst C ((nI 1)) dX0_bound_23 (by decide) ?_
  refine g_iadd (v := (nI (dp + 1))) C dX0_bound_24 (nI_add _ _) ?_
  refine g_copyl C mX0_78 23 0 25 (dp * 9 + v) (by decide) (by decide) (by decide) (show dp * 9 + v < 81 by omega) (fun _ _ => rfl) (fun _ _ => rfl) 0 0 (dp + 1) (by omega) (by omega) rfl rfl rfl rfl dX0_bound_25 ?_
  refine g_ildn C dX0_bound_28 rfl ?_
  refine g_iconst C ((nI 1)) dX0_bound_29 (by decide) ?_
  refine g_iadd (v := (nI (dp + 1))) C dX0_bound_30 (nI_add _ _) ?_
  refine g_ist (lv' := [(6, .int (nI (dp + 1))), (5, .ref (Z.2.2.1 25 (dp * 9 + v))), (0, .ref (Z.2.2.1 20 0)), (1, .ref (Z.2.2.1 2 g)), (2, .int (nI dp)), (3, .int (nI tk)), (4, .int (nI v))]) C dX0_bound_31 rfl rfl ?_
  refine g_iconst C ((nI 0)) dX0_bound_33 (by decide) ?_
  refine g_ist (lv' := [(7, .int (nI 0)), (6, .int (nI (dp + 1))), (5, .ref (Z.2.2.1 25 (dp * 9 + v))), (0, .ref (Z.2.2.1 20 0)), (1, .ref (Z.2.2.1 2 g)), (2, .int (nI dp)), (3, .int (nI tk)), (4, .int (nI v))]) C dX0_bound_34 rfl rfl ?_
  refine g_lv (lv1 := [(0, .ref (Z.2.2.1 20 0)), (1, .ref (Z.2.2.1 2 g)), (2, .int (nI dp)), (3, .int (nI tk)), (4, .int (nI v)), (5, .ref (Z.2.2.1 25 (dp * 9 + v))), (6, .int (nI (dp + 1 + 0))), (7, .int (nI 0))]) [3, 4, 5, 6, 7, 2, 1, 0] rfl ?_
  refine l_X0_bound_36 hA C hv hg hdp htk hvn hrw hYB hy hcnt ?_ (n + 1) 0 0 (fun _ => 0) _ (by omega) (by omega) ⟨fun r0 hr0 => va_up_ne _ _ hr0, fun i hi => by rw [va_up_self, pk_cpy_in (by omega) (by omega)]; congr 1; omega⟩ ⟨rfl, fun i hi => absurd hi (by omega), fun j hj => absurd hj (by omega), fun q => rfl⟩ (fun j hj => absurd hj (by omega))
  intro m s D hD1 hS hD3
  have hm : m = ct (sel tk v) n := hS.1
  refine g_ildn C dX0_bound_132 rfl ?_
  refine g_iconst C ((nI 2)) dX0_bound_133 (by decide) ?_
  refine g_iadd (v := (nI (dp + 2))) C dX0_bound_134 (nI_add _ _) ?_
  refine g_ist (lv' := [(7, .int (nI (dp + 2))), (0, .ref (Z.2.2.1 20 0)), (1, .ref (Z.2.2.1 2 g)), (2, .int (nI dp)), (3, .int (nI tk)), (4, .int (nI v)), (5, .ref (Z.2.2.1 25 (dp * 9 + v))), (6, .int (nI (dp + 1 + m)))]) C dX0_bound_135 rfl rfl ?_
  refine g_lv [1, 2, 3, 4, 5, 6, 7, 0] rfl ?_
  refine l_X0_bound_137 C hr hn9 hvn (by omega) hm hS (n + 1) (dp + 2) D (by omega) (by omega) (by omega) hD1 (fun j hj h => ?_) (fun j hj _ => hD3 j hj)
  have e : j = 0 := by omega
  subst e
  rw [Nat.pow_zero, Nat.mul_one]
  exact hD3 0 hj

