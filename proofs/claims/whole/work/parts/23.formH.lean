/-! ===== FormFinder: candidates, isBoundLess, promisesLess, leastBounded ===== -/
/-- v may stand next: it isn't taken, and all lesser ones that are like it are -/
def opn (tk : Nat) (lk : Nat → Nat) (v : Nat) : Prop := tk.testBit v = false ∧ ∀ u, (lk v).testBit u = true → tk.testBit u = true
/-- among the first j: fd's bits are those that may stand next and have the least row le -/
def cnd (tk : Nat) (lk r : Nat → Nat) (j fd le : Nat) : Prop := fd < 2 ^ 9 ∧ le ≤ 2 ^ 40 ∧ (∀ u, fd.testBit u = true ↔ u < j ∧ opn tk lk u ∧ r u = le) ∧ (∀ u, u < j → opn tk lk u → le ≤ r u) ∧ (le = 2 ^ 40 ∨ ∃ u, u < j ∧ opn tk lk u ∧ r u = le)
theorem cnd.no {tk : Nat} {lk r : Nat → Nat} {j fd le : Nat} (h : cnd tk lk r j fd le) (hno : ¬ opn tk lk j ∨ le < r j) : cnd tk lk r (j + 1) fd le := by
  obtain ⟨h1, h2, h3, h4, h5⟩ := h
  refine ⟨h1, h2, fun u => (h3 u).trans ⟨fun q => ⟨by omega, q.2⟩, fun q => ⟨?_, q.2⟩⟩, fun u hu ho => ?_, h5.elim Or.inl (fun ⟨u, a, b⟩ => Or.inr ⟨u, by omega, b⟩)⟩
  · rcases Nat.lt_or_eq_of_le (Nat.le_of_lt_succ q.1) with e | e
    · exact e
    · subst e; rcases hno with hno | hno
      · exact absurd q.2.1 hno
      · exact absurd q.2.2 (by omega)
  · rcases Nat.lt_or_eq_of_le (Nat.le_of_lt_succ hu) with e | e
    · exact h4 u e ho
    · subst e; rcases hno with hno | hno
      · exact absurd ho hno
      · omega
theorem cnd.eq {tk : Nat} {lk r : Nat → Nat} {j fd le : Nat} (hj : j < 9) (h : cnd tk lk r j fd le) (ho : opn tk lk j) (he : r j = le) : cnd tk lk r (j + 1) (fd ||| 2 ^ j) le := by
  obtain ⟨h1, h2, h3, h4, h5⟩ := h
  refine ⟨Nat.or_lt_two_pow h1 (Nat.pow_lt_pow_right (by decide) hj), h2, fun u => ?_, fun u hu hu2 => ?_, Or.inr ⟨j, by omega, ho, he⟩⟩
  · rw [Nat.testBit_or, Nat.testBit_two_pow, Bool.or_eq_true, h3 u, decide_eq_true_iff]
    constructor
    · rintro (⟨a, b⟩ | e)
      · exact ⟨by omega, b⟩
      · subst e; exact ⟨by omega, ho, he⟩
    · rintro ⟨a, b⟩
      rcases Nat.lt_or_eq_of_le (Nat.le_of_lt_succ a) with e | e
      · exact Or.inl ⟨e, b⟩
      · exact Or.inr e.symm
  · rcases Nat.lt_or_eq_of_le (Nat.le_of_lt_succ hu) with e | e
    · exact h4 u e hu2
    · subst e; omega
theorem cnd.lt {tk : Nat} {lk r : Nat → Nat} {j fd le : Nat} (hj : j < 9) (h : cnd tk lk r j fd le) (ho : opn tk lk j) (he : r j < le) : cnd tk lk r (j + 1) (0 ||| 2 ^ j) (r j) := by
  obtain ⟨h1, h2, h3, h4, h5⟩ := h
  refine ⟨Nat.or_lt_two_pow (by decide) (Nat.pow_lt_pow_right (by decide) hj), by omega, fun u => ?_, fun u hu hu2 => ?_, Or.inr ⟨j, by omega, ho, rfl⟩⟩
  · rw [Nat.testBit_or, Nat.testBit_two_pow, Bool.or_eq_true, decide_eq_true_iff, Nat.zero_testBit]
    constructor
    · rintro (a | e)
      · exact absurd a (by decide)
      · subst e; exact ⟨by omega, ho, rfl⟩
    · rintro ⟨a, b, d⟩
      rcases Nat.lt_or_eq_of_le (Nat.le_of_lt_succ a) with e | e
      · exact absurd (h4 u e b) (by omega)
      · exact Or.inr e.symm
  · rcases Nat.lt_or_eq_of_le (Nat.le_of_lt_succ hu) with e | e
    · have := h4 u e hu2; omega
    · subst e; omega
set_option maxRecDepth 100000 in
set_option maxHeartbeats 4000000 in
theorem l_X0_candidates_11 {X : Pk} {Z : Zk} {fr lo : Nat} {I : SI} {J : SJ} (C : Cx X cX0_candidates 8 RX0 Z fr lo) (hr : (xE X).sig.returnType = some .int) {n : Nat} {T : Nat → Nat → Nat} {L : Nat → Nat → Nat → Nat} (hv : CV I n T L) {g : Nat} (hg : g < 2) {dp tk : Nat} (hdp : dp < 9) (htk : tk < 2 ^ 9) {lk r : Nat → Nat} (hlk : ∀ v, v < n → I 26 0 v = nI (lk v) ∧ lk v < 2 ^ 9) (hrw : ∀ v, v < n → tk.testBit v = false → J 22 dp v = lN (r v) ∧ r v < 2 ^ 40) : ∀ k v fd le, n - v < k → v ≤ n → cnd tk lk r v fd le → G X 8 Z (QG X Z (fun v' I' J' => ∃ fd le, v' = some (.int (nI fd)) ∧ I' = I ∧ J' = sK J 23 (up2 (J 23) 0 dp (lN le)) ∧ cnd tk lk r n fd le)) I J 11 [(0, .ref (Z.2.2.1 20 0)), (1, .ref (Z.2.2.1 2 g)), (2, .int (nI dp)), (3, .int (nI tk)), (4, .long (lN le)), (6, .int (nI fd)), (7, .int (nI v))] [] := by
  obtain ⟨⟨hn1, hn9⟩, -⟩ := id hv
  intro k
  induction k with
  | zero => intro v fd le h; exact absurd h (by omega)
  | succ k ih =>
    intro v fd le hk hvn hc
    have hdv : tk / 2 ^ v ≤ tk := Nat.div_le_self _ _
    have hfd := hc.1
    have hle := hc.2.1
    refine g_ild C dX0_candidates_11 rfl ?_
    refine g_aldn C dX0_candidates_13 rfl ?_
    refine g_get C 2 g (by decide) (show g < 2 by omega) u1 rfl 0 rfl fX0_40 rfl rfl dX0_candidates_14 ?_
    refine g_top (y := (nI n)) (hv.sz hg) ?_
    refine n_icmp_ge (tgt := 102) C dX0_candidates_17 rfl (by omega) (by omega) (fun c17 => ?_) (fun c17 => ?_)
    · refine g_aldn C dX0_candidates_102 rfl ?_
      refine g_get C 20 0 (by decide) (by decide) u0 rfl 1 rfl fX0_16 rfl rfl dX0_candidates_103 ?_
      refine g_ildn C dX0_candidates_106 rfl ?_
      refine g_lld C dX0_candidates_107 rfl ?_
      refine g_last C 23 0 (by decide) (by decide) (fun _ _ => rfl) dp (show dp < 9 by omega) rfl dX0_candidates_109 ?_
      refine g_J (J1 := sK J 23 (up2 (J 23) 0 dp (lN le))) rfl ?_
      refine g_ild C dX0_candidates_110 rfl ?_
      exact g_ireturn C hr dX0_candidates_112 ⟨fd, le, rfl, rfl, rfl, (show v = n by omega) ▸ hc⟩
    · refine g_ildn C dX0_candidates_20 rfl ?_
      refine g_ild C dX0_candidates_21 rfl ?_
      refine g_ishr (v := (nI (tk / 2 ^ v))) C dX0_candidates_23 (shrI (by omega) (by omega)) ?_
      refine g_iconst C ((nI 1)) dX0_candidates_24 (by decide) ?_
      refine g_iand (v := (nI (tk / 2 ^ v % 2))) C dX0_candidates_25 (and1 _) ?_
      refine n_if_ne (tgt := 96) C dX0_candidates_26 rfl (by omega) (fun c26 => ?_) (fun c26 => ?_)
      · refine g_iinc (lv' := [(7, .int (nI (v + 1))), (0, .ref (Z.2.2.1 20 0)), (1, .ref (Z.2.2.1 2 g)), (2, .int (nI dp)), (3, .int (nI tk)), (4, .long (lN le)), (6, .int (nI fd))]) C ((nI (v + 1))) dX0_candidates_96 rfl (inc1 _) rfl rfl ?_
        refine g_goto (tgt := 11) C dX0_candidates_99 rfl ?_
        refine g_lv [1, 2, 3, 4, 5, 6, 0] rfl ?_
        exact ih (v + 1) fd le (by omega) (by omega) (hc.no (by first | exact Or.inl (fun q => absurd q.1 (by rw [bit_t (show tk / 2 ^ v % 2 = 1 by omega)]; decide)) | exact Or.inl (fun q => wo_n c40 q.2) | exact Or.inr c55))
      · have hbf : tk.testBit v = false := bit_f (by omega)
        have hlv := (hlk v (by omega)).2
        have hwl : wo (lk v) tk < 2 ^ 9 := wo_lt hlv
        refine g_aldn C dX0_candidates_29 rfl ?_
        refine g_get C 20 0 (by decide) (by decide) u0 rfl 3 rfl fX0_23 rfl rfl dX0_candidates_30 ?_
        refine g_ild C dX0_candidates_33 rfl ?_
        refine g_iald C 26 0 (by decide) (by decide) (fun _ _ => rfl) v (show v < 9 by omega) rfl dX0_candidates_35 (v := (nI (lk v))) (hlk v (by omega)).1 ?_
        refine g_ildn C dX0_candidates_36 rfl ?_
        refine g_iconst C ((-1)) dX0_candidates_37 (by decide) ?_
        refine g_ixor (v := (nI tk ^^^ (-1))) C dX0_candidates_38 rfl ?_
        refine g_iand (v := (nI (wo (lk v) tk))) C dX0_candidates_39 (notI _ _) ?_
        refine n_if_ne (tgt := 96) C dX0_candidates_40 rfl (by omega) (fun c40 => ?_) (fun c40 => ?_)
        · refine g_iinc (lv' := [(7, .int (nI (v + 1))), (0, .ref (Z.2.2.1 20 0)), (1, .ref (Z.2.2.1 2 g)), (2, .int (nI dp)), (3, .int (nI tk)), (4, .long (lN le)), (6, .int (nI fd))]) C ((nI (v + 1))) dX0_candidates_96 rfl (inc1 _) rfl rfl ?_
          refine g_goto (tgt := 11) C dX0_candidates_99 rfl ?_
          refine g_lv [1, 2, 3, 4, 5, 6, 0] rfl ?_
          exact ih (v + 1) fd le (by omega) (by omega) (hc.no (by first | exact Or.inl (fun q => absurd q.1 (by rw [bit_t (show tk / 2 ^ v % 2 = 1 by omega)]; decide)) | exact Or.inl (fun q => wo_n c40 q.2) | exact Or.inr c55))
        · have hop : opn tk lk v := ⟨hbf, wo_0 c40⟩
          have hrv := (hrw v (by omega) hbf).2
          refine g_aldn C dX0_candidates_43 rfl ?_
          refine g_get C 20 0 (by decide) (by decide) u0 rfl 0 rfl fX0_11 rfl rfl dX0_candidates_44 ?_
          refine g_ildn C dX0_candidates_47 rfl ?_
          refine g_aald C 21 0 4 (by decide) (by decide) (fun _ _ => rfl) rfl rfl dp (show dp < 9 by omega) rfl dX0_candidates_48 ?_
          refine g_ild C dX0_candidates_49 rfl ?_
          refine g_lald C 22 dp (by decide) (show dp < 9 by omega) (fun _ _ => rfl) v (show v < 9 by omega) rfl dX0_candidates_51 (v := (lN (r v))) (hrw v (by omega) hbf).1 ?_
          refine g_lld C dX0_candidates_52 rfl ?_
          refine g_lcmp (v := (cmpN (r v) le)) C dX0_candidates_54 (lcmpN (by omega) (by omega)) ?_
          refine c_if_gt (tgt := 96) C dX0_candidates_55 rfl (fun c55 => ?_) (fun c55 => ?_)
          · refine g_iinc (lv' := [(7, .int (nI (v + 1))), (0, .ref (Z.2.2.1 20 0)), (1, .ref (Z.2.2.1 2 g)), (2, .int (nI dp)), (3, .int (nI tk)), (4, .long (lN le)), (6, .int (nI fd))]) C ((nI (v + 1))) dX0_candidates_96 rfl (inc1 _) rfl rfl ?_
            refine g_goto (tgt := 11) C dX0_candidates_99 rfl ?_
            refine g_lv [1, 2, 3, 4, 5, 6, 0] rfl ?_
            exact ih (v + 1) fd le (by omega) (by omega) (hc.no (by first | exact Or.inl (fun q => absurd q.1 (by rw [bit_t (show tk / 2 ^ v % 2 = 1 by omega)]; decide)) | exact Or.inl (fun q => wo_n c40 q.2) | exact Or.inr c55))
          · refine g_aldn C dX0_candidates_58 rfl ?_
            refine g_get C 20 0 (by decide) (by decide) u0 rfl 0 rfl fX0_11 rfl rfl dX0_candidates_59 ?_
            refine g_ildn C dX0_candidates_62 rfl ?_
            refine g_aald C 21 0 4 (by decide) (by decide) (fun _ _ => rfl) rfl rfl dp (show dp < 9 by omega) rfl dX0_candidates_63 ?_
            refine g_ild C dX0_candidates_64 rfl ?_
            refine g_lald C 22 dp (by decide) (show dp < 9 by omega) (fun _ _ => rfl) v (show v < 9 by omega) rfl dX0_candidates_66 (v := (lN (r v))) (hrw v (by omega) hbf).1 ?_
            refine g_lld C dX0_candidates_67 rfl ?_
            refine g_lcmp (v := (cmpN (r v) le)) C dX0_candidates_69 (lcmpN (by omega) (by omega)) ?_
            refine c_if_ge (tgt := 87) C dX0_candidates_70 rfl (fun c70 => ?_) (fun c70 => ?_)
            · refine g_ild C dX0_candidates_87 rfl ?_
              refine g_iconst C ((nI 1)) dX0_candidates_89 (by decide) ?_
              refine g_ild C dX0_candidates_90 rfl ?_
              refine g_ishl (v := (nI (2 ^ v))) C dX0_candidates_92 (shl1 v (by omega)) ?_
              refine g_ior (v := (nI (fd ||| 2 ^ v))) C dX0_candidates_93 (orI _ _) ?_
              refine g_ist (lv' := [(6, .int (nI (fd ||| 2 ^ v))), (0, .ref (Z.2.2.1 20 0)), (1, .ref (Z.2.2.1 2 g)), (2, .int (nI dp)), (3, .int (nI tk)), (4, .long (lN le)), (7, .int (nI v))]) C dX0_candidates_94 rfl rfl ?_
              refine g_iinc (lv' := [(7, .int (nI (v + 1))), (6, .int (nI (fd ||| 2 ^ v))), (0, .ref (Z.2.2.1 20 0)), (1, .ref (Z.2.2.1 2 g)), (2, .int (nI dp)), (3, .int (nI tk)), (4, .long (lN le))]) C ((nI (v + 1))) dX0_candidates_96 rfl (inc1 _) rfl rfl ?_
              refine g_goto (tgt := 11) C dX0_candidates_99 rfl ?_
              refine g_lv [2, 3, 4, 5, 6, 1, 0] rfl ?_
              exact ih (v + 1) _ _ (by omega) (by omega) (hc.eq (by omega) hop (by omega))
            · refine g_iconst C ((nI 0)) dX0_candidates_73 (by decide) ?_
              refine g_ist (lv' := [(6, .int (nI 0)), (0, .ref (Z.2.2.1 20 0)), (1, .ref (Z.2.2.1 2 g)), (2, .int (nI dp)), (3, .int (nI tk)), (4, .long (lN le)), (7, .int (nI v))]) C dX0_candidates_74 rfl rfl ?_
              refine g_aldn C dX0_candidates_76 rfl ?_
              refine g_get C 20 0 (by decide) (by decide) u0 rfl 0 rfl fX0_11 rfl rfl dX0_candidates_77 ?_
              refine g_ildn C dX0_candidates_80 rfl ?_
              refine g_aald C 21 0 4 (by decide) (by decide) (fun _ _ => rfl) rfl rfl dp (show dp < 9 by omega) rfl dX0_candidates_81 ?_
              refine g_ild C dX0_candidates_82 rfl ?_
              refine g_lald C 22 dp (by decide) (show dp < 9 by omega) (fun _ _ => rfl) v (show v < 9 by omega) rfl dX0_candidates_84 (v := (lN (r v))) (hrw v (by omega) hbf).1 ?_
              refine g_lst (lv' := [(4, .long (lN (r v))), (6, .int (nI 0)), (0, .ref (Z.2.2.1 20 0)), (1, .ref (Z.2.2.1 2 g)), (2, .int (nI dp)), (3, .int (nI tk)), (7, .int (nI v))]) C dX0_candidates_85 rfl rfl ?_
              refine g_ild C dX0_candidates_87 rfl ?_
              refine g_iconst C ((nI 1)) dX0_candidates_89 (by decide) ?_
              refine g_ild C dX0_candidates_90 rfl ?_
              refine g_ishl (v := (nI (2 ^ v))) C dX0_candidates_92 (shl1 v (by omega)) ?_
              refine g_ior (v := (nI (0 ||| 2 ^ v))) C dX0_candidates_93 (orI _ _) ?_
              refine g_ist (lv' := [(6, .int (nI (0 ||| 2 ^ v))), (4, .long (lN (r v))), (0, .ref (Z.2.2.1 20 0)), (1, .ref (Z.2.2.1 2 g)), (2, .int (nI dp)), (3, .int (nI tk)), (7, .int (nI v))]) C dX0_candidates_94 rfl rfl ?_
              refine g_iinc (lv' := [(7, .int (nI (v + 1))), (6, .int (nI (0 ||| 2 ^ v))), (4, .long (lN (r v))), (0, .ref (Z.2.2.1 20 0)), (1, .ref (Z.2.2.1 2 g)), (2, .int (nI dp)), (3, .int (nI tk))]) C ((nI (v + 1))) dX0_candidates_96 rfl (inc1 _) rfl rfl ?_
              refine g_goto (tgt := 11) C dX0_candidates_99 rfl ?_
              refine g_lv [3, 4, 5, 6, 2, 1, 0] rfl ?_
              exact ih (v + 1) _ _ (by omega) (by omega) (hc.lt (by omega) hop c70)

set_option maxRecDepth 100000 in
set_option maxHeartbeats 4000000 in
/-- candidates -/
theorem c_X0_candidates {l : Launch} {Y : Yk} (hA : AJ Y.2.2) {I : SI} {J : SJ} {n : Nat} {T : Nat → Nat → Nat} {L : Nat → Nat → Nat → Nat} (hv : CV I n T L) {g : Nat} (hg : g < 2) {dp tk : Nat} (hdp : dp < 9) (htk : tk < 2 ^ 9) {lk r : Nat → Nat} (hlk : ∀ v, v < n → I 26 0 v = nI (lk v) ∧ lk v < 2 ^ 9) (hrw : ∀ v, v < n → tk.testBit v = false → J 22 dp v = lN (r v) ∧ r v < 2 ^ 40)  : MX l Y yX0_candidates cX0_candidates 8 (some .int) 0 0 [.ref (Y.2.2 20 0), .ref (Y.2.2 2 g), .int (nI dp), .int (nI tk)] I J (fun v' I' J' => ∃ fd le, v' = some (.int (nI fd)) ∧ I' = I ∧ J' = sK J 23 (up2 (J 23) 0 dp (lN le)) ∧ cnd tk lk r n fd le) := by
  refine MX.of hA (by decide) (own := RX0) rfl rfl rfl ?_
  intro X Z hl hY1 hY2 hY3 C hr
  obtain ⟨D0, ca0, ad0⟩ := Y
  dsimp only at hA hY1 hY2 hY3
  subst hY1; subst hY2; subst hY3; subst hl
  show G X 8 Z (QG X Z _) I J 0 [(0, .ref (Z.2.2.1 20 0)), (1, .ref (Z.2.2.1 2 g)), (2, .int (nI dp)), (3, .int (nI tk))] []
  refine g_ldc2 C qX0_32 dX0_candidates_0 ?_
  refine g_topl (y := lN 1099511627776) rfl ?_
  refine g_lst (lv' := [(4, .long (lN 1099511627776)), (0, .ref (Z.2.2.1 20 0)), (1, .ref (Z.2.2.1 2 g)), (2, .int (nI dp)), (3, .int (nI tk))]) C dX0_candidates_3 rfl rfl ?_
  refine g_iconst C ((nI 0)) dX0_candidates_5 (by decide) ?_
  refine g_ist (lv' := [(6, .int (nI 0)), (4, .long (lN 1099511627776)), (0, .ref (Z.2.2.1 20 0)), (1, .ref (Z.2.2.1 2 g)), (2, .int (nI dp)), (3, .int (nI tk))]) C dX0_candidates_6 rfl rfl ?_
  refine g_iconst C ((nI 0)) dX0_candidates_8 (by decide) ?_
  refine g_ist (lv' := [(7, .int (nI 0)), (6, .int (nI 0)), (4, .long (lN 1099511627776)), (0, .ref (Z.2.2.1 20 0)), (1, .ref (Z.2.2.1 2 g)), (2, .int (nI dp)), (3, .int (nI tk))]) C dX0_candidates_9 rfl rfl ?_
  refine g_lv [3, 4, 5, 6, 2, 1, 0] rfl ?_
  exact l_X0_candidates_11 C hr hv hg hdp htk hlk hrw (n + 1) 0 0 1099511627776 (by omega) (by omega) ⟨by decide, by decide, fun u => ⟨fun q => absurd q (by simp), fun q => absurd q.1 (by omega)⟩, fun u hu => absurd hu (by omega), Or.inl rfl⟩

set_option maxRecDepth 100000 in
set_option maxHeartbeats 4000000 in
/-- isBoundLess -/
theorem c_X0_isBoundLess {l : Launch} {Y : Yk} (hA : AJ Y.2.2) {I : SI} {J : SJ} {n dp v w : Nat} (hn9 : n ≤ 9) (hdp : dp < 9) (hvn : v < n) (hwn : w < n) {A B : Nat → Nat} (hA1 : ∀ i, i < n → J 25 (dp * 9 + v) i = lN (A i) ∧ A i < 2 ^ 60) (hB1 : ∀ i, i < n → J 25 (dp * 9 + w) i = lN (B i) ∧ B i < 2 ^ 60)  : MX l Y yX0_isBoundLess cX0_isBoundLess 6 (some .boolean) 1 40 [.ref (Y.2.2 20 0), .int (nI n), .int (nI dp), .int (nI v), .int (nI w)] I J (fun v' I' J' => (∃ b : Bool, v' = some (.int (bI b)) ∧ (b = true ↔ lx n (A) (B))) ∧ I' = I ∧ J' = J) := by
  refine MX.of hA (by decide) (own := RX0) rfl rfl rfl ?_
  intro X Z hl hY1 hY2 hY3 C hr
  obtain ⟨D0, ca0, ad0⟩ := Y
  dsimp only at hA hY1 hY2 hY3
  subst hY1; subst hY2; subst hY3; subst hl
  show G X 6 Z (QG X Z _) I J 0 [(0, .ref (Z.2.2.1 20 0)), (1, .int (nI n)), (2, .int (nI dp)), (3, .int (nI v)), (4, .int (nI w))] []
  refine g_ildn C dX0_isBoundLess_0 rfl ?_
  refine g_bipush C ((nI 9)) dX0_isBoundLess_1 (by decide) ?_
  refine g_imul (v := (nI (dp * 9))) C dX0_isBoundLess_3 (pk_mul _ _) ?_
  refine g_ist (lv' := [(5, .int (nI (dp * 9))), (0, .ref (Z.2.2.1 20 0)), (1, .int (nI n)), (2, .int (nI dp)), (3, .int (nI v)), (4, .int (nI w))]) C dX0_isBoundLess_4 rfl rfl ?_
  refine g_aldn C dX0_isBoundLess_6 rfl ?_
  refine g_get C 20 0 (by decide) (by decide) u0 rfl 2 rfl fX0_20 rfl rfl dX0_isBoundLess_7 ?_
  refine g_ild C dX0_isBoundLess_10 rfl ?_
  refine g_ildn C dX0_isBoundLess_12 rfl ?_
  refine g_iadd (v := (nI (dp * 9 + v))) C dX0_isBoundLess_13 (nI_add _ _) ?_
  refine g_aald C 24 0 4 (by decide) (by decide) (fun _ _ => rfl) rfl rfl (dp * 9 + v) (show dp * 9 + v < 81 by omega) rfl dX0_isBoundLess_14 ?_
  refine g_aldn C dX0_isBoundLess_15 rfl ?_
  refine g_get C 20 0 (by decide) (by decide) u0 rfl 2 rfl fX0_20 rfl rfl dX0_isBoundLess_16 ?_
  refine g_ild C dX0_isBoundLess_19 rfl ?_
  refine g_ild C dX0_isBoundLess_21 rfl ?_
  refine g_iadd (v := (nI (dp * 9 + w))) C dX0_isBoundLess_23 (nI_add _ _) ?_
  refine g_aald C 24 0 4 (by decide) (by decide) (fun _ _ => rfl) rfl rfl (dp * 9 + w) (show dp * 9 + w < 81 by omega) rfl dX0_isBoundLess_24 ?_
  refine g_ildn C dX0_isBoundLess_25 rfl ?_
  refine g_callN (As := [.ref (Z.2.2.1 25 (dp * 9 + v)), .ref (Z.2.2.1 25 (dp * 9 + w)), .int (nI n)]) (st := []) C (c_X5_compareRows hA (k1 := 25) (r1 := dp * 9 + v) (k2 := 25) (r2 := dp * 9 + w) (m1 := 9) (m2 := 9) (by decide) (show dp * 9 + v < 81 by omega) (by decide) (show dp * 9 + w < 81 by omega) (fun _ _ => rfl) (fun _ _ => rfl) (by omega) (by omega) rfl rfl (A := A) (B := B) hA1 hB1) wX5_compareRows tX5_compareRows C.2.2.2.2.2.1.2 rfl rfl rfl rfl dX0_isBoundLess_26 ?_
  rintro v9 I9 J9 ⟨⟨c, h91, hc⟩, h92, h93⟩
  rw [h91, h92, h93]
  clear h91 h92 h93 v9 I9 J9
  show G X _ Z _ I J 29 [(5, .int (nI (dp * 9))), (0, .ref (Z.2.2.1 20 0)), (1, .int (nI n)), (2, .int (nI dp)), (3, .int (nI v)), (4, .int (nI w))] [.int c]
  refine g_if_ge (tgt := 36) C dX0_isBoundLess_29 rfl (fun c29 => ?_) (fun c29 => ?_)
  · refine g_iconst C ((nI 0)) dX0_isBoundLess_36 (by decide) ?_
    exact g_zreturn C hr (by decide) dX0_isBoundLess_37 ⟨⟨false, rfl, ⟨fun h => absurd h (by decide), fun h => by rcases hc with ⟨e, _⟩ | ⟨_, q⟩ | ⟨_, q⟩; exact absurd c29 (by rw [e]; decide); exact (lx_irr (lx_r h (fun i hi => (q i hi).symm))).elim; exact (lx_irr (lx_tr h q)).elim⟩⟩, rfl, rfl⟩
  · refine g_iconst C ((nI 1)) dX0_isBoundLess_32 (by decide) ?_
    refine g_goto (tgt := 37) C dX0_isBoundLess_33 rfl ?_
    exact g_zreturn C hr (by decide) dX0_isBoundLess_37 ⟨⟨true, rfl, ⟨fun _ => by rcases hc with ⟨_, q⟩ | ⟨e, _⟩ | ⟨e, _⟩; exact q; exact absurd (by rw [e]; decide) c29; exact absurd (by rw [e]; decide) c29, fun _ => rfl⟩⟩, rfl, rfl⟩

set_option maxRecDepth 100000 in
set_option maxHeartbeats 4000000 in
/-- promisesLess -/
theorem c_X0_promisesLess {l : Launch} {Y : Yk} (hA : AJ Y.2.2) {I : SI} {J : SJ} {n : Nat} {T : Nat → Nat → Nat} {L : Nat → Nat → Nat → Nat} (hv : CV I n T L) {g : Nat} (hg : g < 2) {dp v : Nat} (hdp : dp < 9) (hvn : v < n) {A B : Nat → Nat} (hA1 : ∀ i, i < n → J 25 (dp * 9 + v) i = lN (A i) ∧ A i < 2 ^ 60) (hB1 : ∀ i, i < n → J 9 g i = lN (B i) ∧ B i < 2 ^ 60)  : MX l Y yX0_promisesLess cX0_promisesLess 4 (some .boolean) 1 40 [.ref (Y.2.2 20 0), .ref (Y.2.2 2 g), .int (nI dp), .int (nI v)] I J (fun v' I' J' => (∃ b : Bool, v' = some (.int (bI b)) ∧ (b = true ↔ lx n (A) (B))) ∧ I' = I ∧ J' = J) := by
  refine MX.of hA (by decide) (own := RX0) rfl rfl rfl ?_
  intro X Z hl hY1 hY2 hY3 C hr
  obtain ⟨D0, ca0, ad0⟩ := Y
  dsimp only at hA hY1 hY2 hY3
  subst hY1; subst hY2; subst hY3; subst hl
  show G X 4 Z (QG X Z _) I J 0 [(0, .ref (Z.2.2.1 20 0)), (1, .ref (Z.2.2.1 2 g)), (2, .int (nI dp)), (3, .int (nI v))] []
  obtain ⟨⟨hn1, hn9⟩, -⟩ := id hv
  refine g_aldn C dX0_promisesLess_0 rfl ?_
  refine g_get C 20 0 (by decide) (by decide) u0 rfl 2 rfl fX0_20 rfl rfl dX0_promisesLess_1 ?_
  refine g_ildn C dX0_promisesLess_4 rfl ?_
  refine g_bipush C ((nI 9)) dX0_promisesLess_5 (by decide) ?_
  refine g_imul (v := (nI (dp * 9))) C dX0_promisesLess_7 (pk_mul _ _) ?_
  refine g_ildn C dX0_promisesLess_8 rfl ?_
  refine g_iadd (v := (nI (dp * 9 + v))) C dX0_promisesLess_9 (nI_add _ _) ?_
  refine g_aald C 24 0 4 (by decide) (by decide) (fun _ _ => rfl) rfl rfl (dp * 9 + v) (show dp * 9 + v < 81 by omega) rfl dX0_promisesLess_10 ?_
  refine g_aldn C dX0_promisesLess_11 rfl ?_
  refine g_get C 2 g (by decide) (show g < 2 by omega) u1 rfl 7 rfl fX0_27 rfl rfl dX0_promisesLess_12 ?_
  refine g_aldn C dX0_promisesLess_15 rfl ?_
  refine g_get C 2 g (by decide) (show g < 2 by omega) u1 rfl 0 rfl fX0_40 rfl rfl dX0_promisesLess_16 ?_
  refine g_top (y := (nI n)) (hv.sz hg) ?_
  refine g_callN (As := [.ref (Z.2.2.1 25 (dp * 9 + v)), .ref (Z.2.2.1 9 g), .int (nI n)]) (st := []) C (c_X5_compareRows hA (k1 := 25) (r1 := dp * 9 + v) (k2 := 9) (r2 := g) (m1 := 9) (m2 := 9) (by decide) (show dp * 9 + v < 81 by omega) (by decide) (show g < 2 by omega) (fun _ _ => rfl) (fun _ _ => rfl) (by omega) (by omega) rfl rfl (A := A) (B := B) hA1 hB1) wX5_compareRows tX5_compareRows C.2.2.2.2.2.1.2 rfl rfl rfl rfl dX0_promisesLess_19 ?_
  rintro v9 I9 J9 ⟨⟨c, h91, hc⟩, h92, h93⟩
  rw [h91, h92, h93]
  clear h91 h92 h93 v9 I9 J9
  show G X _ Z _ I J 22 [(0, .ref (Z.2.2.1 20 0)), (1, .ref (Z.2.2.1 2 g)), (2, .int (nI dp)), (3, .int (nI v))] [.int c]
  refine g_if_ge (tgt := 29) C dX0_promisesLess_22 rfl (fun c22 => ?_) (fun c22 => ?_)
  · refine g_iconst C ((nI 0)) dX0_promisesLess_29 (by decide) ?_
    exact g_zreturn C hr (by decide) dX0_promisesLess_30 ⟨⟨false, rfl, ⟨fun h => absurd h (by decide), fun h => by rcases hc with ⟨e, _⟩ | ⟨_, q⟩ | ⟨_, q⟩; exact absurd c22 (by rw [e]; decide); exact (lx_irr (lx_r h (fun i hi => (q i hi).symm))).elim; exact (lx_irr (lx_tr h q)).elim⟩⟩, rfl, rfl⟩
  · refine g_iconst C ((nI 1)) dX0_promisesLess_25 (by decide) ?_
    refine g_goto (tgt := 30) C dX0_promisesLess_26 rfl ?_
    exact g_zreturn C hr (by decide) dX0_promisesLess_30 ⟨⟨true, rfl, ⟨fun _ => by rcases hc with ⟨_, q⟩ | ⟨e, _⟩ | ⟨e, _⟩; exact q; exact absurd (by rw [e]; decide) c22; exact absurd (by rw [e]; decide) c22, fun _ => rfl⟩⟩, rfl, rfl⟩

/-- z is the place of the least bound among the open ones below j; - 1 if none is open -/
def lst (n : Nat) (op : Nat) (b : Nat → Nat → Nat) (j : Nat) (z : Int32) : Prop := (z = -1 ∧ ∀ u, u < j → op.testBit u = false) ∨ ∃ l, z = nI l ∧ l < j ∧ op.testBit l = true ∧ ∀ u, u < j → op.testBit u = true → ¬ lx n (b u) (b l)
set_option maxRecDepth 100000 in
set_option maxHeartbeats 4000000 in
theorem l_X0_leastBounded_6 {X : Pk} {Z : Zk} {I : SI} {J : SJ} (hA : AJ Z.2.2.1) (C : Cx X cX0_leastBounded 6 RX0 Z 2 80) (hr : (xE X).sig.returnType = some .int) {n dp op : Nat} (hn9 : n ≤ 9) (hdp : dp < 9) (hop : op < 2 ^ 9) {b : Nat → Nat → Nat} (hb : ∀ v, v < n → op.testBit v = true → ∀ i, i < n → J 25 (dp * 9 + v) i = lN (b v i) ∧ b v i < 2 ^ 60) : ∀ k v z, n - v < k → v ≤ n → lst n op b v z → G X 6 Z (QG X Z (fun v' I' J' => (∃ z : Int32, v' = some (.int z) ∧ lst n op b n z) ∧ I' = I ∧ J' = J)) I J 6 [(0, .ref (Z.2.2.1 20 0)), (1, .int (nI n)), (2, .int (nI dp)), (3, .int (nI op)), (4, .int z), (5, .int (nI v))] [] := by
  intro k
  induction k with
  | zero => intro v z h; exact absurd h (by omega)
  | succ k ih =>
    intro v z hk hvn hz
    have hdv : op / 2 ^ v ≤ op := Nat.div_le_self _ _
    rcases hz with ⟨rfl, hno⟩ | ⟨l, rfl, h1, h2, h3⟩
    · refine g_ild C dX0_leastBounded_6 rfl ?_
      refine g_ildn C dX0_leastBounded_8 rfl ?_
      refine n_icmp_ge (tgt := 50) C dX0_leastBounded_9 rfl (by omega) (by omega) (fun c9 => ?_) (fun c9 => ?_)
      · refine g_ild C dX0_leastBounded_50 rfl ?_
        exact g_ireturn C hr dX0_leastBounded_52 ⟨⟨_, rfl, (show v = n by omega) ▸ (Or.inl ⟨rfl, hno⟩ : lst n op b v (-1))⟩, rfl, rfl⟩
      · refine g_ildn C dX0_leastBounded_12 rfl ?_
        refine g_ild C dX0_leastBounded_13 rfl ?_
        refine g_ishr (v := (nI (op / 2 ^ v))) C dX0_leastBounded_15 (shrI (by omega) (by omega)) ?_
        refine g_iconst C ((nI 1)) dX0_leastBounded_16 (by decide) ?_
        refine g_iand (v := (nI (op / 2 ^ v % 2))) C dX0_leastBounded_17 (and1 _) ?_
        refine g_iconst C ((nI 1)) dX0_leastBounded_18 (by decide) ?_
        refine n_icmp_ne (tgt := 44) C dX0_leastBounded_19 rfl (by omega) (by omega) (fun c19 => ?_) (fun c19 => ?_)
        · refine g_iinc (lv' := [(5, .int (nI (v + 1))), (0, .ref (Z.2.2.1 20 0)), (1, .int (nI n)), (2, .int (nI dp)), (3, .int (nI op)), (4, .int (-1))]) C ((nI (v + 1))) dX0_leastBounded_44 rfl (inc1 _) rfl rfl ?_
          refine g_goto (tgt := 6) C dX0_leastBounded_47 rfl ?_
          refine g_lv [1, 2, 3, 4, 5, 0] rfl ?_
          exact ih (v + 1) _ (by omega) (by omega) (Or.inl ⟨rfl, fun u hu => by rcases Nat.lt_or_eq_of_le (Nat.le_of_lt_succ hu) with e | e; exact hno u e; subst e; exact bit_f c19⟩)
        · have hbv : op.testBit v = true := bit_t c19
          refine g_ild C dX0_leastBounded_22 rfl ?_
          refine g_if_lt (tgt := 40) C dX0_leastBounded_24 rfl (fun c24 => ?_) (fun c24 => absurd (by decide) c24)
          · refine g_ild C dX0_leastBounded_40 rfl ?_
            refine g_ist (lv' := [(4, .int (nI v)), (0, .ref (Z.2.2.1 20 0)), (1, .int (nI n)), (2, .int (nI dp)), (3, .int (nI op)), (5, .int (nI v))]) C dX0_leastBounded_42 rfl rfl ?_
            refine g_iinc (lv' := [(5, .int (nI (v + 1))), (4, .int (nI v)), (0, .ref (Z.2.2.1 20 0)), (1, .int (nI n)), (2, .int (nI dp)), (3, .int (nI op))]) C ((nI (v + 1))) dX0_leastBounded_44 rfl (inc1 _) rfl rfl ?_
            refine g_goto (tgt := 6) C dX0_leastBounded_47 rfl ?_
            refine g_lv [2, 3, 4, 5, 1, 0] rfl ?_
            exact ih (v + 1) _ (by omega) (by omega) (Or.inr ⟨v, rfl, by omega, hbv, fun u hu h => by rcases Nat.lt_or_eq_of_le (Nat.le_of_lt_succ hu) with e | e; exact absurd h (by rw [hno u e]; decide); subst e; exact lx_irr⟩)
    · refine g_ild C dX0_leastBounded_6 rfl ?_
      refine g_ildn C dX0_leastBounded_8 rfl ?_
      refine n_icmp_ge (tgt := 50) C dX0_leastBounded_9 rfl (by omega) (by omega) (fun c9 => ?_) (fun c9 => ?_)
      · refine g_ild C dX0_leastBounded_50 rfl ?_
        exact g_ireturn C hr dX0_leastBounded_52 ⟨⟨_, rfl, (show v = n by omega) ▸ (Or.inr ⟨l, rfl, h1, h2, h3⟩ : lst n op b v (nI l))⟩, rfl, rfl⟩
      · refine g_ildn C dX0_leastBounded_12 rfl ?_
        refine g_ild C dX0_leastBounded_13 rfl ?_
        refine g_ishr (v := (nI (op / 2 ^ v))) C dX0_leastBounded_15 (shrI (by omega) (by omega)) ?_
        refine g_iconst C ((nI 1)) dX0_leastBounded_16 (by decide) ?_
        refine g_iand (v := (nI (op / 2 ^ v % 2))) C dX0_leastBounded_17 (and1 _) ?_
        refine g_iconst C ((nI 1)) dX0_leastBounded_18 (by decide) ?_
        refine n_icmp_ne (tgt := 44) C dX0_leastBounded_19 rfl (by omega) (by omega) (fun c19 => ?_) (fun c19 => ?_)
        · refine g_iinc (lv' := [(5, .int (nI (v + 1))), (0, .ref (Z.2.2.1 20 0)), (1, .int (nI n)), (2, .int (nI dp)), (3, .int (nI op)), (4, .int (nI l))]) C ((nI (v + 1))) dX0_leastBounded_44 rfl (inc1 _) rfl rfl ?_
          refine g_goto (tgt := 6) C dX0_leastBounded_47 rfl ?_
          refine g_lv [1, 2, 3, 4, 5, 0] rfl ?_
          exact ih (v + 1) _ (by omega) (by omega) (Or.inr ⟨l, rfl, by omega, h2, fun u hu h => by rcases Nat.lt_or_eq_of_le (Nat.le_of_lt_succ hu) with e | e; exact h3 u e h; subst e; first | exact absurd h (by rw [bit_f c19]; decide) | exact (fun q2 => absurd (hq.mpr q2) (by rw [c37]; decide))⟩)
        · have hbv : op.testBit v = true := bit_t c19
          refine g_ild C dX0_leastBounded_22 rfl ?_
          refine n_if_lt (tgt := 40) C dX0_leastBounded_24 rfl (by omega) (fun c24 => absurd c24 (by omega)) (fun c24 => ?_)
          · refine g_aldn C dX0_leastBounded_27 rfl ?_
            refine g_ildn C dX0_leastBounded_28 rfl ?_
            refine g_ildn C dX0_leastBounded_29 rfl ?_
            refine g_ild C dX0_leastBounded_30 rfl ?_
            refine g_ild C dX0_leastBounded_32 rfl ?_
            refine g_callV (As := [.int (nI n), .int (nI dp), .int (nI v), .int (nI l)]) (st := []) C (c_X0_isBoundLess hA hn9 hdp (show v < n by omega) (show l < n by omega) (A := b v) (B := b l) (hb v (by omega) hbv) (hb l (by omega) h2)) wX0_isBoundLess iX0_isBoundLess sX0_isBoundLess mX0_92 20 0 (by decide) (by decide) rfl rfl rfl rfl rfl rfl rfl rfl dX0_leastBounded_34 ?_
            rintro v9 I9 J9 ⟨⟨q, h91, hq⟩, h92, h93⟩
            rw [h91, h92, h93]
            clear h91 h92 h93 v9 I9 J9
            show G X _ Z _ I J 37 [(0, .ref (Z.2.2.1 20 0)), (1, .int (nI n)), (2, .int (nI dp)), (3, .int (nI op)), (4, .int (nI l)), (5, .int (nI v))] [.int (bI q)]
            refine b_if_eq (tgt := 44) C dX0_leastBounded_37 rfl (fun c37 => ?_) (fun c37 => ?_)
            · refine g_iinc (lv' := [(5, .int (nI (v + 1))), (0, .ref (Z.2.2.1 20 0)), (1, .int (nI n)), (2, .int (nI dp)), (3, .int (nI op)), (4, .int (nI l))]) C ((nI (v + 1))) dX0_leastBounded_44 rfl (inc1 _) rfl rfl ?_
              refine g_goto (tgt := 6) C dX0_leastBounded_47 rfl ?_
              refine g_lv [1, 2, 3, 4, 5, 0] rfl ?_
              exact ih (v + 1) _ (by omega) (by omega) (Or.inr ⟨l, rfl, by omega, h2, fun u hu h => by rcases Nat.lt_or_eq_of_le (Nat.le_of_lt_succ hu) with e | e; exact h3 u e h; subst e; first | exact absurd h (by rw [bit_f c19]; decide) | exact (fun q2 => absurd (hq.mpr q2) (by rw [c37]; decide))⟩)
            · refine g_ild C dX0_leastBounded_40 rfl ?_
              refine g_ist (lv' := [(4, .int (nI v)), (0, .ref (Z.2.2.1 20 0)), (1, .int (nI n)), (2, .int (nI dp)), (3, .int (nI op)), (5, .int (nI v))]) C dX0_leastBounded_42 rfl rfl ?_
              refine g_iinc (lv' := [(5, .int (nI (v + 1))), (4, .int (nI v)), (0, .ref (Z.2.2.1 20 0)), (1, .int (nI n)), (2, .int (nI dp)), (3, .int (nI op))]) C ((nI (v + 1))) dX0_leastBounded_44 rfl (inc1 _) rfl rfl ?_
              refine g_goto (tgt := 6) C dX0_leastBounded_47 rfl ?_
              refine g_lv [2, 3, 4, 5, 1, 0] rfl ?_
              exact ih (v + 1) _ (by omega) (by omega) (Or.inr ⟨v, rfl, by omega, hbv, fun u hu h => by rcases Nat.lt_or_eq_of_le (Nat.le_of_lt_succ hu) with e | e; exact fun q2 => h3 u e h (lx_tr q2 (hq.mp c37)); subst e; exact lx_irr⟩)

set_option maxRecDepth 100000 in
set_option maxHeartbeats 4000000 in
/-- leastBounded -/
theorem c_X0_leastBounded {l : Launch} {Y : Yk} (hA : AJ Y.2.2) {I : SI} {J : SJ} {n dp op : Nat} (hn9 : n ≤ 9) (hdp : dp < 9) (hop : op < 2 ^ 9) {b : Nat → Nat → Nat} (hb : ∀ v, v < n → op.testBit v = true → ∀ i, i < n → J 25 (dp * 9 + v) i = lN (b v i) ∧ b v i < 2 ^ 60)  : MX l Y yX0_leastBounded cX0_leastBounded 6 (some .int) 2 80 [.ref (Y.2.2 20 0), .int (nI n), .int (nI dp), .int (nI op)] I J (fun v' I' J' => (∃ z : Int32, v' = some (.int z) ∧ lst n op b n z) ∧ I' = I ∧ J' = J) := by
  refine MX.of hA (by decide) (own := RX0) rfl rfl rfl ?_
  intro X Z hl hY1 hY2 hY3 C hr
  obtain ⟨D0, ca0, ad0⟩ := Y
  dsimp only at hA hY1 hY2 hY3
  subst hY1; subst hY2; subst hY3; subst hl
  show G X 6 Z (QG X Z _) I J 0 [(0, .ref (Z.2.2.1 20 0)), (1, .int (nI n)), (2, .int (nI dp)), (3, .int (nI op))] []
  refine g_iconst C ((-1)) dX0_leastBounded_0 (by decide) ?_
  refine g_ist (lv' := [(4, .int (-1)), (0, .ref (Z.2.2.1 20 0)), (1, .int (nI n)), (2, .int (nI dp)), (3, .int (nI op))]) C dX0_leastBounded_1 rfl rfl ?_
  refine g_iconst C ((nI 0)) dX0_leastBounded_3 (by decide) ?_
  refine g_ist (lv' := [(5, .int (nI 0)), (4, .int (-1)), (0, .ref (Z.2.2.1 20 0)), (1, .int (nI n)), (2, .int (nI dp)), (3, .int (nI op))]) C dX0_leastBounded_4 rfl rfl ?_
  refine g_lv [2, 3, 4, 5, 1, 0] rfl ?_
  exact l_X0_leastBounded_6 hA C hr hn9 hdp hop hb (n + 1) 0 _ (by omega) (by omega) (Or.inl ⟨rfl, fun u hu => absurd hu (by omega)⟩)

