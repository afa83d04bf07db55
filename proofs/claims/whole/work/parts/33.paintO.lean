/-! ===== Painter: gatherKeysOf, gatherKeys, paintTints ===== -/
set_option maxRecDepth 100000 in
set_option maxHeartbeats 4000000 in
theorem l_X3_gatherKeysOf_57 {X : Pk} {Z : Zk} {fr lo : Nat} {Q : State → Prop} {I : SI} {J : SJ} (C : Cx X cX3_gatherKeysOf 9 RX3 Z fr lo) {n g v w m : Nat} {L : Nat → Nat → Nat → Nat} {c s : Nat → Nat} (hn9 : n ≤ 9) (hg : g < 2) (hvn : v < n) (hm : m + 1 < n) (hs : ∀ j, j < m → s j < 400) (hx : pr L g v w * 18 + c (9 * g + w) < 400) (hex : ∀ a (H : Nat → Nat → Int32), a ≤ m → (∀ r, r ≠ (9 * g + v) → H r = I 16 r) → (∀ j, j < a → H (9 * g + v) j = nI (s j)) → (∀ j, a ≤ j → j < m → H (9 * g + v) (j + 1) = nI (s j)) → (∀ j, a ≤ j → j < m → pr L g v w * 18 + c (9 * g + w) < s j) → (a = 0 ∨ s (a - 1) ≤ pr L g v w * 18 + c (9 * g + w)) → G X 9 Z Q (sK I 16 H) J 92 [(0, .ref (Z.2.2.1 10 0)), (1, .ref (Z.2.2.1 2 g)), (2, .int (nI v)), (3, .int (nI (9 * g))), (4, .ref (Z.2.2.1 16 (9 * g + v))), (5, .int (nI m)), (6, .int (nI w)), (7, .int (nI (pr L g v w * 18 + c (9 * g + w)))), (8, .int (nI a))] []) : ∀ k a (H : Nat → Nat → Int32), a < k → a ≤ m → (∀ r, r ≠ (9 * g + v) → H r = I 16 r) → (∀ j, j < a → H (9 * g + v) j = nI (s j)) → (∀ j, a ≤ j → j < m → H (9 * g + v) (j + 1) = nI (s j)) → (∀ j, a ≤ j → j < m → pr L g v w * 18 + c (9 * g + w) < s j) → G X 9 Z Q (sK I 16 H) J 57 [(0, .ref (Z.2.2.1 10 0)), (1, .ref (Z.2.2.1 2 g)), (2, .int (nI v)), (3, .int (nI (9 * g))), (4, .ref (Z.2.2.1 16 (9 * g + v))), (5, .int (nI m)), (6, .int (nI w)), (7, .int (nI (pr L g v w * 18 + c (9 * g + w)))), (8, .int (nI a))] [] := by
  intro k
  induction k with
  | zero => intro a H h; exact absurd h (by omega)
  | succ k ih =>
    intro a H hk ham hH1 hH2 hH3 h5
    have hsa : 0 < a → s (a - 1) < 400 := fun h => hs _ (by omega)
    refine g_ild C dX3_gatherKeysOf_57 rfl ?_
    refine n_if_le (tgt := 92) C dX3_gatherKeysOf_59 rfl (by omega) (fun c59 => ?_) (fun c59 => ?_)
    · refine g_lv [0, 1, 2, 3, 4, 5, 6, 7, 8] rfl ?_
      exact hex a H (by omega) hH1 hH2 hH3 h5 (by first | exact Or.inl (by omega) | exact Or.inr c71)
    · refine g_ald C dX3_gatherKeysOf_62 rfl ?_
      refine g_ild C dX3_gatherKeysOf_64 rfl ?_
      refine g_iconst C ((nI 1)) dX3_gatherKeysOf_66 (by decide) ?_
      refine g_isub (v := (nI (a - 1))) C dX3_gatherKeysOf_67 (pk_sub (by omega)) ?_
      refine g_iald C 16 (9 * g + v) (by decide) (show 9 * g + v < 18 by omega) (fun _ _ => rfl) (a - 1) (show a - 1 < 9 by omega) rfl dX3_gatherKeysOf_68 (v := (nI (s (a - 1)))) (by rw [sK_self]; exact hH2 (a - 1) (by omega)) ?_
      refine g_ild C dX3_gatherKeysOf_69 rfl ?_
      refine n_icmp_le (tgt := 92) C dX3_gatherKeysOf_71 rfl (by omega) (by omega) (fun c71 => ?_) (fun c71 => ?_)
      · refine g_lv [0, 1, 2, 3, 4, 5, 6, 7, 8] rfl ?_
        exact hex a H (by omega) hH1 hH2 hH3 h5 (by first | exact Or.inl (by omega) | exact Or.inr c71)
      · refine g_ald C dX3_gatherKeysOf_74 rfl ?_
        refine g_ild C dX3_gatherKeysOf_76 rfl ?_
        refine g_ald C dX3_gatherKeysOf_78 rfl ?_
        refine g_ild C dX3_gatherKeysOf_80 rfl ?_
        refine g_iconst C ((nI 1)) dX3_gatherKeysOf_82 (by decide) ?_
        refine g_isub (v := (nI (a - 1))) C dX3_gatherKeysOf_83 (pk_sub (by omega)) ?_
        refine g_iald C 16 (9 * g + v) (by decide) (show 9 * g + v < 18 by omega) (fun _ _ => rfl) (a - 1) (show a - 1 < 9 by omega) rfl dX3_gatherKeysOf_84 (v := (nI (s (a - 1)))) (by rw [sK_self]; exact hH2 (a - 1) (by omega)) ?_
        refine g_iast C 16 (9 * g + v) (by decide) (show 9 * g + v < 18 by omega) (fun _ _ => rfl) a (show a < 9 by omega) rfl dX3_gatherKeysOf_85 ?_
        refine g_I (I1 := sK I 16 (up2 H (9 * g + v) a (nI (s (a - 1))))) (by rw [sK_self, sK_sK]) ?_
        refine g_iinc (lv' := [(8, .int (nI (a - 1))), (0, .ref (Z.2.2.1 10 0)), (1, .ref (Z.2.2.1 2 g)), (2, .int (nI v)), (3, .int (nI (9 * g))), (4, .ref (Z.2.2.1 16 (9 * g + v))), (5, .int (nI m)), (6, .int (nI w)), (7, .int (nI (pr L g v w * 18 + c (9 * g + w))))]) C ((nI (a - 1))) dX3_gatherKeysOf_86 rfl (dec1 (by omega)) rfl rfl ?_
        refine g_goto (tgt := 57) C dX3_gatherKeysOf_89 rfl ?_
        refine g_lv [1, 2, 3, 4, 5, 6, 7, 8, 0] rfl ?_
        refine ih (a - 1) _ (by omega) (by omega) (fun r0 hr0 => by rw [up2_row hr0]; exact hH1 r0 hr0) (fun j hj => by rw [up2_ne (by omega)]; exact hH2 j (by omega)) (fun j hj hj2 => ?_) (fun j hj hj2 => ?_)
        · by_cases e : j = a - 1
          · subst e; rw [show a - 1 + 1 = a by omega, up2_self]
          · rw [up2_ne (by omega)]; exact hH3 j (by omega) hj2
        · by_cases e : j = a - 1
          · subst e; exact c71
          · exact h5 j (by omega) hj2

set_option maxRecDepth 100000 in
set_option maxHeartbeats 4000000 in
theorem l_X3_gatherKeysOf_16 {X : Pk} {Z : Zk} {I : SI} {J : SJ} (hA : AJ Z.2.2.1) (C : Cx X cX3_gatherKeysOf 9 RX3 Z 1 40) (hr : (xE X).sig.returnType = none) {n : Nat} {T : Nat → Nat → Nat} {L : Nat → Nat → Nat → Nat} (hv : CV I n T L) {c : Nat → Nat} (hc : ∀ s, thr n s → I 11 0 s = nI (c s) ∧ c s < 18) {g v : Nat} (hg : g < 2) (hvn : v < n) : ∀ k w m s (H : Nat → Nat → Int32), n - w < k → w ≤ n → (∀ r, r ≠ (9 * g + v) → H r = I 16 r) → bS 0 v (fun w => pr L g v w * 18 + c (9 * g + w)) 400 w m s → (∀ j, j < m → H (9 * g + v) j = nI (s j)) → G X 9 Z (QG X Z (fun v' I' J' => ∃ (H : Nat → Nat → Int32) (s : Nat → Nat), v' = none ∧ I' = sK I 16 H ∧ J' = J ∧ (∀ r, r ≠ (9 * g + v) → H r = I 16 r) ∧ bS 0 v (fun w => pr L g v w * 18 + c (9 * g + w)) 400 n (n - 1) s ∧ ∀ j, j < n - 1 → H (9 * g + v) j = nI (s j))) (sK I 16 H) J 16 [(0, .ref (Z.2.2.1 10 0)), (1, .ref (Z.2.2.1 2 g)), (2, .int (nI v)), (3, .int (nI (9 * g))), (4, .ref (Z.2.2.1 16 (9 * g + v))), (5, .int (nI m)), (6, .int (nI w))] [] := by
  obtain ⟨⟨hn1, hn9⟩, -⟩ := id hv
  have hcs : ct (sel 0 v) n + (0 + 1) = n := sel_ct (f := fun _ => 0) (fun i hi => absurd hi (by omega)) (fun i j hi => absurd hi (by omega)) (fun a => ⟨fun q => absurd q (by rw [Nat.zero_testBit]; decide), fun ⟨j, hj, _⟩ => absurd hj (by omega)⟩) hvn (Nat.zero_testBit v)
  intro k
  induction k with
  | zero => intro w m s H h; exact absurd h (by omega)
  | succ k ih =>
    intro w m s H hk hwn hH1 hS hH2
    have hv2 := (hv.of (I' := sK I 16 H) (sK_ne (by decide)) (sK_ne (by decide)) (sK_ne (by decide)))
    have hmm := ct_mono (sel 0 v) hwn
    rw [← hS.1] at hmm
    refine g_ild C dX3_gatherKeysOf_16 rfl ?_
    refine g_aldn C dX3_gatherKeysOf_18 rfl ?_
    refine g_get C 2 g (by decide) (show g < 2 by omega) u1 rfl 0 rfl fX3_29 rfl rfl dX3_gatherKeysOf_19 ?_
    refine g_top (y := (nI n)) (hv2.sz hg) ?_
    refine n_icmp_ge (tgt := 108) C dX3_gatherKeysOf_22 rfl (by omega) (by omega) (fun c22 => ?_) (fun c22 => ?_)
    · exact g_return C hr dX3_gatherKeysOf_108 ⟨H, s, rfl, rfl, rfl, hH1, (show m = n - 1 by have := hS.1; rw [show w = n by omega] at this; omega) ▸ (show w = n by omega) ▸ hS, fun j hj => hH2 j (by have := hS.1; rw [show w = n by omega] at this; omega)⟩
    · refine g_ild C dX3_gatherKeysOf_25 rfl ?_
      refine g_ildn C dX3_gatherKeysOf_27 rfl ?_
      refine n_icmp_eq (tgt := 102) C dX3_gatherKeysOf_28 rfl (by omega) (by omega) (fun c28 => ?_) (fun c28 => ?_)
      · refine g_iinc (lv' := [(6, .int (nI (w + 1))), (0, .ref (Z.2.2.1 10 0)), (1, .ref (Z.2.2.1 2 g)), (2, .int (nI v)), (3, .int (nI (9 * g))), (4, .ref (Z.2.2.1 16 (9 * g + v))), (5, .int (nI m))]) C ((nI (w + 1))) dX3_gatherKeysOf_102 rfl (inc1 _) rfl rfl ?_
        refine g_goto (tgt := 16) C dX3_gatherKeysOf_105 rfl ?_
        refine g_lv [1, 2, 3, 4, 5, 6, 0] rfl ?_
        exact ih (w + 1) m s H (by omega) (by omega) hH1 (hS.no (sel_v c28)) hH2
      · have hsl : sel 0 v w = true := sel_t c28 (Nat.zero_testBit w)
        have hm1 := ct_mono (sel 0 v) (show w + 1 ≤ n by omega)
        rw [ct_t hsl, ← hS.1] at hm1
        have htw : thr n (9 * g + w) := ⟨by omega, by omega⟩
        have hcw := (hc _ htw).2
        have hp16 := pr16 (hv.s4 hg) hvn (show w < n by omega)
        refine g_aldn C dX3_gatherKeysOf_31 rfl ?_
        refine g_ildn C dX3_gatherKeysOf_32 rfl ?_
        refine g_ild C dX3_gatherKeysOf_33 rfl ?_
        refine g_callV (As := [.int (nI v), .int (nI w)]) (st := []) C (c_X1_pair hA hv2 hg hvn (show w < n by omega)) wX1_pair iX1_pair sX1_pair mX3_71 2 g (by decide) (show g < 2 by omega) rfl rfl rfl rfl rfl rfl rfl rfl dX3_gatherKeysOf_35 ?_
        rintro v9 I9 J9 ⟨h91, h92, h93⟩
        rw [h91, h92, h93]
        clear h91 h92 h93 v9 I9 J9
        show G X _ Z _ (sK I 16 H) J 38 [(0, .ref (Z.2.2.1 10 0)), (1, .ref (Z.2.2.1 2 g)), (2, .int (nI v)), (3, .int (nI (9 * g))), (4, .ref (Z.2.2.1 16 (9 * g + v))), (5, .int (nI m)), (6, .int (nI w))] [.int (nI (pr L g v w))]
        refine g_bipush C ((nI 18)) dX3_gatherKeysOf_38 (by decide) ?_
        refine g_imul (v := (nI ((pr L g v w) * 18))) C dX3_gatherKeysOf_40 (pk_mul _ _) ?_
        refine g_aldn C dX3_gatherKeysOf_41 rfl ?_
        refine g_get C 10 0 (by decide) (by decide) u3 rfl 1 rfl fX3_11 rfl rfl dX3_gatherKeysOf_42 ?_
        refine g_ildn C dX3_gatherKeysOf_45 rfl ?_
        refine g_ild C dX3_gatherKeysOf_46 rfl ?_
        refine g_iadd (v := (nI (9 * g + w))) C dX3_gatherKeysOf_48 (nI_add _ _) ?_
        refine g_iald C 11 0 (by decide) (by decide) (fun _ _ => rfl) (9 * g + w) (show 9 * g + w < 18 by omega) rfl dX3_gatherKeysOf_49 (v := (nI (c (9 * g + w)))) (by rw [sK_ne (by decide)]; exact (hc _ htw).1) ?_
        refine g_iadd (v := (nI ((pr L g v w) * 18 + (c (9 * g + w))))) C dX3_gatherKeysOf_50 (nI_add _ _) ?_
        refine g_ist (lv' := [(7, .int (nI ((pr L g v w) * 18 + (c (9 * g + w))))), (0, .ref (Z.2.2.1 10 0)), (1, .ref (Z.2.2.1 2 g)), (2, .int (nI v)), (3, .int (nI (9 * g))), (4, .ref (Z.2.2.1 16 (9 * g + v))), (5, .int (nI m)), (6, .int (nI w))]) C dX3_gatherKeysOf_51 rfl rfl ?_
        refine g_ild C dX3_gatherKeysOf_53 rfl ?_
        refine g_ist (lv' := [(8, .int (nI m)), (7, .int (nI ((pr L g v w) * 18 + (c (9 * g + w))))), (0, .ref (Z.2.2.1 10 0)), (1, .ref (Z.2.2.1 2 g)), (2, .int (nI v)), (3, .int (nI (9 * g))), (4, .ref (Z.2.2.1 16 (9 * g + v))), (5, .int (nI m)), (6, .int (nI w))]) C dX3_gatherKeysOf_55 rfl rfl ?_
        refine g_lv (lv1 := [(0, .ref (Z.2.2.1 10 0)), (1, .ref (Z.2.2.1 2 g)), (2, .int (nI v)), (3, .int (nI (9 * g))), (4, .ref (Z.2.2.1 16 (9 * g + v))), (5, .int (nI m)), (6, .int (nI w)), (7, .int (nI (pr L g v w * 18 + c (9 * g + w)))), (8, .int (nI m))]) [2, 3, 4, 5, 6, 7, 8, 1, 0] rfl ?_
        refine l_X3_gatherKeysOf_57 (L := L) (c := c) (s := s) C hn9 hg hvn (by omega) (fun j hj => hS.2.2.1 j hj) (by omega) ?_ (m + 1) m H (by omega) (by omega) hH1 hH2 (fun j h1 h2 => absurd h1 (by omega)) (fun j h1 h2 => absurd h1 (by omega))
        clear hH1 hH2 hv2 H
        intro a H ham hH1 hH2 hH3 h5 h6
        refine g_ald C dX3_gatherKeysOf_92 rfl ?_
        refine g_ild C dX3_gatherKeysOf_94 rfl ?_
        refine g_ild C dX3_gatherKeysOf_96 rfl ?_
        refine g_iast C 16 (9 * g + v) (by decide) (show 9 * g + v < 18 by omega) (fun _ _ => rfl) a (show a < 9 by omega) rfl dX3_gatherKeysOf_98 ?_
        refine g_I (I1 := sK I 16 (up2 H (9 * g + v) a (nI (pr L g v w * 18 + c (9 * g + w))))) (by rw [sK_self, sK_sK]) ?_
        refine g_iinc (lv' := [(5, .int (nI (m + 1))), (0, .ref (Z.2.2.1 10 0)), (1, .ref (Z.2.2.1 2 g)), (2, .int (nI v)), (3, .int (nI (9 * g))), (4, .ref (Z.2.2.1 16 (9 * g + v))), (6, .int (nI w)), (7, .int (nI (pr L g v w * 18 + c (9 * g + w)))), (8, .int (nI a))]) C ((nI (m + 1))) dX3_gatherKeysOf_99 rfl (inc1 _) rfl rfl ?_
        refine g_iinc (lv' := [(6, .int (nI (w + 1))), (5, .int (nI (m + 1))), (0, .ref (Z.2.2.1 10 0)), (1, .ref (Z.2.2.1 2 g)), (2, .int (nI v)), (3, .int (nI (9 * g))), (4, .ref (Z.2.2.1 16 (9 * g + v))), (7, .int (nI (pr L g v w * 18 + c (9 * g + w)))), (8, .int (nI a))]) C ((nI (w + 1))) dX3_gatherKeysOf_102 rfl (inc1 _) rfl rfl ?_
        refine g_goto (tgt := 16) C dX3_gatherKeysOf_105 rfl ?_
        refine g_lv [2, 3, 4, 5, 6, 1, 0] rfl ?_
        refine ih (w + 1) (m + 1) (ins s a (pr L g v w * 18 + c (9 * g + w))) _ (by omega) (by omega) (fun r0 hr0 => by rw [up2_row hr0]; exact hH1 r0 hr0) (hS.put (y := (fun w => pr L g v w * 18 + c (9 * g + w))) hsl (by show pr L g v w * 18 + c (9 * g + w) < 400; omega) ham h6 h5) (fun j hj => ?_)
        rcases Nat.lt_trichotomy j a with e | e | e
        · rw [ins_lt e, up2_ne (by omega)]; exact hH2 j e
        · subst e; rw [ins_at, up2_self]
        · obtain ⟨i, rfl⟩ : ∃ i, j = i + 1 := ⟨j - 1, by omega⟩
          rw [ins_gt (by omega), up2_ne (by omega)]; exact hH3 i (by omega) (by omega)

set_option maxRecDepth 100000 in
set_option maxHeartbeats 4000000 in
/-- gatherKeysOf -/
theorem c_X3_gatherKeysOf {l : Launch} {Y : Yk} (hA : AJ Y.2.2) {I : SI} {J : SJ} {n : Nat} {T : Nat → Nat → Nat} {L : Nat → Nat → Nat → Nat} (hv : CV I n T L) {c : Nat → Nat} (hc : ∀ s, thr n s → I 11 0 s = nI (c s) ∧ c s < 18) {g v : Nat} (hg : g < 2) (hvn : v < n)  : MX l Y yX3_gatherKeysOf cX3_gatherKeysOf 9 (none) 1 40 [.ref (Y.2.2 10 0), .ref (Y.2.2 2 g), .int (nI v), .int (nI (9 * g))] I J (fun v' I' J' => ∃ (H : Nat → Nat → Int32) (s : Nat → Nat), v' = none ∧ I' = sK I 16 H ∧ J' = J ∧ (∀ r, r ≠ (9 * g + v) → H r = I 16 r) ∧ bS 0 v (fun w => pr L g v w * 18 + c (9 * g + w)) 400 n (n - 1) s ∧ ∀ j, j < n - 1 → H (9 * g + v) j = nI (s j)) := by
  refine MX.of hA (by decide) (own := RX3) rfl rfl rfl ?_
  intro X Z hl hY1 hY2 hY3 C hr
  obtain ⟨D0, ca0, ad0⟩ := Y
  dsimp only at hA hY1 hY2 hY3
  subst hY1; subst hY2; subst hY3; subst hl
  show G X 9 Z (QG X Z _) I J 0 [(0, .ref (Z.2.2.1 10 0)), (1, .ref (Z.2.2.1 2 g)), (2, .int (nI v)), (3, .int (nI (9 * g)))] []
  obtain ⟨⟨hn1, hn9⟩, -⟩ := id hv
  refine g_aldn C dX3_gatherKeysOf_0 rfl ?_
  refine g_get C 10 0 (by decide) (by decide) u3 rfl 5 rfl fX3_26 rfl rfl dX3_gatherKeysOf_1 ?_
  refine g_ildn C dX3_gatherKeysOf_4 rfl ?_
  refine g_ildn C dX3_gatherKeysOf_5 rfl ?_
  refine g_iadd (v := (nI (9 * g + v))) C dX3_gatherKeysOf_6 (nI_add _ _) ?_
  refine g_aald C 15 0 3 (by decide) (by decide) (fun _ _ => rfl) rfl rfl (9 * g + v) (show 9 * g + v < 18 by omega) rfl dX3_gatherKeysOf_7 ?_
  refine g_ast (lv' := [(4, .ref (Z.2.2.1 16 (9 * g + v))), (0, .ref (Z.2.2.1 10 0)), (1, .ref (Z.2.2.1 2 g)), (2, .int (nI v)), (3, .int (nI (9 * g)))]) C dX3_gatherKeysOf_8 rfl rfl ?_
  refine g_iconst C ((nI 0)) dX3_gatherKeysOf_10 (by decide) ?_
  refine g_ist (lv' := [(5, .int (nI 0)), (4, .ref (Z.2.2.1 16 (9 * g + v))), (0, .ref (Z.2.2.1 10 0)), (1, .ref (Z.2.2.1 2 g)), (2, .int (nI v)), (3, .int (nI (9 * g)))]) C dX3_gatherKeysOf_11 rfl rfl ?_
  refine g_iconst C ((nI 0)) dX3_gatherKeysOf_13 (by decide) ?_
  refine g_ist (lv' := [(6, .int (nI 0)), (5, .int (nI 0)), (4, .ref (Z.2.2.1 16 (9 * g + v))), (0, .ref (Z.2.2.1 10 0)), (1, .ref (Z.2.2.1 2 g)), (2, .int (nI v)), (3, .int (nI (9 * g)))]) C dX3_gatherKeysOf_14 rfl rfl ?_
  refine g_lv (lv1 := [(0, .ref (Z.2.2.1 10 0)), (1, .ref (Z.2.2.1 2 g)), (2, .int (nI v)), (3, .int (nI (9 * g))), (4, .ref (Z.2.2.1 16 (9 * g + v))), (5, .int (nI 0)), (6, .int (nI 0))]) [3, 4, 5, 6, 2, 1, 0] rfl ?_
  refine g_I (I1 := sK I 16 (I 16)) (sK_id _ _).symm ?_
  exact l_X3_gatherKeysOf_16 hA C hr hv hc hg hvn (n + 1) 0 0 (fun _ => 0) (I 16) (by omega) (by omega) (fun _ _ => rfl) ⟨rfl, fun i hi => absurd hi (by omega), fun j hj => absurd hj (by omega), fun q => rfl⟩ (fun j hj => absurd hj (by omega))

set_option maxRecDepth 100000 in
set_option maxHeartbeats 4000000 in
theorem l_X3_gatherKeys_2 {X : Pk} {Z : Zk} {I : SI} {J : SJ} (hA : AJ Z.2.2.1) (C : Cx X cX3_gatherKeys 4 RX3 Z 2 80) (hr : (xE X).sig.returnType = none) {n : Nat} {T : Nat → Nat → Nat} {L : Nat → Nat → Nat → Nat} (hv : CV I n T L) {c : Nat → Nat} (hc : ∀ s, thr n s → I 11 0 s = nI (c s) ∧ c s < 18) : ∀ k v (H : Nat → Nat → Int32) (ky : Nat → Nat → Nat), n - v < k → v ≤ n → (∀ sp, thr n sp → sp % 9 < v → gK n L c ky sp ∧ ∀ j, j < n - 1 → H sp j = nI (ky sp j)) → G X 4 Z (QG X Z (fun v' I' J' => ∃ (H : Nat → Nat → Int32) (ky : Nat → Nat → Nat), v' = none ∧ I' = sK I 16 H ∧ J' = J ∧ ∀ sp, thr n sp → gK n L c ky sp ∧ ∀ j, j < n - 1 → H sp j = nI (ky sp j))) (sK I 16 H) J 2 [(0, .ref (Z.2.2.1 10 0)), (1, .ref (Z.2.2.1 1 0)), (2, .int (nI n)), (3, .int (nI v))] [] := by
  obtain ⟨⟨hn1, hn9⟩, -⟩ := id hv
  intro k
  induction k with
  | zero => intro v H ky h; exact absurd h (by omega)
  | succ k ih =>
    intro v H ky hk hvn hH
    refine g_ildn C dX3_gatherKeys_2 rfl ?_
    refine g_ildn C dX3_gatherKeys_3 rfl ?_
    refine n_icmp_ge (tgt := 32) C dX3_gatherKeys_4 rfl (by omega) (by omega) (fun c4 => ?_) (fun c4 => ?_)
    · exact g_return C hr dX3_gatherKeys_32 ⟨H, ky, rfl, rfl, rfl, fun sp hsp => hH sp hsp (by have := hsp.2; omega)⟩
    · refine g_aldn C dX3_gatherKeys_7 rfl ?_
      refine g_aldn C dX3_gatherKeys_8 rfl ?_
      refine g_iconst C ((nI 0)) dX3_gatherKeys_9 (by decide) ?_
      refine g_aald C 1 0 2 (by decide) (by decide) (fun _ _ => rfl) rfl rfl 0 (show 0 < 2 by omega) rfl dX3_gatherKeys_10 ?_
      refine g_ildn C dX3_gatherKeys_11 rfl ?_
      refine g_iconst C ((nI 0)) dX3_gatherKeys_12 (by decide) ?_
      refine g_top (y := nI (9 * 0)) rfl ?_
      refine g_callV (As := [.ref (Z.2.2.1 2 0), .int (nI v), .int (nI (9 * 0))]) (st := []) C (c_X3_gatherKeysOf hA (hv.of (I' := sK I 16 H) (sK_ne (by decide)) (sK_ne (by decide)) (sK_ne (by decide))) (c := c) (fun u hu => by rw [sK_ne (by decide)]; exact hc u hu) (g := 0) (by decide) (show v < n by omega)) wX3_gatherKeysOf iX3_gatherKeysOf sX3_gatherKeysOf mX3_67 10 0 (by decide) (by decide) rfl rfl rfl rfl rfl rfl rfl rfl dX3_gatherKeys_13 ?_
      rintro v9 I9 J9 ⟨H2, s2, h91, h92, h93, p2, q2, r2⟩
      rw [h91, h92, h93, sK_sK]
      rw [sK_self] at p2
      clear h91 h92 h93 v9 I9 J9
      show G X _ Z _ (sK I 16 H2) J 16 [(0, .ref (Z.2.2.1 10 0)), (1, .ref (Z.2.2.1 1 0)), (2, .int (nI n)), (3, .int (nI v))] []
      refine g_aldn C dX3_gatherKeys_16 rfl ?_
      refine g_aldn C dX3_gatherKeys_17 rfl ?_
      refine g_iconst C ((nI 1)) dX3_gatherKeys_18 (by decide) ?_
      refine g_aald C 1 0 2 (by decide) (by decide) (fun _ _ => rfl) rfl rfl 1 (show 1 < 2 by omega) rfl dX3_gatherKeys_19 ?_
      refine g_ildn C dX3_gatherKeys_20 rfl ?_
      refine g_bipush C ((nI 9)) dX3_gatherKeys_21 (by decide) ?_
      refine g_top (y := nI (9 * 1)) rfl ?_
      refine g_callV (As := [.ref (Z.2.2.1 2 1), .int (nI v), .int (nI (9 * 1))]) (st := []) C (c_X3_gatherKeysOf hA (hv.of (I' := sK I 16 H2) (sK_ne (by decide)) (sK_ne (by decide)) (sK_ne (by decide))) (c := c) (fun u hu => by rw [sK_ne (by decide)]; exact hc u hu) (g := 1) (by decide) (show v < n by omega)) wX3_gatherKeysOf iX3_gatherKeysOf sX3_gatherKeysOf mX3_67 10 0 (by decide) (by decide) rfl rfl rfl rfl rfl rfl rfl rfl dX3_gatherKeys_23 ?_
      rintro v9 I9 J9 ⟨H3, s3, h91, h92, h93, p3, q3, r3⟩
      rw [h91, h92, h93, sK_sK]
      rw [sK_self] at p3
      clear h91 h92 h93 v9 I9 J9
      show G X _ Z _ (sK I 16 H3) J 26 [(0, .ref (Z.2.2.1 10 0)), (1, .ref (Z.2.2.1 1 0)), (2, .int (nI n)), (3, .int (nI v))] []
      refine g_iinc (lv' := [(3, .int (nI (v + 1))), (0, .ref (Z.2.2.1 10 0)), (1, .ref (Z.2.2.1 1 0)), (2, .int (nI n))]) C ((nI (v + 1))) dX3_gatherKeys_26 rfl (inc1 _) rfl rfl ?_
      refine g_goto (tgt := 2) C dX3_gatherKeys_29 rfl ?_
      refine g_lv [1, 2, 3, 0] rfl ?_
      refine ih (v + 1) H3 (va_up (va_up ky v s2) (9 + v) s3) (by omega) (by omega) (fun sp hsp hlt => ?_)
      by_cases e3 : sp = 9 + v
      · subst e3
        rw [va_up_self]
        refine ⟨?_, fun j hj => by have := r3 j hj; rw [show 9 * 1 + v = 9 + v by omega] at this; exact this⟩
        unfold gK ky1
        rw [va_up_self, show (9 + v) % 9 = v by omega, show (9 + v) / 9 = 1 by omega]
        exact q3
      · rw [va_up_ne _ _ e3, p3 sp (by omega)]
        by_cases e2 : sp = v
        · subst e2
          rw [va_up_self]
          refine ⟨?_, fun j hj => by have := r2 j hj; rw [show 9 * 0 + sp = sp by omega] at this; exact this⟩
          unfold gK ky1
          rw [va_up_ne _ _ e3, va_up_self, show sp % 9 = sp by omega, show sp / 9 = 0 by omega]
          exact q2
        · rw [va_up_ne _ _ e2, p2 sp (by omega)]
          obtain ⟨a1, a2⟩ := hH sp hsp (by have := hsp.1; omega)
          refine ⟨?_, a2⟩
          unfold gK at a1 ⊢
          rw [va_up_ne _ _ e3, va_up_ne _ _ e2]
          exact a1

set_option maxRecDepth 100000 in
set_option maxHeartbeats 4000000 in
/-- gatherKeys -/
theorem c_X3_gatherKeys {l : Launch} {Y : Yk} (hA : AJ Y.2.2) {I : SI} {J : SJ} {n : Nat} {T : Nat → Nat → Nat} {L : Nat → Nat → Nat → Nat} (hv : CV I n T L) {c : Nat → Nat} (hc : ∀ s, thr n s → I 11 0 s = nI (c s) ∧ c s < 18)  : MX l Y yX3_gatherKeys cX3_gatherKeys 4 (none) 2 80 [.ref (Y.2.2 10 0), .ref (Y.2.2 1 0), .int (nI n)] I J (fun v' I' J' => ∃ (H : Nat → Nat → Int32) (ky : Nat → Nat → Nat), v' = none ∧ I' = sK I 16 H ∧ J' = J ∧ ∀ sp, thr n sp → gK n L c ky sp ∧ ∀ j, j < n - 1 → H sp j = nI (ky sp j)) := by
  refine MX.of hA (by decide) (own := RX3) rfl rfl rfl ?_
  intro X Z hl hY1 hY2 hY3 C hr
  obtain ⟨D0, ca0, ad0⟩ := Y
  dsimp only at hA hY1 hY2 hY3
  subst hY1; subst hY2; subst hY3; subst hl
  show G X 4 Z (QG X Z _) I J 0 [(0, .ref (Z.2.2.1 10 0)), (1, .ref (Z.2.2.1 1 0)), (2, .int (nI n))] []
  refine g_iconst C ((nI 0)) dX3_gatherKeys_0 (by decide) ?_
  refine g_istn (lv' := [(3, .int (nI 0)), (0, .ref (Z.2.2.1 10 0)), (1, .ref (Z.2.2.1 1 0)), (2, .int (nI n))]) C dX3_gatherKeys_1 rfl rfl ?_
  refine g_lv [1, 2, 3, 0] rfl ?_
  refine g_I (I1 := sK I 16 (I 16)) (sK_id _ _).symm ?_
  exact l_X3_gatherKeys_2 hA C hr hv hc (n + 1) 0 (I 16) (fun _ _ => 0) (by omega) (by omega) (fun sp _ h => absurd h (by omega))

/-- a round's or the start's end: number, colours, the spots in some order; the keys stay -/
def ptPost (n : Nat) (c : Nat → Nat) (m : Nat) (I : SI) (J : SJ) : Option Value → SI → SJ → Prop := fun v' I' J' =>
  ∃ (A B E F H : Nat → Nat → Int32) (s : Nat → Nat), v' = none ∧ I' = CP I A B E F H ∧ J' = J ∧ A 0 0 = nI m ∧ (∀ y, thr n y → B 0 y = nI (c y)) ∧ (∀ j, j < 2 * n → F 0 j = nI (s j) ∧ thr n (s j)) ∧ ∀ y, thr n y → ∃ j, j < 2 * n ∧ s j = y
theorem tlt_iff {T : Nat → Nat → Nat} {a b : Nat} : lx (0 + 1) (Qs (fun s => T (s / 9) (s % 9)) (fun _ _ => 0) a) (Qs (fun s => T (s / 9) (s % 9)) (fun _ _ => 0) b) ↔ tlt T a b :=
  ⟨fun ⟨i, hi, _, h⟩ => by have e : i = 0 := by omega
                           subst e; exact h, fun h => Qs_c h⟩
set_option maxRecDepth 100000 in
set_option maxHeartbeats 4000000 in
theorem l_X3_paintTints_2 {X : Pk} {Z : Zk} {I : SI} {J : SJ} (hA : AJ Z.2.2.1) (C : Cx X cX3_paintTints 4 RX3 Z 3 120) (hr : (xE X).sig.returnType = none) {n : Nat} {T : Nat → Nat → Nat} {L : Nat → Nat → Nat → Nat} (hv : CV I n T L) : ∀ k v (B F : Nat → Nat → Int32), n - v < k → v ≤ n → (∀ u, thr n u → u % 9 < v → B 0 u = nI (T (u / 9) (u % 9))) → (∀ j, j < v → F 0 j = nI j) → (∀ j, j < v → F 0 (n + j) = nI (9 + j)) → G X 4 Z (QG X Z (ptPost n (cs n T L 0) (ms n T L 0) I J)) (CP I (I 10) B (I 12) F (I 16)) J 2 [(0, .ref (Z.2.2.1 10 0)), (1, .ref (Z.2.2.1 1 0)), (2, .int (nI n)), (3, .int (nI v))] [] := by
  obtain ⟨⟨hn1, hn9⟩, -⟩ := id hv
  intro k
  induction k with
  | zero => intro v B F h; exact absurd h (by omega)
  | succ k ih =>
    intro v B F hk hvn hB hF1 hF2
    refine g_ildn C dX3_paintTints_2 rfl ?_
    refine g_ildn C dX3_paintTints_3 rfl ?_
    refine n_icmp_ge (tgt := 63) C dX3_paintTints_4 rfl (by omega) (by omega) (fun c4 => ?_) (fun c4 => ?_)
    · refine g_aldn C dX3_paintTints_63 rfl ?_
      refine g_iconst C ((nI 2)) dX3_paintTints_64 (by decide) ?_
      refine g_ildn C dX3_paintTints_65 rfl ?_
      refine g_imul (v := (nI (2 * n))) C dX3_paintTints_66 (pk_mul _ _) ?_
      refine g_iconst C ((nI 0)) dX3_paintTints_67 (by decide) ?_
      have hso : ∀ j, j < 2 * n → CP I (I 10) B (I 12) F (I 16) 13 0 j = nI ((fun j => if j < n then j else 9 + (j - n)) j) ∧ thr n ((fun j => if j < n then j else 9 + (j - n)) j) := fun j hj => by
        rw [cp_13]
        show F 0 j = nI (if j < n then j else 9 + (j - n)) ∧ thr n (if j < n then j else 9 + (j - n))
        by_cases q : j < n
        · rw [if_pos q]; exact ⟨hF1 j (by omega), by omega, by omega⟩
        · rw [if_neg q]; refine ⟨?_, by omega, by omega⟩; have := hF2 (j - n) (by omega); rw [show n + (j - n) = j by omega] at this; exact this
      have hsu : ∀ y, thr n y → ∃ j, j < 2 * n ∧ (fun j => if j < n then j else 9 + (j - n)) j = y := fun y hy => by
        obtain ⟨y1, y2⟩ := hy
        by_cases q : y < 9
        · exact ⟨y, by omega, by show (if y < n then y else 9 + (y - n)) = y; rw [if_pos (by omega)]⟩
        · exact ⟨n + (y - 9), by omega, by show (if n + (y - 9) < n then n + (y - 9) else 9 + (n + (y - 9) - n)) = y; rw [if_neg (by omega)]; omega⟩
      refine g_callV (As := [.int (nI (2 * n)), .int (nI 0)]) (st := []) C (c_X3_renumber hA (n := n) (kc := 0) hn9 (by decide) (c := fun s => T (s / 9) (s % 9)) (Kf := fun _ _ => 0) (fun u hu => ⟨by rw [cp_11]; exact hB u hu (by have := hu.2; omega), by have := hv.t4 (show u / 9 < 2 by have := hu.1; omega) hu.2; show T (u / 9) (u % 9) < 18; omega⟩) (fun _ _ k hk => absurd hk (by omega)) (m := 2 * n) (by omega) (by omega) hso hsu) wX3_renumber iX3_renumber sX3_renumber mX3_45 10 0 (by decide) (by decide) rfl rfl rfl rfl rfl rfl rfl rfl dX3_paintTints_68 ?_
      rintro v9 I9 J9 ⟨B3, E3, F3, s3, h91, h92, h93, k1, k2, k3⟩
      rw [h91]
      show G X _ Z _ I9 J9 71 [(0, .ref (Z.2.2.1 10 0)), (1, .ref (Z.2.2.1 1 0)), (2, .int (nI n)), (3, .int (nI v))] []
      exact g_return C hr dX3_paintTints_71 (by rw [h92, h93, cp_cp]; exact ⟨_, _, _, _, _, s3, rfl, rfl, rfl, (by rw [up2_self]; exact congrArg nI (CN_congr (fun a b _ _ => tlt_iff))), fun y hy => (k1 y hy).trans (congrArg nI (RK_congr (fun a b _ _ => tlt_iff) hy)), k2, k3⟩)
    · refine g_aldn C dX3_paintTints_7 rfl ?_
      refine g_get C 10 0 (by decide) (by decide) u3 rfl 1 rfl fX3_11 rfl rfl dX3_paintTints_8 ?_
      refine g_ildn C dX3_paintTints_11 rfl ?_
      refine g_aldn C dX3_paintTints_12 rfl ?_
      refine g_iconst C ((nI 0)) dX3_paintTints_13 (by decide) ?_
      refine g_aald C 1 0 2 (by decide) (by decide) (fun _ _ => rfl) rfl rfl 0 (show 0 < 2 by omega) rfl dX3_paintTints_14 ?_
      refine g_get C 2 0 (by decide) (by decide) u1 rfl 1 rfl fX3_64 rfl rfl dX3_paintTints_15 ?_
      refine g_ildn C dX3_paintTints_18 rfl ?_
      refine g_iald C 3 0 (by decide) (by decide) (fun _ _ => rfl) v (show v < 9 by omega) rfl dX3_paintTints_19 (v := (nI (T 0 v))) ((congrFun (congrFun (cp_o (by decide)) 0) v).trans (hv.t (by decide) (by omega))) ?_
      refine g_iast C 11 0 (by decide) (by decide) (fun _ _ => rfl) v (show v < 18 by omega) rfl dX3_paintTints_20 ?_
      refine g_I (I1 := CP I (I 10) (up2 B 0 v ((nI (T 0 v)))) (I 12) F (I 16)) (by rw [cp_11, cp11]) ?_
      refine g_aldn C dX3_paintTints_21 rfl ?_
      refine g_get C 10 0 (by decide) (by decide) u3 rfl 1 rfl fX3_11 rfl rfl dX3_paintTints_22 ?_
      refine g_bipush C ((nI 9)) dX3_paintTints_25 (by decide) ?_
      refine g_ildn C dX3_paintTints_27 rfl ?_
      refine g_iadd (v := (nI (9 + v))) C dX3_paintTints_28 (nI_add _ _) ?_
      refine g_aldn C dX3_paintTints_29 rfl ?_
      refine g_iconst C ((nI 1)) dX3_paintTints_30 (by decide) ?_
      refine g_aald C 1 0 2 (by decide) (by decide) (fun _ _ => rfl) rfl rfl 1 (show 1 < 2 by omega) rfl dX3_paintTints_31 ?_
      refine g_get C 2 1 (by decide) (by decide) u1 rfl 1 rfl fX3_64 rfl rfl dX3_paintTints_32 ?_
      refine g_ildn C dX3_paintTints_35 rfl ?_
      refine g_iald C 3 1 (by decide) (by decide) (fun _ _ => rfl) v (show v < 9 by omega) rfl dX3_paintTints_36 (v := (nI (T 1 v))) ((congrFun (congrFun (cp_o (by decide)) 1) v).trans (hv.t (by decide) (by omega))) ?_
      refine g_iast C 11 0 (by decide) (by decide) (fun _ _ => rfl) (9 + v) (show 9 + v < 18 by omega) rfl dX3_paintTints_37 ?_
      refine g_I (I1 := CP I (I 10) (up2 (up2 B 0 v ((nI (T 0 v)))) 0 (9 + v) ((nI (T 1 v)))) (I 12) F (I 16)) (by rw [cp_11, cp11]) ?_
      refine g_aldn C dX3_paintTints_38 rfl ?_
      refine g_get C 10 0 (by decide) (by decide) u3 rfl 3 rfl fX3_18 rfl rfl dX3_paintTints_39 ?_
      refine g_ildn C dX3_paintTints_42 rfl ?_
      refine g_ildn C dX3_paintTints_43 rfl ?_
      refine g_iast C 13 0 (by decide) (by decide) (fun _ _ => rfl) v (show v < 18 by omega) rfl dX3_paintTints_44 ?_
      refine g_I (I1 := CP I (I 10) (up2 (up2 B 0 v ((nI (T 0 v)))) 0 (9 + v) ((nI (T 1 v)))) (I 12) (up2 F 0 v ((nI v))) (I 16)) (by rw [cp_13, cp13]) ?_
      refine g_aldn C dX3_paintTints_45 rfl ?_
      refine g_get C 10 0 (by decide) (by decide) u3 rfl 3 rfl fX3_18 rfl rfl dX3_paintTints_46 ?_
      refine g_ildn C dX3_paintTints_49 rfl ?_
      refine g_ildn C dX3_paintTints_50 rfl ?_
      refine g_iadd (v := (nI (n + v))) C dX3_paintTints_51 (nI_add _ _) ?_
      refine g_bipush C ((nI 9)) dX3_paintTints_52 (by decide) ?_
      refine g_ildn C dX3_paintTints_54 rfl ?_
      refine g_iadd (v := (nI (9 + v))) C dX3_paintTints_55 (nI_add _ _) ?_
      refine g_iast C 13 0 (by decide) (by decide) (fun _ _ => rfl) (n + v) (show n + v < 18 by omega) rfl dX3_paintTints_56 ?_
      refine g_I (I1 := CP I (I 10) (up2 (up2 B 0 v ((nI (T 0 v)))) 0 (9 + v) ((nI (T 1 v)))) (I 12) (up2 (up2 F 0 v ((nI v))) 0 (n + v) ((nI (9 + v)))) (I 16)) (by rw [cp_13, cp13]) ?_
      refine g_iinc (lv' := [(3, .int (nI (v + 1))), (0, .ref (Z.2.2.1 10 0)), (1, .ref (Z.2.2.1 1 0)), (2, .int (nI n))]) C ((nI (v + 1))) dX3_paintTints_57 rfl (inc1 _) rfl rfl ?_
      refine g_goto (tgt := 2) C dX3_paintTints_60 rfl ?_
      refine g_lv [1, 2, 3, 0] rfl ?_
      refine ih (v + 1) _ _ (by omega) (by omega) (fun u hu hlt => ?_) (fun j hj => ?_) (fun j hj => ?_)
      · rw [up2_at, up2_at]
        by_cases q : u = 9 + v
        · rw [if_pos ⟨rfl, q⟩, q, show (9 + v) / 9 = 1 by omega, show (9 + v) % 9 = v by omega]
        · rw [if_neg (fun z => q z.2)]
          by_cases q2 : u = v
          · rw [if_pos ⟨rfl, q2⟩, q2, show v / 9 = 0 by omega, show v % 9 = v by omega]
          · rw [if_neg (fun z => q2 z.2)]; exact hB u hu (by have := hu.1; omega)
      · rw [up2_ne (by omega), up2_at]
        by_cases q : j = v
        · rw [if_pos ⟨rfl, q⟩, q]
        · rw [if_neg (fun z => q z.2)]; exact hF1 j (by omega)
      · rw [up2_at]
        by_cases q : j = v
        · rw [if_pos ⟨rfl, by omega⟩, q]
        · rw [if_neg (fun z => by omega), up2_ne (by omega)]; exact hF2 j (by omega)

set_option maxRecDepth 100000 in
set_option maxHeartbeats 4000000 in
/-- paintTints -/
theorem c_X3_paintTints {l : Launch} {Y : Yk} (hA : AJ Y.2.2) {I : SI} {J : SJ} {n : Nat} {T : Nat → Nat → Nat} {L : Nat → Nat → Nat → Nat} (hv : CV I n T L)  : MX l Y yX3_paintTints cX3_paintTints 4 (none) 3 120 [.ref (Y.2.2 10 0), .ref (Y.2.2 1 0), .int (nI n)] I J (ptPost n (cs n T L 0) (ms n T L 0) I J) := by
  refine MX.of hA (by decide) (own := RX3) rfl rfl rfl ?_
  intro X Z hl hY1 hY2 hY3 C hr
  obtain ⟨D0, ca0, ad0⟩ := Y
  dsimp only at hA hY1 hY2 hY3
  subst hY1; subst hY2; subst hY3; subst hl
  show G X 4 Z (QG X Z _) I J 0 [(0, .ref (Z.2.2.1 10 0)), (1, .ref (Z.2.2.1 1 0)), (2, .int (nI n))] []
  refine g_iconst C ((nI 0)) dX3_paintTints_0 (by decide) ?_
  refine g_istn (lv' := [(3, .int (nI 0)), (0, .ref (Z.2.2.1 10 0)), (1, .ref (Z.2.2.1 1 0)), (2, .int (nI n))]) C dX3_paintTints_1 rfl rfl ?_
  refine g_lv [1, 2, 3, 0] rfl ?_
  refine g_I (I1 := CP I (I 10) (I 11) (I 12) (I 13) (I 16)) (cp_id I).symm ?_
  exact l_X3_paintTints_2 hA C hr hv (n + 1) 0 (I 11) (I 13) (by omega) (by omega) (fun u _ h => absurd h (by omega)) (fun j hj => absurd hj (by omega)) (fun j hj => absurd hj (by omega))

