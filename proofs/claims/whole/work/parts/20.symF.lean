/-! ===== SymmetryFinder: replace, joinOrbits, find ===== -/
set_option maxRecDepth 100000 in
set_option maxHeartbeats 4000000 in
theorem l_X4_replace_3 {X : Pk} {Z : Zk} {fr lo : Nat} {I : SI} {J : SJ} (C : Cx X cX4_replace 5 RX4 Z fr lo) (hr : (xE X).sig.returnType = none) {n : Nat} (hn9 : n ≤ 9) {g : Nat} (hg : g < 2) {o : Nat → Nat} (ho : ∀ i, i < n → I 8 g i = nI (o i) ∧ o i < 9) {M m : Nat} (hM : M < 9) (hm : m < 9)  : ∀ k j B, n - j < k → j ≤ n → (∀ r, r ≠ g → B r = I 8 r) → (∀ i, i < j → B g i = nI (rpl o M m i)) → (∀ i, i < n → j ≤ i → B g i = I 8 g i) → G X 5 Z (QG X Z (fun v' I' J' => ∃ B : Nat → Nat → Int32, v' = none ∧ I' = sK I 8 B ∧ J' = J ∧ (∀ r, r ≠ g → B r = I 8 r) ∧ ∀ i, i < n → B g i = nI (rpl o M m i))) (sK I 8 B) J 3 [(0, .ref (Z.2.2.1 8 g)), (1, .int (nI n)), (2, .int (nI M)), (3, .int (nI m)), (4, .int (nI j))] [] := by
  intro k
  induction k with
  | zero => intro j B h; exact absurd h (by omega)
  | succ k ih =>
    intro j B hk hjn hB1 hB3 hB2
    have hoj : j < n → o j < 9 := fun h => (ho j h).2
    refine g_ild C dX4_replace_3 rfl ?_
    refine g_ildn C dX4_replace_5 rfl ?_
    refine n_icmp_ge (tgt := 28) C dX4_replace_6 rfl (by omega) (by omega) (fun c6 => ?_) (fun c6 => ?_)
    · exact g_return C hr dX4_replace_28 ⟨B, rfl, rfl, rfl, hB1, fun i hi => hB3 i (by omega)⟩
    · refine g_aldn C dX4_replace_9 rfl ?_
      refine g_ild C dX4_replace_10 rfl ?_
      refine g_iald C 8 g (by decide) (show g < 2 by omega) (fun _ _ => rfl) j (show j < 9 by omega) rfl dX4_replace_12 (v := (nI (o j))) ((hB2 j (by omega) (Nat.le_refl j)).trans (ho j (by omega)).1) ?_
      refine g_ildn C dX4_replace_13 rfl ?_
      refine n_icmp_ne (tgt := 22) C dX4_replace_14 rfl (by omega) (by omega) (fun c14 => ?_) (fun c14 => ?_)
      · refine g_iinc (lv' := [(4, .int (nI (j + 1))), (0, .ref (Z.2.2.1 8 g)), (1, .int (nI n)), (2, .int (nI M)), (3, .int (nI m))]) C ((nI (j + 1))) dX4_replace_22 rfl (inc1 _) rfl rfl ?_
        refine g_goto (tgt := 3) C dX4_replace_25 rfl ?_
        refine g_lv [1, 2, 3, 4, 0] rfl ?_
        refine ih (j + 1) _ (by omega) (by omega) hB1 (fun i hi => ?_) (fun i hi hj => hB2 i hi (by omega))
        by_cases e : i = j
        · rw [e, (hB2 j (by omega) (Nat.le_refl j)).trans (ho j (by omega)).1]; unfold rpl; rw [if_neg c14]
        · exact hB3 i (by omega)
      · refine g_aldn C dX4_replace_17 rfl ?_
        refine g_ild C dX4_replace_18 rfl ?_
        refine g_ildn C dX4_replace_20 rfl ?_
        refine g_iast C 8 g (by decide) (show g < 2 by omega) (fun _ _ => rfl) j (show j < 9 by omega) rfl dX4_replace_21 ?_
        refine g_I (I1 := sK I 8 (up2 B g j (nI m))) (by rw [sK_self, sK_sK]) ?_
        refine g_iinc (lv' := [(4, .int (nI (j + 1))), (0, .ref (Z.2.2.1 8 g)), (1, .int (nI n)), (2, .int (nI M)), (3, .int (nI m))]) C ((nI (j + 1))) dX4_replace_22 rfl (inc1 _) rfl rfl ?_
        refine g_goto (tgt := 3) C dX4_replace_25 rfl ?_
        refine g_lv [1, 2, 3, 4, 0] rfl ?_
        refine ih (j + 1) _ (by omega) (by omega) (fun r hr => by rw [up2_row hr]; exact hB1 r hr) (fun i hi => ?_) (fun i hi hj => by rw [up2_ne (by omega)]; exact hB2 i hi (by omega))
        rw [up2_at]
        by_cases e : i = j
        · rw [if_pos ⟨rfl, e⟩, e]; unfold rpl; rw [if_pos c14]
        · rw [if_neg (fun q => e q.2)]; exact hB3 i (by omega)

set_option maxRecDepth 100000 in
set_option maxHeartbeats 4000000 in
/-- replace -/
theorem c_X4_replace {l : Launch} {Y : Yk} (hA : AJ Y.2.2) {I : SI} {J : SJ} {n : Nat} (hn9 : n ≤ 9) {g : Nat} (hg : g < 2) {o : Nat → Nat} (ho : ∀ i, i < n → I 8 g i = nI (o i) ∧ o i < 9) {M m : Nat} (hM : M < 9) (hm : m < 9)  : MX l Y yX4_replace cX4_replace 5 (none) 0 0 [.ref (Y.2.2 8 g), .int (nI n), .int (nI M), .int (nI m)] I J (fun v' I' J' => ∃ B : Nat → Nat → Int32, v' = none ∧ I' = sK I 8 B ∧ J' = J ∧ (∀ r, r ≠ g → B r = I 8 r) ∧ ∀ i, i < n → B g i = nI (rpl o M m i)) := by
  refine MX.of hA (by decide) (own := RX4) rfl rfl rfl ?_
  intro X Z hl hY1 hY2 hY3 C hr
  obtain ⟨D0, ca0, ad0⟩ := Y
  dsimp only at hA hY1 hY2 hY3
  subst hY1; subst hY2; subst hY3; subst hl
  show G X 5 Z (QG X Z _) I J 0 [(0, .ref (Z.2.2.1 8 g)), (1, .int (nI n)), (2, .int (nI M)), (3, .int (nI m))] []
  refine g_iconst C ((nI 0)) dX4_replace_0 (by decide) ?_
  refine g_ist (lv' := [(4, .int (nI 0)), (0, .ref (Z.2.2.1 8 g)), (1, .int (nI n)), (2, .int (nI M)), (3, .int (nI m))]) C dX4_replace_1 rfl rfl ?_
  refine g_lv [1, 2, 3, 4, 0] rfl ?_
  refine g_I (I1 := sK I 8 (I 8)) (sK_id _ _).symm ?_
  exact l_X4_replace_3 C hr hn9 hg ho hM hm (n + 1) 0 (I 8) (by omega) (by omega) (fun _ _ => rfl) (fun i hi => absurd hi (by omega)) (fun _ _ _ => rfl)

set_option maxRecDepth 100000 in
set_option maxHeartbeats 4000000 in
theorem l_X4_joinOrbits_7 {X : Pk} {Z : Zk} {I : SI} {J : SJ} (hA : AJ Z.2.2.1) (C : Cx X cX4_joinOrbits 6 RX4 Z 1 40) (hr : (xE X).sig.returnType = none) {n : Nat} {T : Nat → Nat → Nat} {L : Nat → Nat → Nat → Nat} (hv : CV I n T L) {g : Nat} (hg : g < 2) {o f : Nat → Nat} (ho : ∀ i, i < n → I 8 g i = nI (o i)) (hlo : LO n o) (hf : ∀ i, i < n → I 18 1 i = nI (f i) ∧ f i < n)  : ∀ k x B o2, n - x < k → x ≤ n → (∀ r, r ≠ g → B r = I 8 r) → (∀ i, i < n → B g i = nI (o2 i)) → JO n f o o2 x → G X 6 Z (QG X Z (fun v' I' J' => ∃ (B : Nat → Nat → Int32) (o' : Nat → Nat), v' = none ∧ I' = sK I 8 B ∧ J' = J ∧ (∀ r, r ≠ g → B r = I 8 r) ∧ (∀ i, i < n → B g i = nI (o' i)) ∧ JO n f o o' n)) (sK I 8 B) J 7 [(0, .ref (Z.2.2.1 19 0)), (1, .ref (Z.2.2.1 2 g)), (2, .ref (Z.2.2.1 8 g)), (3, .int (nI x))] [] := by
  obtain ⟨⟨hn1, hn9⟩, -⟩ := id hv
  intro k
  induction k with
  | zero => intro x B o2 h; exact absurd h (by omega)
  | succ k ih =>
    intro x B o2 hk hxn hB1 hB2 hj
    have h9 : ∀ i, i < n → o2 i < 9 := fun i hi => by have := (hj.1 i hi).1; omega
    have h9x : x < n → o2 x < 9 := fun h => h9 x h
    have hfx : x < n → f x < n := fun h => (hf x h).2
    have h9f : x < n → o2 (f x) < 9 := fun h => h9 _ (hfx h)
    refine g_ildn C dX4_joinOrbits_7 rfl ?_
    refine g_aldn C dX4_joinOrbits_8 rfl ?_
    refine g_get C 2 g (by decide) (show g < 2 by omega) u1 rfl 0 rfl fX4_16 rfl rfl dX4_joinOrbits_9 ?_
    refine g_top (y := (nI n)) ((hv.of (sK_ne (by decide)) (sK_ne (by decide)) (sK_ne (by decide)) : CV (sK I 8 B) n T L).sz hg) ?_
    refine n_icmp_ge (tgt := 68) C dX4_joinOrbits_12 rfl (by omega) (by omega) (fun c12 => ?_) (fun c12 => ?_)
    · exact g_return C hr dX4_joinOrbits_68 ⟨B, o2, rfl, rfl, rfl, hB1, hB2, by rw [show n = x by omega]; exact (show x = n by omega) ▸ hj⟩
    · refine g_aldn C dX4_joinOrbits_15 rfl ?_
      refine g_ildn C dX4_joinOrbits_16 rfl ?_
      refine g_iald C 8 g (by decide) (show g < 2 by omega) (fun _ _ => rfl) x (show x < 9 by omega) rfl dX4_joinOrbits_17 (v := (nI (o2 x))) (hB2 x (by omega)) ?_
      refine g_ist (lv' := [(4, .int (nI (o2 x))), (0, .ref (Z.2.2.1 19 0)), (1, .ref (Z.2.2.1 2 g)), (2, .ref (Z.2.2.1 8 g)), (3, .int (nI x))]) C dX4_joinOrbits_18 rfl rfl ?_
      refine g_aldn C dX4_joinOrbits_20 rfl ?_
      refine g_aldn C dX4_joinOrbits_21 rfl ?_
      refine g_get C 19 0 (by decide) (by decide) u4 rfl 0 rfl fX4_10 rfl rfl dX4_joinOrbits_22 ?_
      refine g_get C 17 1 (by decide) (by decide) u2 rfl 0 rfl fX4_37 rfl rfl dX4_joinOrbits_25 ?_
      refine g_ildn C dX4_joinOrbits_28 rfl ?_
      refine g_iald C 18 1 (by decide) (by decide) (fun _ _ => rfl) x (show x < 9 by omega) rfl dX4_joinOrbits_29 (v := (nI (f x))) ((congrFun (congrFun (sK_ne (by decide)) 1) x).trans (hf x (by omega)).1) ?_
      refine g_iald C 8 g (by decide) (show g < 2 by omega) (fun _ _ => rfl) (f x) (show f x < 9 by omega) rfl dX4_joinOrbits_30 (v := (nI (o2 (f x)))) (hB2 (f x) (by omega)) ?_
      refine g_ist (lv' := [(5, .int (nI (o2 (f x)))), (4, .int (nI (o2 x))), (0, .ref (Z.2.2.1 19 0)), (1, .ref (Z.2.2.1 2 g)), (2, .ref (Z.2.2.1 8 g)), (3, .int (nI x))]) C dX4_joinOrbits_31 rfl rfl ?_
      refine g_ild C dX4_joinOrbits_33 rfl ?_
      refine g_ild C dX4_joinOrbits_35 rfl ?_
      refine n_icmp_eq (tgt := 62) C dX4_joinOrbits_37 rfl (by omega) (by omega) (fun c37 => ?_) (fun c37 => ?_)
      · refine g_iinc (lv' := [(3, .int (nI (x + 1))), (5, .int (nI (o2 (f x)))), (4, .int (nI (o2 x))), (0, .ref (Z.2.2.1 19 0)), (1, .ref (Z.2.2.1 2 g)), (2, .ref (Z.2.2.1 8 g))]) C ((nI (x + 1))) dX4_joinOrbits_62 rfl (inc1 _) rfl rfl ?_
        refine g_goto (tgt := 7) C dX4_joinOrbits_65 rfl ?_
        refine g_lv [3, 4, 5, 0] rfl ?_
        exact ih (x + 1) _ o2 (by omega) (by omega) hB1 hB2 (hj.same c37)
      · refine g_aldn C dX4_joinOrbits_40 rfl ?_
        refine g_aldn C dX4_joinOrbits_41 rfl ?_
        refine g_get C 2 g (by decide) (show g < 2 by omega) u1 rfl 0 rfl fX4_16 rfl rfl dX4_joinOrbits_42 ?_
        refine g_top (y := (nI n)) ((hv.of (sK_ne (by decide)) (sK_ne (by decide)) (sK_ne (by decide)) : CV (sK I 8 B) n T L).sz hg) ?_
        refine g_ild C dX4_joinOrbits_45 rfl ?_
        refine g_ild C dX4_joinOrbits_47 rfl ?_
        refine n_max C mX4_40 (by omega) (by omega) rfl rfl dX4_joinOrbits_49 ?_
        refine g_ild C dX4_joinOrbits_52 rfl ?_
        refine g_ild C dX4_joinOrbits_54 rfl ?_
        refine n_min C mX4_46 (by omega) (by omega) rfl rfl dX4_joinOrbits_56 ?_
        refine g_callS (As := [.ref (Z.2.2.1 8 g), .int (nI n), .int (nI (max (o2 x) (o2 (f x)))), .int (nI (min (o2 x) (o2 (f x))))]) (st := []) C (c_X4_replace hA hn9 hg (o := o2) (fun i hi => ⟨by rw [sK_self]; exact hB2 i hi, h9 i hi⟩) (M := max (o2 x) (o2 (f x))) (m := min (o2 x) (o2 (f x))) (by omega) (by omega)) wX4_replace tX4_replace mX4_49 rfl rfl rfl rfl dX4_joinOrbits_59 ?_
        rintro v9 I9 J9 ⟨B3, h91, h92, h93, k1, k2⟩
        rw [h91, h92, h93, sK_sK]
        rw [sK_self] at k1
        clear h91 h92 h93 v9 I9 J9
        show G X _ Z _ (sK I 8 B3) J 62 [(5, .int (nI (o2 (f x)))), (4, .int (nI (o2 x))), (0, .ref (Z.2.2.1 19 0)), (1, .ref (Z.2.2.1 2 g)), (2, .ref (Z.2.2.1 8 g)), (3, .int (nI x))] []
        refine g_iinc (lv' := [(3, .int (nI (x + 1))), (5, .int (nI (o2 (f x)))), (4, .int (nI (o2 x))), (0, .ref (Z.2.2.1 19 0)), (1, .ref (Z.2.2.1 2 g)), (2, .ref (Z.2.2.1 8 g))]) C ((nI (x + 1))) dX4_joinOrbits_62 rfl (inc1 _) rfl rfl ?_
        refine g_goto (tgt := 7) C dX4_joinOrbits_65 rfl ?_
        refine g_lv [3, 4, 5, 0] rfl ?_
        exact ih (x + 1) _ (rpl o2 (max (o2 x) (o2 (f x))) (min (o2 x) (o2 (f x)))) (by omega) (by omega) (fun r hr => (k1 r hr).trans (hB1 r hr)) k2 (hj.join (by omega) (fun i hi => (hf i hi).2) c37)

set_option maxRecDepth 100000 in
set_option maxHeartbeats 4000000 in
/-- joinOrbits -/
theorem c_X4_joinOrbits {l : Launch} {Y : Yk} (hA : AJ Y.2.2) {I : SI} {J : SJ} {n : Nat} {T : Nat → Nat → Nat} {L : Nat → Nat → Nat → Nat} (hv : CV I n T L) {g : Nat} (hg : g < 2) {o f : Nat → Nat} (ho : ∀ i, i < n → I 8 g i = nI (o i)) (hlo : LO n o) (hf : ∀ i, i < n → I 18 1 i = nI (f i) ∧ f i < n)  : MX l Y yX4_joinOrbits cX4_joinOrbits 6 (none) 1 40 [.ref (Y.2.2 19 0), .ref (Y.2.2 2 g)] I J (fun v' I' J' => ∃ (B : Nat → Nat → Int32) (o' : Nat → Nat), v' = none ∧ I' = sK I 8 B ∧ J' = J ∧ (∀ r, r ≠ g → B r = I 8 r) ∧ (∀ i, i < n → B g i = nI (o' i)) ∧ JO n f o o' n) := by
  refine MX.of hA (by decide) (own := RX4) rfl rfl rfl ?_
  intro X Z hl hY1 hY2 hY3 C hr
  obtain ⟨D0, ca0, ad0⟩ := Y
  dsimp only at hA hY1 hY2 hY3
  subst hY1; subst hY2; subst hY3; subst hl
  show G X 6 Z (QG X Z _) I J 0 [(0, .ref (Z.2.2.1 19 0)), (1, .ref (Z.2.2.1 2 g))] []
  refine g_aldn C dX4_joinOrbits_0 rfl ?_
  refine g_get C 2 g (by decide) (show g < 2 by omega) u1 rfl 4 rfl fX4_22 rfl rfl dX4_joinOrbits_1 ?_
  refine g_astn (lv' := [(2, .ref (Z.2.2.1 8 g)), (0, .ref (Z.2.2.1 19 0)), (1, .ref (Z.2.2.1 2 g))]) C dX4_joinOrbits_4 rfl rfl ?_
  refine g_iconst C ((nI 0)) dX4_joinOrbits_5 (by decide) ?_
  refine g_istn (lv' := [(3, .int (nI 0)), (2, .ref (Z.2.2.1 8 g)), (0, .ref (Z.2.2.1 19 0)), (1, .ref (Z.2.2.1 2 g))]) C dX4_joinOrbits_6 rfl rfl ?_
  refine g_lv [2, 3, 1, 0] rfl ?_
  refine g_I (I1 := sK I 8 (I 8)) (sK_id _ _).symm ?_
  exact l_X4_joinOrbits_7 hA C hr hv hg ho hlo hf (n + 1) 0 (I 8) o (by omega) (by omega) (fun _ _ => rfl) ho (JO.z hlo)

/-- what find leaves: the number, the least vertices, the scratch naming -/
def syPost (n : Nat) (K : Nat → Nat → Nat) (L : Nat → Nat → Nat → Nat) (g : Nat) (I : SI) (J : SJ) : Option Value → SI → SJ → Prop := fun v' I' J' =>
  ∃ (B F : Nat → Nat → Int32) (o : Nat → Nat), v' = none ∧ I' = sK (sK (sK I 2 (up2 (I 2) g 5 (nI (sn n K L g n)))) 8 B) 18 F ∧ J' = J ∧ (∀ r, r ≠ g → B r = I 8 r) ∧ (∀ i, i < n → B g i = nI (o i)) ∧ (∀ r, r ≠ 1 → F r = I 18 r) ∧ OR n K L g o (fun _ _ => True)
set_option maxRecDepth 100000 in
set_option maxHeartbeats 4000000 in
theorem l_X4_find_45 {X : Pk} {Z : Zk} {I : SI} {J : SJ} (hA : AJ Z.2.2.1) (C : Cx X cX4_find 5 RX4 Z 13 600) {n : Nat} {T : Nat → Nat → Nat} {K : Nat → Nat → Nat} {L : Nat → Nat → Nat → Nat} (hv : CV I n T L) (hc : CC I n K) {g : Nat} (hg : g < 2) {Q : State → Prop} {v : Nat} (hvn : v < n) (hex : ∀ B F o, (∀ r, r ≠ g → B r = I 8 r) → (∀ i, i < n → B g i = nI (o i)) → (∀ r, r ≠ 1 → F r = I 18 r) → OR n K L g o (fun a _ => a < v ∨ a = v) → G X 5 Z Q (sK (sK (sK I 2 (up2 (I 2) g 5 (nI (sn n K L g v)))) 8 B) 18 F) J 82 [(0, .ref (Z.2.2.1 19 0)), (1, .ref (Z.2.2.1 2 g)), (2, .int (nI v)), (3, .int (nI (1 + ct (fun a => dc (v < a ∧ ∃ f, syn n K L g v a f)) n))), (4, .int (nI n))] []) : ∀ k w B F o, n - w < k → v < w → w ≤ n → (∀ r, r ≠ g → B r = I 8 r) → (∀ i, i < n → B g i = nI (o i)) → (∀ r, r ≠ 1 → F r = I 18 r) → OR n K L g o (fun a b => a < v ∨ (a = v ∧ b < w)) → G X 5 Z Q (sK (sK (sK I 2 (up2 (I 2) g 5 (nI (sn n K L g v)))) 8 B) 18 F) J 45 [(0, .ref (Z.2.2.1 19 0)), (1, .ref (Z.2.2.1 2 g)), (2, .int (nI v)), (3, .int (nI (1 + ct (fun a => dc (v < a ∧ ∃ f, syn n K L g v a f)) w))), (4, .int (nI w))] [] := by
  obtain ⟨⟨hn1, hn9⟩, -⟩ := id hv
  intro k
  induction k with
  | zero => intro w B F o h; exact absurd h (by omega)
  | succ k ih =>
    intro w B F o hk hvw hwn hB1 hB2 hF hor
    have hct := ct_le (fun a => dc (v < a ∧ ∃ f, syn n K L g v a f)) w
    have hv2 := (hv.of2 (I' := sK (sK (sK I 2 (up2 (I 2) g 5 (nI (sn n K L g v)))) 8 B) 18 F) (fun a => (congrFun (congrFun ((sK_ne (by decide)).trans ((sK_ne (by decide)).trans (sK_self _ _ _))) a) 0).trans (by rw [up2_at, if_neg (by omega)])) ((sK_ne (by decide)).trans ((sK_ne (by decide)).trans (sK_ne (by decide)))) ((sK_ne (by decide)).trans ((sK_ne (by decide)).trans (sK_ne (by decide)))))
    have hc2 := (hc.of (I' := sK (sK (sK I 2 (up2 (I 2) g 5 (nI (sn n K L g v)))) 8 B) 18 F) ((sK_ne (by decide)).trans ((sK_ne (by decide)).trans (sK_ne (by decide)))))
    refine g_ild C dX4_find_45 rfl ?_
    refine g_aldn C dX4_find_47 rfl ?_
    refine g_get C 2 g (by decide) (show g < 2 by omega) u1 rfl 0 rfl fX4_16 rfl rfl dX4_find_48 ?_
    refine g_top (y := (nI n)) (hv2.sz hg) ?_
    refine n_icmp_ge (tgt := 82) C dX4_find_51 rfl (by omega) (by omega) (fun c51 => ?_) (fun c51 => ?_)
    · have e : w = n := by omega
      subst e
      refine g_lv [0, 1, 2, 3, 4] rfl ?_
      exact hex B F o hB1 hB2 hF (hor.mono (fun a b h1 h2 h3 _ => h3.elim Or.inl (fun q => Or.inr ⟨q, h2⟩)))
    · refine g_aldn C dX4_find_54 rfl ?_
      refine g_get C 19 0 (by decide) (by decide) u4 rfl 0 rfl fX4_10 rfl rfl dX4_find_55 ?_
      refine g_aldn C dX4_find_58 rfl ?_
      refine g_ildn C dX4_find_59 rfl ?_
      refine g_ild C dX4_find_60 rfl ?_
      refine g_callV (As := [.ref (Z.2.2.1 2 g), .int (nI v), .int (nI w)]) (st := []) C (c_X2_findSymmetry hA hv2 hc2 hg (q := 1) (by decide) (show v < w by omega) (show w < n by omega)) wX2_findSymmetry iX2_findSymmetry sX2_findSymmetry mX4_29 17 1 (by decide) (by decide) rfl rfl rfl rfl rfl rfl rfl rfl dX4_find_62 ?_
      rintro v9 I9 J9 ⟨b, F2, h91, h92, h93, k1, k2, k3⟩
      rw [h91, h92, h93, sK_sK]
      rw [sK_self] at k1
      clear h91 h92 h93 v9 I9 J9
      show G X _ Z _ (sK (sK (sK I 2 (up2 (I 2) g 5 (nI (sn n K L g v)))) 8 B) 18 F2) J 65 [(0, .ref (Z.2.2.1 19 0)), (1, .ref (Z.2.2.1 2 g)), (2, .int (nI v)), (3, .int (nI (1 + ct (fun a => dc (v < a ∧ ∃ f, syn n K L g v a f)) w))), (4, .int (nI w))] [.int (bI b)]
      refine b_if_eq (tgt := 76) C dX4_find_65 rfl (fun c65 => ?_) (fun c65 => ?_)
      · refine g_iinc (lv' := [(4, .int (nI (w + 1))), (0, .ref (Z.2.2.1 19 0)), (1, .ref (Z.2.2.1 2 g)), (2, .int (nI v)), (3, .int (nI (1 + ct (fun a => dc (v < a ∧ ∃ f, syn n K L g v a f)) w)))]) C ((nI (w + 1))) dX4_find_76 rfl (inc1 _) rfl rfl ?_
        refine g_goto (tgt := 45) C dX4_find_79 rfl ?_
        refine g_lv (lv1 := [(0, .ref (Z.2.2.1 19 0)), (1, .ref (Z.2.2.1 2 g)), (2, .int (nI v)), (3, .int (nI (1 + ct (fun a => dc (v < a ∧ ∃ f, syn n K L g v a f)) (w + 1)))), (4, .int (nI (w + 1)))]) [1, 2, 3, 4, 0] (by rw [show 1 + ct (fun a => dc (v < a ∧ ∃ f, syn n K L g v a f)) (w + 1) = 1 + ct (fun a => dc (v < a ∧ ∃ f, syn n K L g v a f)) w by simp only [ct]; rw [if_neg (fun q => (dc_t.mp q).2.elim (fun f2 h2 => k3 c65 f2 h2))]; rfl]; rfl) ?_
        exact ih (w + 1) B F2 o (by omega) (by omega) (by omega) hB1 hB2 (fun r hr => (k1 r hr).trans (hF r hr)) (hor.mono (fun a b h1 h2 h3 h4 => by rcases h3 with h3 | ⟨h3, h5⟩; exact Or.inl h3; rcases Nat.lt_or_eq_of_le (Nat.le_of_lt_succ h5) with h6 | h6; exact Or.inr ⟨h3, h6⟩; subst h3; subst h6; exact h4.elim (fun f2 h7 => absurd h7 (k3 c65 f2))))
      · refine g_iinc (lv' := [(3, .int (nI (1 + ct (fun a => dc (v < a ∧ ∃ f, syn n K L g v a f)) w + 1))), (0, .ref (Z.2.2.1 19 0)), (1, .ref (Z.2.2.1 2 g)), (2, .int (nI v)), (4, .int (nI w))]) C ((nI (1 + ct (fun a => dc (v < a ∧ ∃ f, syn n K L g v a f)) w + 1))) dX4_find_68 rfl (inc1 _) rfl rfl ?_
        obtain ⟨f1, m1, m2⟩ := k2 c65
        refine g_aldn C dX4_find_71 rfl ?_
        refine g_aldn C dX4_find_72 rfl ?_
        refine g_callV (As := [.ref (Z.2.2.1 2 g)]) (st := []) C (c_X4_joinOrbits hA (hv.of2 (I' := sK (sK (sK I 2 (up2 (I 2) g 5 (nI (sn n K L g v)))) 8 B) 18 F2) (fun a => (congrFun (congrFun ((sK_ne (by decide)).trans ((sK_ne (by decide)).trans (sK_self _ _ _))) a) 0).trans (by rw [up2_at, if_neg (by omega)])) ((sK_ne (by decide)).trans ((sK_ne (by decide)).trans (sK_ne (by decide)))) ((sK_ne (by decide)).trans ((sK_ne (by decide)).trans (sK_ne (by decide))))) hg (o := o) (f := f1) (fun i hi => (congrFun (congrFun ((sK_ne (by decide)).trans (sK_self _ _ _)) g) i).trans (hB2 i hi)) hor.1 (fun i hi => ⟨(congrFun (congrFun (sK_self _ _ _) 1) i).trans (m1 i hi), (m2.1 i hi).1⟩)) wX4_joinOrbits iX4_joinOrbits sX4_joinOrbits mX4_33 19 0 (by decide) (by decide) rfl rfl rfl rfl rfl rfl rfl rfl dX4_find_73 ?_
        rintro v9 I9 J9 ⟨B3, o3, h91, h92, h93, j1, j2, j3⟩
        rw [h91, h92, h93, sk3b _ (by decide)]
        rw [show (sK (sK (sK I 2 (up2 (I 2) g 5 (nI (sn n K L g v)))) 8 B) 18 F2) 8 = B from (sK_ne (by decide)).trans (sK_self _ _ _)] at j1
        clear h91 h92 h93 v9 I9 J9
        show G X _ Z _ (sK (sK (sK I 2 (up2 (I 2) g 5 (nI (sn n K L g v)))) 8 B3) 18 F2) J 76 [(3, .int (nI (1 + ct (fun a => dc (v < a ∧ ∃ f, syn n K L g v a f)) w + 1))), (0, .ref (Z.2.2.1 19 0)), (1, .ref (Z.2.2.1 2 g)), (2, .int (nI v)), (4, .int (nI w))] []
        refine g_iinc (lv' := [(4, .int (nI (w + 1))), (3, .int (nI (1 + ct (fun a => dc (v < a ∧ ∃ f, syn n K L g v a f)) w + 1))), (0, .ref (Z.2.2.1 19 0)), (1, .ref (Z.2.2.1 2 g)), (2, .int (nI v))]) C ((nI (w + 1))) dX4_find_76 rfl (inc1 _) rfl rfl ?_
        refine g_goto (tgt := 45) C dX4_find_79 rfl ?_
        refine g_lv (lv1 := [(0, .ref (Z.2.2.1 19 0)), (1, .ref (Z.2.2.1 2 g)), (2, .int (nI v)), (3, .int (nI (1 + ct (fun a => dc (v < a ∧ ∃ f, syn n K L g v a f)) (w + 1)))), (4, .int (nI (w + 1)))]) [2, 3, 4, 1, 0] (by rw [show 1 + ct (fun a => dc (v < a ∧ ∃ f, syn n K L g v a f)) (w + 1) = 1 + ct (fun a => dc (v < a ∧ ∃ f, syn n K L g v a f)) w + 1 by simp only [ct]; rw [if_pos (dc_t.mpr ⟨by omega, f1, m2⟩)]; omega]; rfl) ?_
        exact ih (w + 1) B3 F2 o3 (by omega) (by omega) (by omega) (fun r hr => (j1 r hr).trans (hB1 r hr)) j2 (fun r hr => (k1 r hr).trans (hF r hr)) (hor.join m2 j3 (fun a b h1 h2 h3 h4 => by rcases h3 with h3 | ⟨h3, h5⟩; exact Or.inl (Or.inl h3); rcases Nat.lt_or_eq_of_le (Nat.le_of_lt_succ h5) with h6 | h6; exact Or.inl (Or.inr ⟨h3, h6⟩); exact Or.inr ⟨h3, h6⟩))

set_option maxRecDepth 100000 in
set_option maxHeartbeats 4000000 in
theorem l_X4_find_30 {X : Pk} {Z : Zk} {I : SI} {J : SJ} (hA : AJ Z.2.2.1) (hr : (xE X).sig.returnType = none) (C : Cx X cX4_find 5 RX4 Z 13 600) {n : Nat} {T : Nat → Nat → Nat} {K : Nat → Nat → Nat} {L : Nat → Nat → Nat → Nat} (hv : CV I n T L) (hc : CC I n K) {g : Nat} (hg : g < 2) : ∀ k v B F o, n - v < k → v ≤ n → (∀ r, r ≠ g → B r = I 8 r) → (∀ i, i < n → B g i = nI (o i)) → (∀ r, r ≠ 1 → F r = I 18 r) → OR n K L g o (fun a _ => a < v) → G X 5 Z (QG X Z (syPost n K L g I J)) (sK (sK (sK I 2 (up2 (I 2) g 5 (nI (sn n K L g v)))) 8 B) 18 F) J 30 [(0, .ref (Z.2.2.1 19 0)), (1, .ref (Z.2.2.1 2 g)), (2, .int (nI v))] [] := by
  obtain ⟨⟨hn1, hn9⟩, -⟩ := id hv
  intro k
  induction k with
  | zero => intro v B F o h; exact absurd h (by omega)
  | succ k ih =>
    intro v B F o hk hvn hB1 hB2 hF hor
    have hv2 := (hv.of2 (I' := sK (sK (sK I 2 (up2 (I 2) g 5 (nI (sn n K L g v)))) 8 B) 18 F) (fun a => (congrFun (congrFun ((sK_ne (by decide)).trans ((sK_ne (by decide)).trans (sK_self _ _ _))) a) 0).trans (by rw [up2_at, if_neg (by omega)])) ((sK_ne (by decide)).trans ((sK_ne (by decide)).trans (sK_ne (by decide)))) ((sK_ne (by decide)).trans ((sK_ne (by decide)).trans (sK_ne (by decide)))))
    refine g_ildn C dX4_find_30 rfl ?_
    refine g_aldn C dX4_find_31 rfl ?_
    refine g_get C 2 g (by decide) (show g < 2 by omega) u1 rfl 0 rfl fX4_16 rfl rfl dX4_find_32 ?_
    refine g_top (y := (nI n)) (hv2.sz hg) ?_
    refine n_icmp_ge (tgt := 98) C dX4_find_35 rfl (by omega) (by omega) (fun c35 => ?_) (fun c35 => ?_)
    · exact g_return C hr dX4_find_98 ⟨B, F, o, rfl, by rw [show v = n by omega], rfl, hB1, hB2, hF, hor.mono (fun a b h1 h2 _ _ => by omega)⟩
    · refine g_iconst C ((nI 1)) dX4_find_38 (by decide) ?_
      refine g_istn (lv' := [(3, .int (nI 1)), (0, .ref (Z.2.2.1 19 0)), (1, .ref (Z.2.2.1 2 g)), (2, .int (nI v))]) C dX4_find_39 rfl rfl ?_
      refine g_ildn C dX4_find_40 rfl ?_
      refine g_iconst C ((nI 1)) dX4_find_41 (by decide) ?_
      refine g_iadd (v := (nI (v + 1))) C dX4_find_42 (nI_add _ _) ?_
      refine g_ist (lv' := [(4, .int (nI (v + 1))), (3, .int (nI 1)), (0, .ref (Z.2.2.1 19 0)), (1, .ref (Z.2.2.1 2 g)), (2, .int (nI v))]) C dX4_find_43 rfl rfl ?_
      refine g_lv (lv1 := [(0, .ref (Z.2.2.1 19 0)), (1, .ref (Z.2.2.1 2 g)), (2, .int (nI v)), (3, .int (nI (1 + ct (fun a => dc (v < a ∧ ∃ f, syn n K L g v a f)) (v + 1)))), (4, .int (nI (v + 1)))]) [2, 3, 4, 1, 0] (by rw [show ct (fun a => dc (v < a ∧ ∃ f, syn n K L g v a f)) (v + 1) = 0 from ct_none _ (fun i hi => dc_f (fun q => by omega))]; rfl) ?_
      refine l_X4_find_45 hA C hv hc hg (show v < n by omega) ?_ (n + 1) (v + 1) B F o (by omega) (by omega) (by omega) hB1 hB2 hF (hor.mono (fun a b h1 h2 h3 _ => h3.elim id (fun q => by omega)))
      clear hB1 hB2 hF hor hv2 B F o
      intro B F o hB1 hB2 hF hor
      have hsn := sn_le (K := K) (L := L) (g := g) hn9 (v + 1) (by omega)
      refine g_aldn C dX4_find_82 rfl ?_
      refine g_dup C dX4_find_83 rfl ?_
      refine g_get C 2 g (by decide) (show g < 2 by omega) u1 rfl 5 rfl fX4_26 rfl rfl dX4_find_84 ?_
      refine g_top (y := (nI (sn n K L g v))) ((congrFun (congrFun ((sK_ne (by decide)).trans ((sK_ne (by decide)).trans (sK_self _ _ _))) g) 5).trans up2_self) ?_
      refine g_ildn C dX4_find_87 rfl ?_
      refine g_imul (v := (nI ((sn n K L g v) * (1 + ct (fun a => dc (v < a ∧ ∃ f, syn n K L g v a f)) n)))) C dX4_find_88 (pk_mul _ _) ?_
      refine g_put C 2 g (by decide) (show g < 2 by omega) tyX1 tyX1_ok nmX1 u1 rfl 5 rfl fX4_26 rfl (fun _ _ => rfl) (by simp [va_up]) rfl rfl rfl dX4_find_89 ?_
      refine g_I (I1 := sK (sK (sK I 2 (up2 (I 2) g 5 (nI (sn n K L g (v + 1))))) 8 B) 18 F) (by rw [sk3a _ (by decide) (by decide), show (sK (sK (sK I 2 (up2 (I 2) g 5 (nI (sn n K L g v)))) 8 B) 18 F) 2 = up2 (I 2) g 5 (nI (sn n K L g v)) from (sK_ne (by decide)).trans ((sK_ne (by decide)).trans (sK_self _ _ _)), up2_up2]; rfl) ?_
      refine g_iinc (lv' := [(2, .int (nI (v + 1))), (0, .ref (Z.2.2.1 19 0)), (1, .ref (Z.2.2.1 2 g)), (3, .int (nI (1 + ct (fun a => dc (v < a ∧ ∃ f, syn n K L g v a f)) n))), (4, .int (nI n))]) C ((nI (v + 1))) dX4_find_92 rfl (inc1 _) rfl rfl ?_
      refine g_goto (tgt := 30) C dX4_find_95 rfl ?_
      refine g_lv [1, 2, 0] rfl ?_
      exact ih (v + 1) B F o (by omega) (by omega) hB1 hB2 hF (hor.mono (fun a b h1 h2 h3 _ => by omega))

set_option maxRecDepth 100000 in
set_option maxHeartbeats 4000000 in
theorem l_X4_find_2 {X : Pk} {Z : Zk} {I : SI} {J : SJ} (hA : AJ Z.2.2.1) (hr : (xE X).sig.returnType = none) (C : Cx X cX4_find 5 RX4 Z 13 600) {n : Nat} {T : Nat → Nat → Nat} {K : Nat → Nat → Nat} {L : Nat → Nat → Nat → Nat} (hv : CV I n T L) (hc : CC I n K) {g : Nat} (hg : g < 2) : ∀ k v B, n - v < k → v ≤ n → (∀ r, r ≠ g → B r = I 8 r) → (∀ i, i < v → B g i = nI i) → G X 5 Z (QG X Z (syPost n K L g I J)) (sK I 8 B) J 2 [(0, .ref (Z.2.2.1 19 0)), (1, .ref (Z.2.2.1 2 g)), (2, .int (nI v))] [] := by
  obtain ⟨⟨hn1, hn9⟩, -⟩ := id hv
  intro k
  induction k with
  | zero => intro v B h; exact absurd h (by omega)
  | succ k ih =>
    intro v B hk hvn hB1 hB2
    refine g_ildn C dX4_find_2 rfl ?_
    refine g_aldn C dX4_find_3 rfl ?_
    refine g_get C 2 g (by decide) (show g < 2 by omega) u1 rfl 0 rfl fX4_16 rfl rfl dX4_find_4 ?_
    refine g_top (y := (nI n)) ((hv.of (sK_ne (by decide)) (sK_ne (by decide)) (sK_ne (by decide)) : CV (sK I 8 B) n T L).sz hg) ?_
    refine n_icmp_ge (tgt := 23) C dX4_find_7 rfl (by omega) (by omega) (fun c7 => ?_) (fun c7 => ?_)
    · refine g_aldn C dX4_find_23 rfl ?_
      refine g_iconst C ((nI 1)) dX4_find_24 (by decide) ?_
      refine g_put C 2 g (by decide) (show g < 2 by omega) tyX1 tyX1_ok nmX1 u1 rfl 5 rfl fX4_26 rfl (fun _ _ => rfl) (by simp [va_up]) rfl rfl rfl dX4_find_25 ?_
      refine g_I (I1 := sK (sK I 8 B) 2 (up2 (I 2) g 5 (nI 1))) (by rw [sK_ne (by decide : (2 : Nat) ≠ 8)]) ?_
      refine g_iconst C ((nI 0)) dX4_find_28 (by decide) ?_
      refine g_istn (lv' := [(2, .int (nI 0)), (0, .ref (Z.2.2.1 19 0)), (1, .ref (Z.2.2.1 2 g))]) C dX4_find_29 rfl rfl ?_
      refine g_lv [1, 2, 0] rfl ?_
      refine g_I (I1 := sK (sK (sK I 2 (up2 (I 2) g 5 (nI (sn n K L g 0)))) 8 B) 18 (I 18)) (by rw [sK_swap _ (by decide : (8 : Nat) ≠ 2)]; exact (sK_id _ 18).symm) ?_
      exact l_X4_find_30 hA hr C hv hc hg (n + 1) 0 B (I 18) (fun i => i) (by omega) (by omega) hB1 (fun i hi => hB2 i (by omega)) (fun _ _ => rfl) ((OR.z n K L g (fun _ _ => rfl)).mono (fun a b h1 h2 h3 _ => by omega))
    · refine g_aldn C dX4_find_10 rfl ?_
      refine g_get C 2 g (by decide) (show g < 2 by omega) u1 rfl 4 rfl fX4_22 rfl rfl dX4_find_11 ?_
      refine g_ildn C dX4_find_14 rfl ?_
      refine g_ildn C dX4_find_15 rfl ?_
      refine g_iast C 8 g (by decide) (show g < 2 by omega) (fun _ _ => rfl) v (show v < 9 by omega) rfl dX4_find_16 ?_
      refine g_I (I1 := sK I 8 (up2 B g v (nI v))) (by rw [sK_self, sK_sK]) ?_
      refine g_iinc (lv' := [(2, .int (nI (v + 1))), (0, .ref (Z.2.2.1 19 0)), (1, .ref (Z.2.2.1 2 g))]) C ((nI (v + 1))) dX4_find_17 rfl (inc1 _) rfl rfl ?_
      refine g_goto (tgt := 2) C dX4_find_20 rfl ?_
      refine g_lv [1, 2, 0] rfl ?_
      refine ih (v + 1) _ (by omega) (by omega) (fun r hr => by rw [up2_row hr]; exact hB1 r hr) (fun i hi => ?_)
      rw [up2_at]
      by_cases e : i = v
      · rw [if_pos ⟨rfl, e⟩, e]
      · rw [if_neg (fun q => e q.2)]; exact hB2 i (by omega)

set_option maxRecDepth 100000 in
set_option maxHeartbeats 4000000 in
/-- SymmetryFinder.find -/
theorem c_X4_find {l : Launch} {Y : Yk} (hA : AJ Y.2.2) {I : SI} {J : SJ} {n : Nat} {T : Nat → Nat → Nat} {K : Nat → Nat → Nat} {L : Nat → Nat → Nat → Nat} (hv : CV I n T L) (hc : CC I n K) {g : Nat} (hg : g < 2)  : MX l Y yX4_find cX4_find 5 (none) 13 600 [.ref (Y.2.2 19 0), .ref (Y.2.2 2 g)] I J (syPost n K L g I J) := by
  refine MX.of hA (by decide) (own := RX4) rfl rfl rfl ?_
  intro X Z hl hY1 hY2 hY3 C hr
  obtain ⟨D0, ca0, ad0⟩ := Y
  dsimp only at hA hY1 hY2 hY3
  subst hY1; subst hY2; subst hY3; subst hl
  show G X 5 Z (QG X Z _) I J 0 [(0, .ref (Z.2.2.1 19 0)), (1, .ref (Z.2.2.1 2 g))] []
  refine g_iconst C ((nI 0)) dX4_find_0 (by decide) ?_
  refine g_istn (lv' := [(2, .int (nI 0)), (0, .ref (Z.2.2.1 19 0)), (1, .ref (Z.2.2.1 2 g))]) C dX4_find_1 rfl rfl ?_
  refine g_lv [1, 2, 0] rfl ?_
  refine g_I (I1 := sK I 8 (I 8)) (sK_id _ _).symm ?_
  exact l_X4_find_2 hA hr C hv hc hg (n + 1) 0 (I 8) (by omega) (by omega) (fun _ _ => rfl) (fun i hi => absurd hi (by omega))

