/-! ===== Painter: difference, sortSpots ===== -/
/-- a spot is there: vertex s mod 9 of graph s div 9 -/
def thr (n s : Nat) : Prop := s < 18 ∧ s % 9 < n
/-- what a spot is compared by: its colour, then its keys -/
def Qs (c : Nat → Nat) (Kf : Nat → Nat → Nat) (s : Nat) : Nat → Nat := fun i => match i with
  | 0 => c s
  | k + 1 => Kf s k
theorem Qs_c {c : Nat → Nat} {Kf : Nat → Nat → Nat} {a b k : Nat} (h : c a < c b) : lx (k + 1) (Qs c Kf a) (Qs c Kf b) := ⟨0, by omega, fun j hj => absurd hj (by omega), h⟩
theorem Qs_k {c : Nat → Nat} {Kf : Nat → Nat → Nat} {a b k i : Nat} (hi : i < k) (e : c a = c b) (h : ∀ j, j < i → Kf a j = Kf b j) (hl : Kf a i < Kf b i) : lx (k + 1) (Qs c Kf a) (Qs c Kf b) := ⟨i + 1, by omega, fun j hj => by
  cases j with
  | zero => exact e
  | succ j => exact h j (by omega), hl⟩
theorem Qs_e {c : Nat → Nat} {Kf : Nat → Nat → Nat} {a b k : Nat} (e : c a = c b) (h : ∀ j, j < k → Kf a j = Kf b j) : ∀ i, i < k + 1 → Qs c Kf a i = Qs c Kf b i := fun i hi => by
  cases i with
  | zero => exact e
  | succ j => exact h j (by omega)
/-- d's sign tells which of the two is before -/
def sgn (k : Nat) (A B : Nat → Nat) (d : Int32) : Prop := (d < 0 ∧ lx k A B) ∨ (d = 0 ∧ ∀ i, i < k → A i = B i) ∨ (0 < d ∧ lx k B A)
theorem sub_neg {a b : Nat} (ha : a < 1000) (hb : b < 1000) (h : a < b) : nI a - nI b < 0 := pk_sneg (by omega) h
theorem sub_pos {a b : Nat} (ha : a < 1000) (hb : b < 1000) (h : b < a) : 0 < nI a - nI b := by
  rw [pk_sub (by omega)]
  exact nI_lt (a := 0) (by omega) (by omega)
theorem sgn_gt {k : Nat} {A B : Nat → Nat} {d : Int32} (h : sgn k A B d) (hd : 0 < d) : lx k B A := by
  rcases h with ⟨h1, _⟩ | ⟨h1, _⟩ | ⟨_, h2⟩
  · exact absurd (Int32.lt_trans hd h1) (Int32.lt_irrefl)
  · rw [h1] at hd; exact absurd hd (Int32.lt_irrefl)
  · exact h2
theorem sgn_le {k : Nat} {A B : Nat → Nat} {d : Int32} (h : sgn k A B d) (hd : ¬ 0 < d) : ¬ lx k B A := fun q => by
  rcases h with ⟨_, h2⟩ | ⟨_, h2⟩ | ⟨h1, _⟩
  · exact lx_irr (lx_tr h2 q)
  · exact lx_irr (lx_l q (fun i hi => (h2 i hi).symm))
  · exact hd h1
theorem sgn_0 {k : Nat} {A B : Nat → Nat} {d : Int32} (h : sgn k A B d) (hd : d = 0) : ∀ i, i < k → A i = B i := by
  rcases h with ⟨h1, _⟩ | ⟨_, h2⟩ | ⟨h1, _⟩
  · rw [hd] at h1; exact absurd h1 (Int32.lt_irrefl)
  · exact h2
  · rw [hd] at h1; exact absurd h1 (Int32.lt_irrefl)
theorem sgn_n {k : Nat} {A B : Nat → Nat} {d : Int32} (h : sgn k A B d) (hd : d ≠ 0) : lx k A B ∨ lx k B A := by
  rcases h with ⟨_, h2⟩ | ⟨h1, _⟩ | ⟨_, h2⟩
  · exact Or.inl h2
  · exact absurd h1 hd
  · exact Or.inr h2
set_option maxRecDepth 100000 in
set_option maxHeartbeats 4000000 in
theorem l_X3_difference_32 {X : Pk} {Z : Zk} {fr lo : Nat} {I : SI} {J : SJ} (C : Cx X cX3_difference 5 RX3 Z fr lo) (hr : (xE X).sig.returnType = some .int) {n kc : Nat} (hn9 : n ≤ 9) (hkc : kc ≤ 9) {c : Nat → Nat} {Kf : Nat → Nat → Nat} (hc : ∀ s, thr n s → I 11 0 s = nI (c s) ∧ c s < 18) (hK : ∀ s, thr n s → ∀ k, k < kc → I 16 s k = nI (Kf s k) ∧ Kf s k < 400) {a b : Nat} (ha : thr n a) (hb : thr n b) (e1 : c a = c b) : ∀ m k, kc - k < m → k ≤ kc → (∀ j, j < k → Kf a j = Kf b j) → G X 5 Z (QG X Z (fun v' I' J' => (∃ d : Int32, v' = some (.int d) ∧ sgn (kc + 1) (Qs c Kf a) (Qs c Kf b) d) ∧ I' = I ∧ J' = J)) I J 32 [(0, .ref (Z.2.2.1 10 0)), (1, .int (nI a)), (2, .int (nI b)), (3, .int (nI kc)), (4, .int (nI k))] [] := by
  have ha18 := ha.1
  have hb18 := hb.1
  intro m
  induction m with
  | zero => intro k h; exact absurd h (by omega)
  | succ m ih =>
    intro k hk hkk hin
    have z1 : k < kc → Kf a k < 400 := fun h => (hK a ha k h).2
    have z2 : k < kc → Kf b k < 400 := fun h => (hK b hb k h).2
    refine g_ild C dX3_difference_32 rfl ?_
    refine g_ildn C dX3_difference_34 rfl ?_
    refine n_icmp_ge (tgt := 85) C dX3_difference_35 rfl (by omega) (by omega) (fun c35 => ?_) (fun c35 => ?_)
    · refine g_iconst C ((nI 0)) dX3_difference_85 (by decide) ?_
      exact g_ireturn C hr dX3_difference_86 ⟨⟨0, rfl, Or.inr (Or.inl ⟨rfl, Qs_e e1 (fun j hj => hin j (by omega))⟩)⟩, rfl, rfl⟩
    · refine g_aldn C dX3_difference_38 rfl ?_
      refine g_get C 10 0 (by decide) (by decide) u3 rfl 5 rfl fX3_26 rfl rfl dX3_difference_39 ?_
      refine g_ildn C dX3_difference_42 rfl ?_
      refine g_aald C 15 0 3 (by decide) (by decide) (fun _ _ => rfl) rfl rfl a (show a < 18 by omega) rfl dX3_difference_43 ?_
      refine g_ild C dX3_difference_44 rfl ?_
      refine g_iald C 16 a (by decide) (show a < 18 by omega) (fun _ _ => rfl) k (show k < 9 by omega) rfl dX3_difference_46 (v := (nI (Kf a k))) (hK a ha k (by omega)).1 ?_
      refine g_aldn C dX3_difference_47 rfl ?_
      refine g_get C 10 0 (by decide) (by decide) u3 rfl 5 rfl fX3_26 rfl rfl dX3_difference_48 ?_
      refine g_ildn C dX3_difference_51 rfl ?_
      refine g_aald C 15 0 3 (by decide) (by decide) (fun _ _ => rfl) rfl rfl b (show b < 18 by omega) rfl dX3_difference_52 ?_
      refine g_ild C dX3_difference_53 rfl ?_
      refine g_iald C 16 b (by decide) (show b < 18 by omega) (fun _ _ => rfl) k (show k < 9 by omega) rfl dX3_difference_55 (v := (nI (Kf b k))) (hK b hb k (by omega)).1 ?_
      refine n_icmp_eq (tgt := 79) C dX3_difference_56 rfl (by omega) (by omega) (fun c56 => ?_) (fun c56 => ?_)
      · refine g_iinc (lv' := [(4, .int (nI (k + 1))), (0, .ref (Z.2.2.1 10 0)), (1, .int (nI a)), (2, .int (nI b)), (3, .int (nI kc))]) C ((nI (k + 1))) dX3_difference_79 rfl (inc1 _) rfl rfl ?_
        refine g_goto (tgt := 32) C dX3_difference_82 rfl ?_
        refine g_lv [1, 2, 3, 4, 0] rfl ?_
        exact ih (k + 1) (by omega) (by omega) (fun j hj => (Nat.lt_or_eq_of_le (Nat.le_of_lt_succ hj)).elim (hin j) (fun e => by rw [e]; exact c56))
      · refine g_aldn C dX3_difference_59 rfl ?_
        refine g_get C 10 0 (by decide) (by decide) u3 rfl 5 rfl fX3_26 rfl rfl dX3_difference_60 ?_
        refine g_ildn C dX3_difference_63 rfl ?_
        refine g_aald C 15 0 3 (by decide) (by decide) (fun _ _ => rfl) rfl rfl a (show a < 18 by omega) rfl dX3_difference_64 ?_
        refine g_ild C dX3_difference_65 rfl ?_
        refine g_iald C 16 a (by decide) (show a < 18 by omega) (fun _ _ => rfl) k (show k < 9 by omega) rfl dX3_difference_67 (v := (nI (Kf a k))) (hK a ha k (by omega)).1 ?_
        refine g_aldn C dX3_difference_68 rfl ?_
        refine g_get C 10 0 (by decide) (by decide) u3 rfl 5 rfl fX3_26 rfl rfl dX3_difference_69 ?_
        refine g_ildn C dX3_difference_72 rfl ?_
        refine g_aald C 15 0 3 (by decide) (by decide) (fun _ _ => rfl) rfl rfl b (show b < 18 by omega) rfl dX3_difference_73 ?_
        refine g_ild C dX3_difference_74 rfl ?_
        refine g_iald C 16 b (by decide) (show b < 18 by omega) (fun _ _ => rfl) k (show k < 9 by omega) rfl dX3_difference_76 (v := (nI (Kf b k))) (hK b hb k (by omega)).1 ?_
        refine g_isub (v := (nI (Kf a k) - nI (Kf b k))) C dX3_difference_77 rfl ?_
        exact g_ireturn C hr dX3_difference_78 ⟨⟨_, rfl, by rcases Nat.lt_or_gt_of_ne c56 with q | q; exact Or.inl ⟨sub_neg (by omega) (by omega) q, Qs_k (by omega) e1 hin q⟩; exact Or.inr (Or.inr ⟨sub_pos (by omega) (by omega) q, Qs_k (by omega) e1.symm (fun j hj => (hin j hj).symm) q⟩)⟩, rfl, rfl⟩

set_option maxRecDepth 100000 in
set_option maxHeartbeats 4000000 in
/-- difference -/
theorem c_X3_difference {l : Launch} {Y : Yk} (hA : AJ Y.2.2) {I : SI} {J : SJ} {n kc : Nat} (hn9 : n ≤ 9) (hkc : kc ≤ 9) {c : Nat → Nat} {Kf : Nat → Nat → Nat} (hc : ∀ s, thr n s → I 11 0 s = nI (c s) ∧ c s < 18) (hK : ∀ s, thr n s → ∀ k, k < kc → I 16 s k = nI (Kf s k) ∧ Kf s k < 400) {a b : Nat} (ha : thr n a) (hb : thr n b)  : MX l Y yX3_difference cX3_difference 5 (some .int) 0 0 [.ref (Y.2.2 10 0), .int (nI a), .int (nI b), .int (nI kc)] I J (fun v' I' J' => (∃ d : Int32, v' = some (.int d) ∧ sgn (kc + 1) (Qs c Kf a) (Qs c Kf b) d) ∧ I' = I ∧ J' = J) := by
  refine MX.of hA (by decide) (own := RX3) rfl rfl rfl ?_
  intro X Z hl hY1 hY2 hY3 C hr
  obtain ⟨D0, ca0, ad0⟩ := Y
  dsimp only at hA hY1 hY2 hY3
  subst hY1; subst hY2; subst hY3; subst hl
  show G X 5 Z (QG X Z _) I J 0 [(0, .ref (Z.2.2.1 10 0)), (1, .int (nI a)), (2, .int (nI b)), (3, .int (nI kc))] []
  have ha18 := ha.1
  have hb18 := hb.1
  have z1 := (hc a ha).2
  have z2 := (hc b hb).2
  refine g_aldn C dX3_difference_0 rfl ?_
  refine g_get C 10 0 (by decide) (by decide) u3 rfl 1 rfl fX3_11 rfl rfl dX3_difference_1 ?_
  refine g_ildn C dX3_difference_4 rfl ?_
  refine g_iald C 11 0 (by decide) (by decide) (fun _ _ => rfl) a (show a < 18 by omega) rfl dX3_difference_5 (v := (nI (c a))) (hc a ha).1 ?_
  refine g_aldn C dX3_difference_6 rfl ?_
  refine g_get C 10 0 (by decide) (by decide) u3 rfl 1 rfl fX3_11 rfl rfl dX3_difference_7 ?_
  refine g_ildn C dX3_difference_10 rfl ?_
  refine g_iald C 11 0 (by decide) (by decide) (fun _ _ => rfl) b (show b < 18 by omega) rfl dX3_difference_11 (v := (nI (c b))) (hc b hb).1 ?_
  refine n_icmp_eq (tgt := 29) C dX3_difference_12 rfl (by omega) (by omega) (fun c12 => ?_) (fun c12 => ?_)
  · refine g_iconst C ((nI 0)) dX3_difference_29 (by decide) ?_
    refine g_ist (lv' := [(4, .int (nI 0)), (0, .ref (Z.2.2.1 10 0)), (1, .int (nI a)), (2, .int (nI b)), (3, .int (nI kc))]) C dX3_difference_30 rfl rfl ?_
    refine g_lv [1, 2, 3, 4, 0] rfl ?_
    exact l_X3_difference_32 C hr hn9 hkc hc hK ha hb c12 (kc + 1) 0 (by omega) (by omega) (fun j hj => absurd hj (by omega))
  · refine g_aldn C dX3_difference_15 rfl ?_
    refine g_get C 10 0 (by decide) (by decide) u3 rfl 1 rfl fX3_11 rfl rfl dX3_difference_16 ?_
    refine g_ildn C dX3_difference_19 rfl ?_
    refine g_iald C 11 0 (by decide) (by decide) (fun _ _ => rfl) a (show a < 18 by omega) rfl dX3_difference_20 (v := (nI (c a))) (hc a ha).1 ?_
    refine g_aldn C dX3_difference_21 rfl ?_
    refine g_get C 10 0 (by decide) (by decide) u3 rfl 1 rfl fX3_11 rfl rfl dX3_difference_22 ?_
    refine g_ildn C dX3_difference_25 rfl ?_
    refine g_iald C 11 0 (by decide) (by decide) (fun _ _ => rfl) b (show b < 18 by omega) rfl dX3_difference_26 (v := (nI (c b))) (hc b hb).1 ?_
    refine g_isub (v := (nI (c a) - nI (c b))) C dX3_difference_27 rfl ?_
    exact g_ireturn C hr dX3_difference_28 ⟨⟨_, rfl, by rcases Nat.lt_or_gt_of_ne c12 with q | q; exact Or.inl ⟨sub_neg (by omega) (by omega) q, Qs_c q⟩; exact Or.inr (Or.inr ⟨sub_pos (by omega) (by omega) q, Qs_c q⟩)⟩, rfl, rfl⟩

/-- s is in the order of lt -/
def srtR (lt : Nat → Nat → Prop) (s : Nat → Nat) (m : Nat) : Prop := ∀ i, i + 1 < m → ¬ lt (s (i + 1)) (s i)
theorem ins_srtR {lt : Nat → Nat → Prop} {s : Nat → Nat} {a m x : Nat} (hlt : ∀ u, lt x u → ¬ lt u x) (h : srtR lt s m) (ha : a ≤ m) (h1 : a = 0 ∨ ¬ lt x (s (a - 1))) (h2 : ∀ j, a ≤ j → j < m → lt x (s j)) : srtR lt (ins s a x) (m + 1) := by
  intro i hi
  rcases Nat.lt_trichotomy (i + 1) a with q | q | q
  · rw [ins_lt (show i < a by omega), ins_lt q]; exact h i (by omega)
  · subst q
    rw [ins_lt (show i < i + 1 by omega), ins_at]
    rcases h1 with h1 | h1
    · omega
    · exact h1
  · rw [ins_gt (by omega)]
    rcases Nat.lt_or_eq_of_le (show a ≤ i by omega) with q2 | q2
    · obtain ⟨i', rfl⟩ : ∃ i', i = i' + 1 := ⟨i - 1, by omega⟩
      rw [ins_gt (by omega)]
      exact h i' (by omega)
    · subst q2
      rw [ins_at]
      exact hlt _ (h2 a (Nat.le_refl a) (by omega))
set_option maxRecDepth 100000 in
set_option maxHeartbeats 4000000 in
theorem l_X3_sortSpots_18 {X : Pk} {Z : Zk} {I : SI} {J : SJ} (hA : AJ Z.2.2.1) (C : Cx X cX3_sortSpots 6 RX3 Z 1 40) {Q : State → Prop} {n kc : Nat} (hn9 : n ≤ 9) (hkc : kc ≤ 9) {c : Nat → Nat} {Kf : Nat → Nat → Nat} (hc : ∀ s, thr n s → I 11 0 s = nI (c s) ∧ c s < 18) (hK : ∀ s, thr n s → ∀ k, k < kc → I 16 s k = nI (Kf s k) ∧ Kf s k < 400) {m : Nat} (hm : m ≤ 18) {so : Nat → Nat} (hso : ∀ j, j < m → I 13 0 j = nI (so j) ∧ thr n (so j)) {i : Nat} (hi : i < m) {s : Nat → Nat} (ths : ∀ j, j < i → thr n (s j)) (hex : ∀ a (F : Nat → Nat → Int32), a ≤ i → (∀ j, j < a → F 0 j = nI (s j)) → (∀ j, a ≤ j → j < i → F 0 (j + 1) = nI (s j)) → (∀ j, i < j → j < m → F 0 j = nI (so j)) → (∀ j, a ≤ j → j < i → lx (kc + 1) (Qs c Kf (so i)) (Qs c Kf (s j))) → (a = 0 ∨ ¬ lx (kc + 1) (Qs c Kf (so i)) (Qs c Kf (s (a - 1)))) → G X 6 Z Q (sK I 13 F) J 64 [(0, .ref (Z.2.2.1 10 0)), (1, .int (nI m)), (2, .int (nI kc)), (3, .int (nI i)), (4, .int (nI (so i))), (5, .int (nI a))] []) : ∀ k a (F : Nat → Nat → Int32), a < k → a ≤ i → (∀ j, j < a → F 0 j = nI (s j)) → (∀ j, a ≤ j → j < i → F 0 (j + 1) = nI (s j)) → (∀ j, i < j → j < m → F 0 j = nI (so j)) → (∀ j, a ≤ j → j < i → lx (kc + 1) (Qs c Kf (so i)) (Qs c Kf (s j))) → G X 6 Z Q (sK I 13 F) J 18 [(0, .ref (Z.2.2.1 10 0)), (1, .int (nI m)), (2, .int (nI kc)), (3, .int (nI i)), (4, .int (nI (so i))), (5, .int (nI a))] [] := by
  intro k
  induction k with
  | zero => intro a F h; exact absurd h (by omega)
  | succ k ih =>
    intro a F hk ha hF1 hF2 hF3 h5
    have z1 := (hso i hi).2.1
    have z2 : 0 < a → s (a - 1) < 18 := fun h => (ths _ (by omega)).1
    refine g_ild C dX3_sortSpots_18 rfl ?_
    refine n_if_le (tgt := 64) C dX3_sortSpots_20 rfl (by omega) (fun c20 => ?_) (fun c20 => ?_)
    · refine g_lv [0, 1, 2, 3, 4, 5] rfl ?_
      exact hex a F (by omega) hF1 hF2 hF3 h5 (by first | exact Or.inl (by omega) | exact Or.inr (sgn_le hdd (Int32.not_lt.mpr c39)))
    · refine g_aldn C dX3_sortSpots_23 rfl ?_
      refine g_aldn C dX3_sortSpots_24 rfl ?_
      refine g_get C 10 0 (by decide) (by decide) u3 rfl 3 rfl fX3_18 rfl rfl dX3_sortSpots_25 ?_
      refine g_ild C dX3_sortSpots_28 rfl ?_
      refine g_iconst C ((nI 1)) dX3_sortSpots_30 (by decide) ?_
      refine g_isub (v := (nI (a - 1))) C dX3_sortSpots_31 (pk_sub (by omega)) ?_
      refine g_iald C 13 0 (by decide) (by decide) (fun _ _ => rfl) (a - 1) (show a - 1 < 18 by omega) rfl dX3_sortSpots_32 (v := (nI (s (a - 1)))) (by rw [sK_self]; exact hF1 (a - 1) (by omega)) ?_
      refine g_ild C dX3_sortSpots_33 rfl ?_
      refine g_ildn C dX3_sortSpots_35 rfl ?_
      refine g_callV (As := [.int (nI (s (a - 1))), .int (nI (so i)), .int (nI kc)]) (st := []) C (c_X3_difference hA hn9 hkc (c := c) (Kf := Kf) (fun u hu => by rw [sK_ne (by decide)]; exact hc u hu) (fun u hu => by rw [sK_ne (by decide)]; exact hK u hu) (ths (a - 1) (by omega)) (hso i hi).2) wX3_difference iX3_difference sX3_difference mX3_78 10 0 (by decide) (by decide) rfl rfl rfl rfl rfl rfl rfl rfl dX3_sortSpots_36 ?_
      rintro v9 I9 J9 ⟨⟨dd, h91, hdd⟩, h92, h93⟩
      rw [h91, h92, h93]
      clear h91 h92 h93 v9 I9 J9
      show G X _ Z _ (sK I 13 F) J 39 [(0, .ref (Z.2.2.1 10 0)), (1, .int (nI m)), (2, .int (nI kc)), (3, .int (nI i)), (4, .int (nI (so i))), (5, .int (nI a))] [.int dd]
      refine g_if_le (tgt := 64) C dX3_sortSpots_39 rfl (fun c39 => ?_) (fun c39 => ?_)
      · refine g_lv [0, 1, 2, 3, 4, 5] rfl ?_
        exact hex a F (by omega) hF1 hF2 hF3 h5 (by first | exact Or.inl (by omega) | exact Or.inr (sgn_le hdd (Int32.not_lt.mpr c39)))
      · refine g_aldn C dX3_sortSpots_42 rfl ?_
        refine g_get C 10 0 (by decide) (by decide) u3 rfl 3 rfl fX3_18 rfl rfl dX3_sortSpots_43 ?_
        refine g_ild C dX3_sortSpots_46 rfl ?_
        refine g_aldn C dX3_sortSpots_48 rfl ?_
        refine g_get C 10 0 (by decide) (by decide) u3 rfl 3 rfl fX3_18 rfl rfl dX3_sortSpots_49 ?_
        refine g_ild C dX3_sortSpots_52 rfl ?_
        refine g_iconst C ((nI 1)) dX3_sortSpots_54 (by decide) ?_
        refine g_isub (v := (nI (a - 1))) C dX3_sortSpots_55 (pk_sub (by omega)) ?_
        refine g_iald C 13 0 (by decide) (by decide) (fun _ _ => rfl) (a - 1) (show a - 1 < 18 by omega) rfl dX3_sortSpots_56 (v := (nI (s (a - 1)))) (by rw [sK_self]; exact hF1 (a - 1) (by omega)) ?_
        refine g_iast C 13 0 (by decide) (by decide) (fun _ _ => rfl) a (show a < 18 by omega) rfl dX3_sortSpots_57 ?_
        refine g_I (I1 := sK I 13 (up2 F 0 a (nI (s (a - 1))))) (by rw [sK_self, sK_sK]) ?_
        refine g_iinc (lv' := [(5, .int (nI (a - 1))), (0, .ref (Z.2.2.1 10 0)), (1, .int (nI m)), (2, .int (nI kc)), (3, .int (nI i)), (4, .int (nI (so i)))]) C ((nI (a - 1))) dX3_sortSpots_58 rfl (dec1 (by omega)) rfl rfl ?_
        refine g_goto (tgt := 18) C dX3_sortSpots_61 rfl ?_
        refine g_lv [1, 2, 3, 4, 5, 0] rfl ?_
        refine ih (a - 1) _ (by omega) (by omega) (fun j hj => by rw [up2_ne (by omega)]; exact hF1 j (by omega)) (fun j hj hj2 => ?_) (fun j hj hj2 => by rw [up2_ne (by omega)]; exact hF3 j hj hj2) (fun j hj hj2 => ?_)
        · by_cases e : j = a - 1
          · subst e; rw [show a - 1 + 1 = a by omega, up2_self]
          · rw [up2_ne (by omega)]; exact hF2 j (by omega) hj2
        · by_cases e : j = a - 1
          · subst e; exact sgn_gt hdd (Int32.not_le.mp c39)
          · exact h5 j (by omega) hj2

set_option maxRecDepth 100000 in
set_option maxHeartbeats 4000000 in
theorem l_X3_sortSpots_2 {X : Pk} {Z : Zk} {I : SI} {J : SJ} (hA : AJ Z.2.2.1) (C : Cx X cX3_sortSpots 6 RX3 Z 1 40) (hr : (xE X).sig.returnType = none) {n kc : Nat} (hn9 : n ≤ 9) (hkc : kc ≤ 9) {c : Nat → Nat} {Kf : Nat → Nat → Nat} (hc : ∀ s, thr n s → I 11 0 s = nI (c s) ∧ c s < 18) (hK : ∀ s, thr n s → ∀ k, k < kc → I 16 s k = nI (Kf s k) ∧ Kf s k < 400) {m : Nat} (hm : m ≤ 18) {so : Nat → Nat} (hso : ∀ j, j < m → I 13 0 j = nI (so j) ∧ thr n (so j)) (hm1 : 1 ≤ m) : ∀ k i (F : Nat → Nat → Int32) (s : Nat → Nat), m - i < k → i ≤ m → (∀ j, j < i → F 0 j = nI (s j) ∧ thr n (s j)) → (∀ j, i ≤ j → j < m → F 0 j = nI (so j)) → srtR (fun u w => lx (kc + 1) (Qs c Kf u) (Qs c Kf w)) s i → (∀ q : Nat → Bool, ct (fun j => q (s j)) i = ct (fun j => q (so j)) i) → G X 6 Z (QG X Z (fun v' I' J' => ∃ (F : Nat → Nat → Int32) (s : Nat → Nat), v' = none ∧ I' = sK I 13 F ∧ J' = J ∧ (∀ j, j < m → F 0 j = nI (s j) ∧ thr n (s j)) ∧ srtR (fun u w => lx (kc + 1) (Qs c Kf u) (Qs c Kf w)) s m ∧ ∀ q : Nat → Bool, ct (fun j => q (s j)) m = ct (fun j => q (so j)) m)) (sK I 13 F) J 2 [(0, .ref (Z.2.2.1 10 0)), (1, .int (nI m)), (2, .int (nI kc)), (3, .int (nI i))] [] := by
  intro k
  induction k with
  | zero => intro i F s h; exact absurd h (by omega)
  | succ k ih =>
    intro i F s hk him hF1 hF2 hsrt hct
    have z1 : i < m → so i < 18 := fun h => (hso i h).2.1
    refine g_ildn C dX3_sortSpots_2 rfl ?_
    refine g_ildn C dX3_sortSpots_3 rfl ?_
    refine n_icmp_ge (tgt := 79) C dX3_sortSpots_4 rfl (by omega) (by omega) (fun c4 => ?_) (fun c4 => ?_)
    · exact g_return C hr dX3_sortSpots_79 ⟨F, s, rfl, rfl, rfl, fun j hj => hF1 j (by omega), fun j hj => hsrt j (by omega), fun q => by rcases Nat.lt_or_ge m 1 with e | e; rw [show m = 0 by omega]; rfl; rw [show m = i by omega]; exact hct q⟩
    · refine g_aldn C dX3_sortSpots_7 rfl ?_
      refine g_get C 10 0 (by decide) (by decide) u3 rfl 3 rfl fX3_18 rfl rfl dX3_sortSpots_8 ?_
      refine g_ildn C dX3_sortSpots_11 rfl ?_
      refine g_iald C 13 0 (by decide) (by decide) (fun _ _ => rfl) i (show i < 18 by omega) rfl dX3_sortSpots_12 (v := (nI (so i))) (by rw [sK_self]; exact hF2 i (Nat.le_refl i) (by omega)) ?_
      refine g_ist (lv' := [(4, .int (nI (so i))), (0, .ref (Z.2.2.1 10 0)), (1, .int (nI m)), (2, .int (nI kc)), (3, .int (nI i))]) C dX3_sortSpots_13 rfl rfl ?_
      refine g_ildn C dX3_sortSpots_15 rfl ?_
      refine g_ist (lv' := [(5, .int (nI i)), (4, .int (nI (so i))), (0, .ref (Z.2.2.1 10 0)), (1, .int (nI m)), (2, .int (nI kc)), (3, .int (nI i))]) C dX3_sortSpots_16 rfl rfl ?_
      refine g_lv (lv1 := [(0, .ref (Z.2.2.1 10 0)), (1, .int (nI m)), (2, .int (nI kc)), (3, .int (nI i)), (4, .int (nI (so i))), (5, .int (nI i))]) [2, 3, 4, 5, 1, 0] rfl ?_
      refine l_X3_sortSpots_18 hA C hn9 hkc hc hK hm hso (show i < m by omega) (s := s) (fun j hj => (hF1 j hj).2) ?_ (i + 1) i F (by omega) (by omega) (fun j hj => (hF1 j hj).1) (fun j h1 h2 => absurd h1 (by omega)) (fun j h1 h2 => hF2 j (by omega) h2) (fun j h1 h2 => absurd h1 (by omega))
      have ths := fun j hj => (hF1 j hj).2
      clear hF1 hF2 F
      intro a F ha hF1 hF2 hF3 h5 h6
      refine g_aldn C dX3_sortSpots_64 rfl ?_
      refine g_get C 10 0 (by decide) (by decide) u3 rfl 3 rfl fX3_18 rfl rfl dX3_sortSpots_65 ?_
      refine g_ild C dX3_sortSpots_68 rfl ?_
      refine g_ild C dX3_sortSpots_70 rfl ?_
      refine g_iast C 13 0 (by decide) (by decide) (fun _ _ => rfl) a (show a < 18 by omega) rfl dX3_sortSpots_72 ?_
      refine g_I (I1 := sK I 13 (up2 F 0 a (nI (so i)))) (by rw [sK_self, sK_sK]) ?_
      refine g_iinc (lv' := [(3, .int (nI (i + 1))), (0, .ref (Z.2.2.1 10 0)), (1, .int (nI m)), (2, .int (nI kc)), (4, .int (nI (so i))), (5, .int (nI a))]) C ((nI (i + 1))) dX3_sortSpots_73 rfl (inc1 _) rfl rfl ?_
      refine g_goto (tgt := 2) C dX3_sortSpots_76 rfl ?_
      refine g_lv [1, 2, 3, 0] rfl ?_
      refine ih (i + 1) _ (ins s a (so i)) (by omega) (by omega) (fun j hj => ?_) (fun j h1 h2 => by rw [up2_ne (by omega)]; exact hF3 j (by omega) h2) (ins_srtR (fun u h1 h2 => lx_irr (lx_tr h1 h2)) hsrt (by omega) h6 h5) (fun q => by rw [ct_ins q s a (so i) i (by omega), hct q]; rfl)
      rcases Nat.lt_trichotomy j a with e | e | e
      · rw [ins_lt e, up2_ne (by omega)]; exact ⟨hF1 j e, ths j (by omega)⟩
      · subst e; rw [ins_at, up2_self]; exact ⟨rfl, (hso i (by omega)).2⟩
      · obtain ⟨j2, rfl⟩ : ∃ j2, j = j2 + 1 := ⟨j - 1, by omega⟩
        rw [ins_gt (by omega), up2_ne (by omega)]; exact ⟨hF2 j2 (by omega) (by omega), ths j2 (by omega)⟩

set_option maxRecDepth 100000 in
set_option maxHeartbeats 4000000 in
/-- sortSpots -/
theorem c_X3_sortSpots {l : Launch} {Y : Yk} (hA : AJ Y.2.2) {I : SI} {J : SJ} {n kc : Nat} (hn9 : n ≤ 9) (hkc : kc ≤ 9) {c : Nat → Nat} {Kf : Nat → Nat → Nat} (hc : ∀ s, thr n s → I 11 0 s = nI (c s) ∧ c s < 18) (hK : ∀ s, thr n s → ∀ k, k < kc → I 16 s k = nI (Kf s k) ∧ Kf s k < 400) {m : Nat} (hm : m ≤ 18) {so : Nat → Nat} (hso : ∀ j, j < m → I 13 0 j = nI (so j) ∧ thr n (so j)) (hm1 : 1 ≤ m) : MX l Y yX3_sortSpots cX3_sortSpots 6 (none) 1 40 [.ref (Y.2.2 10 0), .int (nI m), .int (nI kc)] I J (fun v' I' J' => ∃ (F : Nat → Nat → Int32) (s : Nat → Nat), v' = none ∧ I' = sK I 13 F ∧ J' = J ∧ (∀ j, j < m → F 0 j = nI (s j) ∧ thr n (s j)) ∧ srtR (fun u w => lx (kc + 1) (Qs c Kf u) (Qs c Kf w)) s m ∧ ∀ q : Nat → Bool, ct (fun j => q (s j)) m = ct (fun j => q (so j)) m) := by
  refine MX.of hA (by decide) (own := RX3) rfl rfl rfl ?_
  intro X Z hl hY1 hY2 hY3 C hr
  obtain ⟨D0, ca0, ad0⟩ := Y
  dsimp only at hA hY1 hY2 hY3
  subst hY1; subst hY2; subst hY3; subst hl
  show G X 6 Z (QG X Z _) I J 0 [(0, .ref (Z.2.2.1 10 0)), (1, .int (nI m)), (2, .int (nI kc))] []
  refine g_iconst C ((nI 1)) dX3_sortSpots_0 (by decide) ?_
  refine g_istn (lv' := [(3, .int (nI 1)), (0, .ref (Z.2.2.1 10 0)), (1, .int (nI m)), (2, .int (nI kc))]) C dX3_sortSpots_1 rfl rfl ?_
  refine g_lv [1, 2, 3, 0] rfl ?_
  refine g_I (I1 := sK I 13 (I 13)) (sK_id _ _).symm ?_
  exact l_X3_sortSpots_2 hA C hr hn9 hkc hc hK hm hso hm1 (m + 1) 1 (I 13) so (by omega) (by omega) (fun j hj => hso j (by omega)) (fun j _ hj => (hso j hj).1) (fun i hi => absurd hi (by omega)) (fun q => rfl)

