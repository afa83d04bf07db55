/-! ===== the reference: part, compareRows, write, form, compare ===== -/
theorem dg_0 {T : Nat → Nat → Nat} {L : Nat → Nat → Nat → Nat} {g : Nat} {f : Nat → Nat} {i : Nat} : dg T L g f i 0 = T g (f i) := rfl
theorem dg_o (T : Nat → Nat → Nat) (L : Nat → Nat → Nat → Nat) (g : Nat) (f : Nat → Nat) (i j : Nat) : dg T L g f i (1 + 2 * j) = L g (f i) (f j) := by
  unfold dg
  rw [if_neg (by omega), if_pos (by omega), show (1 + 2 * j - 1) / 2 = j by omega]
theorem dg_e (T : Nat → Nat → Nat) (L : Nat → Nat → Nat → Nat) (g : Nat) (f : Nat → Nat) (i j : Nat) : dg T L g f i (2 + 2 * j) = L g (f j) (f i) := by
  unfold dg
  rw [if_neg (by omega), if_neg (by omega), show (2 + 2 * j - 2) / 2 = j by omega]
theorem dg_congr {T : Nat → Nat → Nat} {L : Nat → Nat → Nat → Nat} {g : Nat} {f f' : Nat → Nat} {i m : Nat} (hm : m ≤ 2 * i) (h : ∀ a, a ≤ i → f a = f' a) : dg T L g f i m = dg T L g f' i m := by
  unfold dg
  by_cases e : m = 0
  · rw [if_pos e, if_pos e, h i (Nat.le_refl i)]
  · rw [if_neg e, if_neg e, h i (Nat.le_refl i), h ((m - 1) / 2) (by omega), h ((m - 2) / 2) (by omega)]
theorem dg4 {n : Nat} {T : Nat → Nat → Nat} {L : Nat → Nat → Nat → Nat} {g : Nat} {f : Nat → Nat} {i m : Nat} (h4 : sm4 n T L g) (hm : m ≤ 2 * i) (h : ∀ a, a ≤ i → f a < n) : dg T L g f i m < 4 := by
  unfold dg
  by_cases e : m = 0
  · rw [if_pos e]; exact h4.1 _ (h i (Nat.le_refl i))
  · rw [if_neg e]
    split
    · exact h4.2 _ _ (h i (Nat.le_refl i)) (h _ (by omega))
    · exact h4.2 _ _ (h _ (by omega)) (h i (Nat.le_refl i))
theorem isq_m {k : Nat} : k - isq k * isq k ≤ 2 * isq k ∧ isq k * isq k + (k - isq k * isq k) = k := by
  obtain ⟨h1, h2⟩ := isq_sp k
  rw [Nat.add_mul, Nat.mul_add] at h2
  omega
theorem Df_at {T : Nat → Nat → Nat} {L : Nat → Nat → Nat → Nat} {g : Nat} {f : Nat → Nat} {r m : Nat} (h : m ≤ 2 * r) : Df T L g f (r * r + m) = dg T L g f r m := by
  unfold Df
  rw [isq_at h, show r * r + m - r * r = m by omega]
theorem Df_congr {T : Nat → Nat → Nat} {L : Nat → Nat → Nat → Nat} {g : Nat} {f f' : Nat → Nat} {d : Nat} (h : ∀ a, a < d → f a = f' a) {k : Nat} (hk : k < d * d) : Df T L g f k = Df T L g f' k := by
  unfold Df
  have := isq_lt hk
  exact dg_congr isq_m.1 (fun a ha => h a (by omega))
theorem Df4 {n : Nat} {T : Nat → Nat → Nat} {L : Nat → Nat → Nat → Nat} {g : Nat} {f : Nat → Nat} {d k : Nat} (h4 : sm4 n T L g) (h : ∀ a, a < d → f a < n) (hk : k < d * d) : Df T L g f k < 4 := by
  have := isq_lt hk
  exact dg4 h4 isq_m.1 (fun a ha => h a (by omega))
theorem lx_len {m n : Nat} {A B A' B' : Nat → Nat} (hmn : m ≤ n) (h : lx m A B) (ha : ∀ k, k < m → A k = A' k) (hb : ∀ k, k < m → B k = B' k) : lx n A' B' := by
  obtain ⟨k, h1, h2, h3⟩ := h
  exact ⟨k, by omega, fun j hj => by rw [← ha j (by omega), ← hb j (by omega)]; exact h2 j hj, by rw [← ha k h1, ← hb k h1]; exact h3⟩
theorem pt_step {T : Nat → Nat → Nat} {L : Nat → Nat → Nat → Nat} {g i j : Nat} {f : Nat → Nat} {R : Nat → Nat → Int32} (h : ∀ m, m ≤ 2 * j → R 0 (i * i + m) = nI (dg T L g f i m)) : ∀ m, m ≤ 2 * (j + 1) → (up2 (up2 R 0 (i * i + 1 + 2 * j) (nI (L g (f i) (f j)))) 0 (i * i + 2 + 2 * j) (nI (L g (f j) (f i)))) 0 (i * i + m) = nI (dg T L g f i m) := fun m hm => by
  rw [up2_at, up2_at]
  by_cases e : m = 2 + 2 * j
  · rw [if_pos ⟨rfl, by omega⟩, e, dg_e]
  · rw [if_neg (fun q => e (by omega))]
    by_cases e1 : m = 1 + 2 * j
    · rw [if_pos ⟨rfl, by omega⟩, e1, dg_o]
    · rw [if_neg (fun q => e1 (by omega))]
      exact h m (by omega)
set_option maxRecDepth 100000 in
set_option maxHeartbeats 4000000 in
theorem l_X6_part_30 {X : Pk} {Z : Zk} {I : SI} {J : SJ} (hA : AJ Z.2.2.1) (C : Cx X cX6_part 5 RX6 Z 1 60) (hr : (xE X).sig.returnType = none) {n : Nat} {T : Nat → Nat → Nat} {L : Nat → Nat → Nat → Nat} (hv : MV I n T L) {g i : Nat} (hg : g < 2) (hi : i < n) {f : Nat → Nat} (hf : ∀ a, a ≤ i → I 31 0 a = nI (f a) ∧ f a < n) : ∀ (k : Nat) (j : Nat) (R : Nat → Nat → Int32), i - j < k → (j ≤ i) → (∀ k, k < i * i → R 0 k = I 35 0 k) → (∀ m, m ≤ 2 * j → R 0 (i * i + m) = nI (dg T L g f i m)) → G X 5 Z (QG X Z (fun v' I' J' => ∃ R : Nat → Nat → Int32, v' = none ∧ I' = sK I 35 R ∧ J' = J ∧ (∀ k, k < i * i → R 0 k = I 35 0 k) ∧ ∀ m, m ≤ 2 * i → R 0 (i * i + m) = nI (dg T L g f i m))) (sK I 35 R) (J) 30 [(0, .ref (Z.2.2.1 27 0)), (1, .int (nI g)), (2, .int (nI i)), (3, .int (nI (i * i))), (4, .int (nI j))] [] := by
  obtain ⟨⟨hn1, hn9⟩, -⟩ := id hv
  intro k
  induction k with
  | zero => intro j R h; exact absurd h (by omega)
  | succ k ih =>
    intro j R hk hj hlo hR
    have hii : i * i ≤ 8 * 8 := Nat.mul_le_mul (by omega) (by omega)
    refine g_ild C dX6_part_30 rfl ?_
    refine g_ildn C dX6_part_32 rfl ?_
    refine n_icmp_ge (tgt := 104) C dX6_part_33 rfl (by omega) (by omega) (fun c_1 => ?_) (fun c_1 => ?_)
    · exact g_return C hr dX6_part_104 ⟨R, rfl, rfl, rfl, hlo, fun m hm => hR m (by omega)⟩
    · refine g_aldn C dX6_part_36 rfl ?_
      refine g_get C 27 0 (by decide) (by decide) u6 rfl 9 rfl fX6_36 rfl rfl dX6_part_37 ?_
      refine g_ildn C dX6_part_40 rfl ?_
      refine g_iconst C ((nI 1)) dX6_part_41 (by decide) ?_
      refine g_iadd (v := (nI (i * i + 1))) C dX6_part_42 (nI_add _ _) ?_
      refine g_iconst C ((nI 2)) dX6_part_43 (by decide) ?_
      refine g_ild C dX6_part_44 rfl ?_
      refine g_imul (v := (nI (2 * j))) C dX6_part_46 (pk_mul _ _) ?_
      refine g_iadd (v := (nI (i * i + 1 + 2 * j))) C dX6_part_47 (nI_add _ _) ?_
      refine g_aldn C dX6_part_48 rfl ?_
      refine g_ildn C dX6_part_49 rfl ?_
      refine g_aldn C dX6_part_50 rfl ?_
      refine g_get C 27 0 (by decide) (by decide) u6 rfl 5 rfl fX6_23 rfl rfl dX6_part_51 ?_
      refine g_ildn C dX6_part_54 rfl ?_
      refine g_iald C 31 0 (by decide) (by decide) (fun _ _ => rfl) i (show i < 9 by omega) rfl dX6_part_55 (v := (nI (f i))) (by rw [sK_ne (by decide)]; exact (hf i (by omega)).1) ?_
      refine g_aldn C dX6_part_56 rfl ?_
      refine g_get C 27 0 (by decide) (by decide) u6 rfl 5 rfl fX6_23 rfl rfl dX6_part_57 ?_
      refine g_ild C dX6_part_60 rfl ?_
      refine g_iald C 31 0 (by decide) (by decide) (fun _ _ => rfl) j (show j < 9 by omega) rfl dX6_part_62 (v := (nI (f j))) (by rw [sK_ne (by decide)]; exact (hf j (by omega)).1) ?_
      refine g_callV (As := [.int (nI g), .int (nI (f i)), .int (nI (f j))]) (st := [.int (nI (i * i + 1 + 2 * j)), .ref (Z.2.2.1 35 0)]) C (c_X6_labelOf hA (hv.of (I' := sK I 35 R) (by rw [sK_ne (by decide)]) (sK_ne (by decide)) (sK_ne (by decide))) (show g < 2 by omega) (show f i < n by first | exact (hf i (by omega)).2 | exact (hf j (by omega)).2) (show f j < n by first | exact (hf j (by omega)).2 | exact (hf i (by omega)).2)) wX6_labelOf iX6_labelOf sX6_labelOf mX6_62 27 0 (by decide) (by decide) rfl rfl rfl rfl rfl rfl rfl rfl dX6_part_63 ?_
      rintro v9 I9 J9 ⟨h91, h92, h93⟩
      rw [h91, h92, h93]
      clear h91 h92 h93 v9 I9 J9
      show G X _ Z _ (sK I 35 R) J 66 [(0, .ref (Z.2.2.1 27 0)), (1, .int (nI g)), (2, .int (nI i)), (3, .int (nI (i * i))), (4, .int (nI j))] [.int (nI (L g (f i) (f j))), .int (nI (i * i + 1 + 2 * j)), .ref (Z.2.2.1 35 0)]
      refine g_iast C 35 0 (by decide) (by decide) (fun _ _ => rfl) (i * i + 1 + 2 * j) (show i * i + 1 + 2 * j < 81 by omega) rfl dX6_part_66 ?_
      refine g_I (I1 := sK I 35 (up2 R 0 (i * i + 1 + 2 * j) (nI (L g (f i) (f j))))) (by rw [sK_self, sK_sK]) ?_
      refine g_aldn C dX6_part_67 rfl ?_
      refine g_get C 27 0 (by decide) (by decide) u6 rfl 9 rfl fX6_36 rfl rfl dX6_part_68 ?_
      refine g_ildn C dX6_part_71 rfl ?_
      refine g_iconst C ((nI 2)) dX6_part_72 (by decide) ?_
      refine g_iadd (v := (nI (i * i + 2))) C dX6_part_73 (nI_add _ _) ?_
      refine g_iconst C ((nI 2)) dX6_part_74 (by decide) ?_
      refine g_ild C dX6_part_75 rfl ?_
      refine g_imul (v := (nI (2 * j))) C dX6_part_77 (pk_mul _ _) ?_
      refine g_iadd (v := (nI (i * i + 2 + 2 * j))) C dX6_part_78 (nI_add _ _) ?_
      refine g_aldn C dX6_part_79 rfl ?_
      refine g_ildn C dX6_part_80 rfl ?_
      refine g_aldn C dX6_part_81 rfl ?_
      refine g_get C 27 0 (by decide) (by decide) u6 rfl 5 rfl fX6_23 rfl rfl dX6_part_82 ?_
      refine g_ild C dX6_part_85 rfl ?_
      refine g_iald C 31 0 (by decide) (by decide) (fun _ _ => rfl) j (show j < 9 by omega) rfl dX6_part_87 (v := (nI (f j))) (by rw [sK_ne (by decide)]; exact (hf j (by omega)).1) ?_
      refine g_aldn C dX6_part_88 rfl ?_
      refine g_get C 27 0 (by decide) (by decide) u6 rfl 5 rfl fX6_23 rfl rfl dX6_part_89 ?_
      refine g_ildn C dX6_part_92 rfl ?_
      refine g_iald C 31 0 (by decide) (by decide) (fun _ _ => rfl) i (show i < 9 by omega) rfl dX6_part_93 (v := (nI (f i))) (by rw [sK_ne (by decide)]; exact (hf i (by omega)).1) ?_
      refine g_callV (As := [.int (nI g), .int (nI (f j)), .int (nI (f i))]) (st := [.int (nI (i * i + 2 + 2 * j)), .ref (Z.2.2.1 35 0)]) C (c_X6_labelOf hA (hv.of (I' := sK I 35 (up2 R 0 (i * i + 1 + 2 * j) (nI (L g (f i) (f j))))) (by rw [sK_ne (by decide)]) (sK_ne (by decide)) (sK_ne (by decide))) (show g < 2 by omega) (show f j < n by first | exact (hf i (by omega)).2 | exact (hf j (by omega)).2) (show f i < n by first | exact (hf j (by omega)).2 | exact (hf i (by omega)).2)) wX6_labelOf iX6_labelOf sX6_labelOf mX6_62 27 0 (by decide) (by decide) rfl rfl rfl rfl rfl rfl rfl rfl dX6_part_94 ?_
      rintro v9 I9 J9 ⟨h91, h92, h93⟩
      rw [h91, h92, h93]
      clear h91 h92 h93 v9 I9 J9
      show G X _ Z _ (sK I 35 (up2 R 0 (i * i + 1 + 2 * j) (nI (L g (f i) (f j))))) J 97 [(0, .ref (Z.2.2.1 27 0)), (1, .int (nI g)), (2, .int (nI i)), (3, .int (nI (i * i))), (4, .int (nI j))] [.int (nI (L g (f j) (f i))), .int (nI (i * i + 2 + 2 * j)), .ref (Z.2.2.1 35 0)]
      refine g_iast C 35 0 (by decide) (by decide) (fun _ _ => rfl) (i * i + 2 + 2 * j) (show i * i + 2 + 2 * j < 81 by omega) rfl dX6_part_97 ?_
      refine g_I (I1 := sK I 35 (up2 (up2 R 0 (i * i + 1 + 2 * j) (nI (L g (f i) (f j)))) 0 (i * i + 2 + 2 * j) (nI (L g (f j) (f i))))) (by rw [sK_self, sK_sK]) ?_
      refine g_iinc (lv' := [(4, .int (nI (j + 1))), (0, .ref (Z.2.2.1 27 0)), (1, .int (nI g)), (2, .int (nI i)), (3, .int (nI (i * i)))]) C ((nI (j + 1))) dX6_part_98 rfl (inc1 _) rfl rfl ?_
      refine g_goto (tgt := 30) C dX6_part_101 rfl ?_
      refine g_lv [1, 2, 3, 4, 0] rfl ?_
      exact ih (j + 1) _ (by omega) (by omega) (fun k hk => by rw [up2_ne (by omega), up2_ne (by omega)]; exact hlo k hk) (pt_step hR)

set_option maxRecDepth 100000 in
set_option maxHeartbeats 4000000 in
/-- part -/
theorem c_X6_part {l : Launch} {Y : Yk} (hA : AJ Y.2.2) {I : SI} {J : SJ} {n : Nat} {T : Nat → Nat → Nat} {L : Nat → Nat → Nat → Nat} (hv : MV I n T L) {g i : Nat} (hg : g < 2) (hi : i < n) {f : Nat → Nat} (hf : ∀ a, a ≤ i → I 31 0 a = nI (f a) ∧ f a < n)  : MX l Y yX6_part cX6_part 5 (none) 1 60 [.ref (Y.2.2 27 0), .int (nI g), .int (nI i)] I J (fun v' I' J' => ∃ R : Nat → Nat → Int32, v' = none ∧ I' = sK I 35 R ∧ J' = J ∧ (∀ k, k < i * i → R 0 k = I 35 0 k) ∧ ∀ m, m ≤ 2 * i → R 0 (i * i + m) = nI (dg T L g f i m)) := by
  refine MX.of hA (by decide) (own := RX6) rfl rfl rfl ?_
  intro X Z hl hY1 hY2 hY3 C hr
  obtain ⟨D0, ca0, ad0⟩ := Y
  dsimp only at hA hY1 hY2 hY3
  subst hY1; subst hY2; subst hY3; subst hl
  show G X 5 Z (QG X Z _) I J 0 [(0, .ref (Z.2.2.1 27 0)), (1, .int (nI g)), (2, .int (nI i))] []
  obtain ⟨⟨hn1, hn9⟩, -⟩ := id hv
  have hii : i * i ≤ 8 * 8 := Nat.mul_le_mul (by omega) (by omega)
  have hfi := (hf i (Nat.le_refl i)).2
  refine g_ildn C dX6_part_0 rfl ?_
  refine g_callS (As := [.int (nI i)]) (st := []) C (c_X6_sizeOf hA (i := i)) wX6_sizeOf tX6_sizeOf mX6_107 rfl rfl rfl rfl dX6_part_1 ?_
  rintro v9 I9 J9 ⟨h91, h92, h93⟩
  rw [h91, h92, h93]
  clear h91 h92 h93 v9 I9 J9
  show G X _ Z _ I J 4 [(0, .ref (Z.2.2.1 27 0)), (1, .int (nI g)), (2, .int (nI i))] [.int (nI (i * i))]
  refine g_istn (lv' := [(3, .int (nI (i * i))), (0, .ref (Z.2.2.1 27 0)), (1, .int (nI g)), (2, .int (nI i))]) C dX6_part_4 rfl rfl ?_
  refine g_aldn C dX6_part_5 rfl ?_
  refine g_get C 27 0 (by decide) (by decide) u6 rfl 9 rfl fX6_36 rfl rfl dX6_part_6 ?_
  refine g_ildn C dX6_part_9 rfl ?_
  refine g_aldn C dX6_part_10 rfl ?_
  refine g_get C 27 0 (by decide) (by decide) u6 rfl 2 rfl fX6_17 rfl rfl dX6_part_11 ?_
  refine g_bipush C ((nI 9)) dX6_part_14 (by decide) ?_
  refine g_ildn C dX6_part_16 rfl ?_
  refine g_imul (v := (nI (9 * g))) C dX6_part_17 (pk_mul _ _) ?_
  refine g_aldn C dX6_part_18 rfl ?_
  refine g_get C 27 0 (by decide) (by decide) u6 rfl 5 rfl fX6_23 rfl rfl dX6_part_19 ?_
  refine g_ildn C dX6_part_22 rfl ?_
  refine g_iald C 31 0 (by decide) (by decide) (fun _ _ => rfl) i (show i < 9 by omega) rfl dX6_part_23 (v := (nI (f i))) (hf i (by omega)).1 ?_
  refine g_iadd (v := (nI (9 * g + f i))) C dX6_part_24 (nI_add _ _) ?_
  refine g_iald C 29 0 (by decide) (by decide) (fun _ _ => rfl) (9 * g + f i) (show 9 * g + f i < 18 by omega) rfl dX6_part_25 (v := (nI (T g (f i)))) (hv.t hg (hf i (by omega)).2) ?_
  refine g_iast C 35 0 (by decide) (by decide) (fun _ _ => rfl) (i * i) (show i * i < 81 by omega) rfl dX6_part_26 ?_
  refine g_I (I1 := sK I 35 (up2 (I 35) 0 (i * i) (nI (T g (f i))))) rfl ?_
  refine g_iconst C ((nI 0)) dX6_part_27 (by decide) ?_
  refine g_ist (lv' := [(4, .int (nI 0)), (3, .int (nI (i * i))), (0, .ref (Z.2.2.1 27 0)), (1, .int (nI g)), (2, .int (nI i))]) C dX6_part_28 rfl rfl ?_
  refine g_lv [2, 3, 4, 1, 0] rfl ?_
  exact l_X6_part_30 hA C hr hv hg hi hf (i + 1) 0 _ (by omega) (by omega) (fun k hk => by rw [up2_ne (by omega)]) (fun m hm => by rw [show i * i + m = i * i by omega, up2_self, show m = 0 by omega]; rfl)

set_option maxRecDepth 100000 in
set_option maxHeartbeats 4000000 in
theorem l_X6_compareRows_2 {X : Pk} {Z : Zk} {I : SI} {J : SJ} (hA : AJ Z.2.2.1) (C : Cx X cX6_compareRows 4 RX6 Z 0 0) (hr : (xE X).sig.returnType = some .int) {g sz : Nat} (hg : g < 2) (hsz : sz ≤ 81) {A B : Nat → Nat} (hA1 : ∀ k, k < sz → I 35 0 k = nI (A k) ∧ A k < 4) (hB1 : ∀ k, k < sz → I 34 0 (81 * g + k) = nI (B k) ∧ B k < 4) : ∀ (k : Nat) (k2 : Nat), sz - k2 < k → (k2 ≤ sz) → (∀ j, j < k2 → A j = B j) → G X 4 Z (QG X Z (fun v' I' J' => (∃ c : Int32, v' = some (.int c) ∧ ((c = -1 ∧ lx sz A B) ∨ (c = 0 ∧ ∀ k, k < sz → A k = B k) ∨ (c = 1 ∧ lx sz B A))) ∧ I' = I ∧ J' = J)) (I) (J) 2 [(0, .ref (Z.2.2.1 27 0)), (1, .int (nI g)), (2, .int (nI sz)), (3, .int (nI k2))] [] := by
  intro k
  induction k with
  | zero => intro k2 h; exact absurd h (by omega)
  | succ k ih =>
    intro k2 hk hk2 hin
    have a4 : k2 < sz → A k2 < 4 := fun h => (hA1 k2 h).2
    have b4 : k2 < sz → B k2 < 4 := fun h => (hB1 k2 h).2
    refine g_ildn C dX6_compareRows_2 rfl ?_
    refine g_ildn C dX6_compareRows_3 rfl ?_
    refine n_icmp_ge (tgt := 59) C dX6_compareRows_4 rfl (by omega) (by omega) (fun c4 => ?_) (fun c4 => ?_)
    · refine g_iconst C ((nI 0)) dX6_compareRows_59 (by decide) ?_
      exact g_ireturn C hr dX6_compareRows_60 ⟨⟨0, rfl, Or.inr (Or.inl ⟨rfl, fun k hk => hin k (by omega)⟩)⟩, rfl, rfl⟩
    · refine g_aldn C dX6_compareRows_7 rfl ?_
      refine g_get C 27 0 (by decide) (by decide) u6 rfl 9 rfl fX6_36 rfl rfl dX6_compareRows_8 ?_
      refine g_ildn C dX6_compareRows_11 rfl ?_
      refine g_iald C 35 0 (by decide) (by decide) (fun _ _ => rfl) k2 (show k2 < 81 by omega) rfl dX6_compareRows_12 (v := (nI (A k2))) (hA1 k2 (by omega)).1 ?_
      refine g_aldn C dX6_compareRows_13 rfl ?_
      refine g_get C 27 0 (by decide) (by decide) u6 rfl 8 rfl fX6_33 rfl rfl dX6_compareRows_14 ?_
      refine g_bipush C ((nI 81)) dX6_compareRows_17 (by decide) ?_
      refine g_ildn C dX6_compareRows_19 rfl ?_
      refine g_imul (v := (nI (81 * g))) C dX6_compareRows_20 (pk_mul _ _) ?_
      refine g_ildn C dX6_compareRows_21 rfl ?_
      refine g_iadd (v := (nI (81 * g + k2))) C dX6_compareRows_22 (nI_add _ _) ?_
      refine g_iald C 34 0 (by decide) (by decide) (fun _ _ => rfl) (81 * g + k2) (show 81 * g + k2 < 162 by omega) rfl dX6_compareRows_23 (v := (nI (B k2))) (hB1 k2 (by omega)).1 ?_
      refine n_icmp_eq (tgt := 53) C dX6_compareRows_24 rfl (by omega) (by omega) (fun c24 => ?_) (fun c24 => ?_)
      · refine g_iinc (lv' := [(3, .int (nI (k2 + 1))), (0, .ref (Z.2.2.1 27 0)), (1, .int (nI g)), (2, .int (nI sz))]) C ((nI (k2 + 1))) dX6_compareRows_53 rfl (inc1 _) rfl rfl ?_
        refine g_goto (tgt := 2) C dX6_compareRows_56 rfl ?_
        refine g_lv [1, 2, 3, 0] rfl ?_
        exact ih (k2 + 1) (by omega) (by omega) (fun a ha => (Nat.lt_or_eq_of_le (Nat.le_of_lt_succ ha)).elim (hin a) (fun e => by rw [e]; exact c24))
      · refine g_aldn C dX6_compareRows_27 rfl ?_
        refine g_get C 27 0 (by decide) (by decide) u6 rfl 9 rfl fX6_36 rfl rfl dX6_compareRows_28 ?_
        refine g_ildn C dX6_compareRows_31 rfl ?_
        refine g_iald C 35 0 (by decide) (by decide) (fun _ _ => rfl) k2 (show k2 < 81 by omega) rfl dX6_compareRows_32 (v := (nI (A k2))) (hA1 k2 (by omega)).1 ?_
        refine g_aldn C dX6_compareRows_33 rfl ?_
        refine g_get C 27 0 (by decide) (by decide) u6 rfl 8 rfl fX6_33 rfl rfl dX6_compareRows_34 ?_
        refine g_bipush C ((nI 81)) dX6_compareRows_37 (by decide) ?_
        refine g_ildn C dX6_compareRows_39 rfl ?_
        refine g_imul (v := (nI (81 * g))) C dX6_compareRows_40 (pk_mul _ _) ?_
        refine g_ildn C dX6_compareRows_41 rfl ?_
        refine g_iadd (v := (nI (81 * g + k2))) C dX6_compareRows_42 (nI_add _ _) ?_
        refine g_iald C 34 0 (by decide) (by decide) (fun _ _ => rfl) (81 * g + k2) (show 81 * g + k2 < 162 by omega) rfl dX6_compareRows_43 (v := (nI (B k2))) (hB1 k2 (by omega)).1 ?_
        refine n_icmp_ge (tgt := 51) C dX6_compareRows_44 rfl (by omega) (by omega) (fun c44 => ?_) (fun c44 => ?_)
        · refine g_iconst C ((nI 1)) dX6_compareRows_51 (by decide) ?_
          exact g_ireturn C hr dX6_compareRows_52 ⟨⟨1, rfl, Or.inr (Or.inr ⟨rfl, k2, by omega, fun j hj => (hin j hj).symm, by omega⟩)⟩, rfl, rfl⟩
        · refine g_iconst C ((-1)) dX6_compareRows_47 (by decide) ?_
          refine g_goto (tgt := 52) C dX6_compareRows_48 rfl ?_
          exact g_ireturn C hr dX6_compareRows_52 ⟨⟨-1, rfl, Or.inl ⟨rfl, k2, by omega, hin, by omega⟩⟩, rfl, rfl⟩

set_option maxRecDepth 100000 in
set_option maxHeartbeats 4000000 in
/-- compareRows -/
theorem c_X6_compareRows {l : Launch} {Y : Yk} (hA : AJ Y.2.2) {I : SI} {J : SJ} {g sz : Nat} (hg : g < 2) (hsz : sz ≤ 81) {A B : Nat → Nat} (hA1 : ∀ k, k < sz → I 35 0 k = nI (A k) ∧ A k < 4) (hB1 : ∀ k, k < sz → I 34 0 (81 * g + k) = nI (B k) ∧ B k < 4)  : MX l Y yX6_compareRows cX6_compareRows 4 (some .int) 0 0 [.ref (Y.2.2 27 0), .int (nI g), .int (nI sz)] I J (fun v' I' J' => (∃ c : Int32, v' = some (.int c) ∧ ((c = -1 ∧ lx sz A B) ∨ (c = 0 ∧ ∀ k, k < sz → A k = B k) ∨ (c = 1 ∧ lx sz B A))) ∧ I' = I ∧ J' = J) := by
  refine MX.of hA (by decide) (own := RX6) rfl rfl rfl ?_
  intro X Z hl hY1 hY2 hY3 C hr
  obtain ⟨D0, ca0, ad0⟩ := Y
  dsimp only at hA hY1 hY2 hY3
  subst hY1; subst hY2; subst hY3; subst hl
  show G X 4 Z (QG X Z _) I J 0 [(0, .ref (Z.2.2.1 27 0)), (1, .int (nI g)), (2, .int (nI sz))] []
  refine g_iconst C ((nI 0)) dX6_compareRows_0 (by decide) ?_
  refine g_istn (lv' := [(3, .int (nI 0)), (0, .ref (Z.2.2.1 27 0)), (1, .int (nI g)), (2, .int (nI sz))]) C dX6_compareRows_1 rfl rfl ?_
  refine g_lv [1, 2, 3, 0] rfl ?_
  exact l_X6_compareRows_2 hA C hr hg hsz hA1 hB1 (sz + 1) 0 (by omega) (by omega) (fun j hj => absurd hj (by omega))

/-- where a writing stands: f's first i vertices, w next; what lies before has Cv -/
def WC (n : Nat) (Cv : (Nat → Nat) → Prop) (f : Nat → Nat) (i w : Nat) : Prop := i < n ∧ w ≤ n ∧ (∀ a, a < i → f a < n ∧ ∀ b, b < a → f b ≠ f a) ∧ ∀ f2, nmg n f2 → Cv f2 ∨ ¬ lx (i + 1) f2 (va_up f i w)
theorem WC.none {n : Nat} {Cv : (Nat → Nat) → Prop} {f : Nat → Nat} {w : Nat} (h : WC n Cv f 0 w) (hw : n ≤ w) : ∀ f2, nmg n f2 → Cv f2 := fun f2 h2 => by
  rcases h.2.2.2 f2 h2 with q | q
  · exact q
  · refine absurd ⟨0, by omega, fun j hj => absurd hj (Nat.not_lt_zero j), ?_⟩ q
    rw [va_up_self]
    have := h2.1 0 h.1
    omega
theorem WC.back {n : Nat} {Cv : (Nat → Nat) → Prop} {f : Nat → Nat} {i w : Nat} (h : WC n Cv f (i + 1) w) (hw : n ≤ w) : WC n Cv f i (f i + 1) := by
  obtain ⟨h1, h2, h3, h4⟩ := h
  refine ⟨by omega, (h3 i (by omega)).1, fun a ha => h3 a (by omega), fun f2 hf => ?_⟩
  rcases h4 f2 hf with q | q
  · exact Or.inl q
  · refine Or.inr (fun z => ?_)
    have := (lx_back z q).2
    have := hf.1 (i + 1) h1
    omega
theorem WC.inc {n : Nat} {Cv Cv' : (Nat → Nat) → Prop} {f : Nat → Nat} {i w : Nat} (h : WC n Cv f i w) (hw : w < n) (hm : ∀ f2, nmg n f2 → Cv f2 → Cv' f2) (hc : ∀ f2, nmg n f2 → (∀ a, a < i + 1 → f2 a = va_up f i w a) → Cv' f2) : WC n Cv' f i (w + 1) := by
  obtain ⟨h1, h2, h3, h4⟩ := h
  refine ⟨h1, by omega, h3, fun f2 hf => ?_⟩
  rcases h4 f2 hf with q | q
  · exact Or.inl (hm f2 hf q)
  · cases hd : dc (lx (i + 1) f2 (va_up f i (w + 1))) with
    | false => exact Or.inr (fun z => by rw [dc_t.mpr z] at hd; exact absurd hd (by decide))
    | true =>
      obtain ⟨a1, a2⟩ := lx_inc (dc_t.mp hd) q
      refine Or.inl (hc f2 hf (fun a ha => ?_))
      by_cases e : a = i
      · rw [e, va_up_self]; exact a2
      · rw [va_up_ne _ _ e]; exact a1 a (by omega)
theorem WC.inj {n : Nat} {Cv : (Nat → Nat) → Prop} {f : Nat → Nat} {i w : Nat} (h : WC n Cv f i w) (hw : w < n) (hu : ∀ a, a < i → va_up f i w a ≠ va_up f i w i) : ∀ a, a < i + 1 → va_up f i w a < n ∧ ∀ b, b < a → va_up f i w b ≠ va_up f i w a := fun a ha => by
  rcases Nat.lt_or_eq_of_le (Nat.le_of_lt_succ ha) with z | z
  · rw [va_up_ne _ _ (by omega)]
    exact ⟨(h.2.2.1 a z).1, fun b hb => by rw [va_up_ne _ _ (by omega)]; exact (h.2.2.1 a z).2 b hb⟩
  · rw [z]
    exact ⟨by rw [va_up_self]; exact hw, fun b hb => hu b (by omega)⟩
theorem WC.adv {n : Nat} {Cv : (Nat → Nat) → Prop} {f : Nat → Nat} {i w : Nat} (h : WC n Cv f i w) (hi : i + 1 < n) (hw : w < n) (hu : ∀ a, a < i → va_up f i w a ≠ va_up f i w i) : WC n Cv (va_up f i w) (i + 1) 0 :=
  ⟨hi, Nat.zero_le n, h.inj hw hu, fun f2 hf => (h.2.2.2 f2 hf).imp id (fun q z => q (lx_adv z))⟩
theorem inj_nmg {n : Nat} {f : Nat → Nat} (h : ∀ a, a < n → f a < n ∧ ∀ b, b < a → f b ≠ f a) : nmg n f := ⟨fun i hi => (h i hi).1, fun i j hi hj e => by
  rcases Nat.lt_trichotomy i j with q | q | q
  · exact absurd e ((h j hj).2 i q)
  · exact q
  · exact absurd e.symm ((h i hi).2 j q)⟩
/-- f2 is no less than the best one -/
def Cvr (n : Nat) (T : Nat → Nat → Nat) (L : Nat → Nat → Nat → Nat) (g : Nat) (no : Bool) (fb f2 : Nat → Nat) : Prop := no = false ∧ lxe (n * n) (Df T L g fb) (Df T L g f2)
/-- the cells of a writing -/
def wrC (I K : SI) (n : Nat) (T : Nat → Nat → Nat) (L : Nat → Nat → Nat → Nat) (g : Nat) (no : Bool) (fb f : Nat → Nat) (i : Nat) : Prop :=
  (∀ q, q ≠ 31 → q ≠ 34 → q ≠ 35 → K q = I q) ∧ (∀ a, a < i → K 31 0 a = nI (f a)) ∧ (∀ r, r < i → ∀ m, m ≤ 2 * r → K 35 0 (r * r + m) = nI (dg T L g f r m)) ∧ (∀ h, h < 2 → h ≠ g → ∀ k, k < 81 → K 34 0 (81 * h + k) = I 34 0 (81 * h + k)) ∧ (no = false → nmg n fb ∧ ∀ k, k < n * n → K 34 0 (81 * g + k) = nI (Df T L g fb k))
theorem row_all {T : Nat → Nat → Nat} {L : Nat → Nat → Nat → Nat} {g i : Nat} {f : Nat → Nat} {R : Nat → Int32} (h : ∀ r, r < i + 1 → ∀ m, m ≤ 2 * r → R (r * r + m) = nI (dg T L g f r m)) : ∀ k, k < (i + 1) * (i + 1) → R k = nI (Df T L g f k) := fun k hk => by
  have h1 := isq_lt hk
  have h2 := h (isq k) h1 _ isq_m.1
  rw [isq_m.2] at h2
  exact h2
set_option maxRecDepth 100000 in
set_option maxHeartbeats 4000000 in
theorem l_X6_write_134 {X : Pk} {Z : Zk} {Q : State → Prop} {I : SI} {J : SJ} (hA : AJ Z.2.2.1) (C : Cx X cX6_write 6 RX6 Z 2 120) (hr : (xE X).sig.returnType = none) {n : Nat} {T : Nat → Nat → Nat} {L : Nat → Nat → Nat → Nat} (hv : MV I n T L) {g i : Nat} (hg : g < 2) {le : Int32} {D : Nat → Nat} (hD : ∀ k, k < n * n → I 35 0 k = nI (D k)) (hex : ∀ B, (∀ k, k < n * n → B 0 (81 * g + k) = nI (D k)) → (∀ h, h < 2 → h ≠ g → ∀ k, k < 81 → B 0 (81 * h + k) = I 34 0 (81 * h + k)) → G X 6 Z Q (sK I 34 B) J 173 [(0, .ref (Z.2.2.1 27 0)), (1, .int (nI g)), (2, .int (bI false)), (3, .int (nI i))] []) : ∀ (k : Nat) (k2 : Nat) (B : Nat → Nat → Int32), n * n - k2 < k → (k2 ≤ n * n) → (∀ k, k < k2 → B 0 (81 * g + k) = nI (D k)) → (∀ h, h < 2 → h ≠ g → ∀ k, k < 81 → B 0 (81 * h + k) = I 34 0 (81 * h + k)) → G X 6 Z (Q) (sK I 34 B) (J) 134 [(0, .ref (Z.2.2.1 27 0)), (1, .int (nI g)), (2, .int (bI false)), (3, .int (nI i)), (4, .int le), (5, .int (nI k2))] [] := by
  obtain ⟨⟨hn1, hn9⟩, -⟩ := id hv
  intro k
  induction k with
  | zero => intro k2 B h; exact absurd h (by omega)
  | succ k ih =>
    intro k2 B hk hk2 hB hO
    have hnn : n * n ≤ 9 * 9 := Nat.mul_le_mul hn9 hn9
    refine g_ild C dX6_write_134 rfl ?_
    refine g_aldn C dX6_write_136 rfl ?_
    refine g_get C 27 0 (by decide) (by decide) u6 rfl 0 rfl fX6_7 rfl rfl dX6_write_137 ?_
    refine g_top (y := (nI n)) (by rw [sK_ne (by decide)]; exact hv.2.1) ?_
    refine g_aldn C dX6_write_140 rfl ?_
    refine g_get C 27 0 (by decide) (by decide) u6 rfl 0 rfl fX6_7 rfl rfl dX6_write_141 ?_
    refine g_top (y := (nI n)) (by rw [sK_ne (by decide)]; exact hv.2.1) ?_
    refine g_imul (v := (nI (n * n))) C dX6_write_144 (pk_mul _ _) ?_
    refine n_icmp_ge (tgt := 173) C dX6_write_145 rfl (by omega) (by omega) (fun c_1 => ?_) (fun c_1 => ?_)
    · have e : k2 = n * n := by omega
      refine g_lv [0, 1, 2, 3] rfl ?_
      exact hex B (fun k hk => hB k (by omega)) hO
    · refine g_aldn C dX6_write_148 rfl ?_
      refine g_get C 27 0 (by decide) (by decide) u6 rfl 8 rfl fX6_33 rfl rfl dX6_write_149 ?_
      refine g_bipush C ((nI 81)) dX6_write_152 (by decide) ?_
      refine g_ildn C dX6_write_154 rfl ?_
      refine g_imul (v := (nI (81 * g))) C dX6_write_155 (pk_mul _ _) ?_
      refine g_ild C dX6_write_156 rfl ?_
      refine g_iadd (v := (nI (81 * g + k2))) C dX6_write_158 (nI_add _ _) ?_
      refine g_aldn C dX6_write_159 rfl ?_
      refine g_get C 27 0 (by decide) (by decide) u6 rfl 9 rfl fX6_36 rfl rfl dX6_write_160 ?_
      refine g_ild C dX6_write_163 rfl ?_
      refine g_iald C 35 0 (by decide) (by decide) (fun _ _ => rfl) k2 (show k2 < 81 by omega) rfl dX6_write_165 (v := (nI (D k2))) (by rw [sK_ne (by decide)]; exact hD k2 (by omega)) ?_
      refine g_iast C 34 0 (by decide) (by decide) (fun _ _ => rfl) (81 * g + k2) (show 81 * g + k2 < 162 by omega) rfl dX6_write_166 ?_
      refine g_I (I1 := sK I 34 (up2 B 0 (81 * g + k2) (nI (D k2)))) (by rw [sK_self, sK_sK]) ?_
      refine g_iinc (lv' := [(5, .int (nI (k2 + 1))), (0, .ref (Z.2.2.1 27 0)), (1, .int (nI g)), (2, .int (bI false)), (3, .int (nI i)), (4, .int le)]) C ((nI (k2 + 1))) dX6_write_167 rfl (inc1 _) rfl rfl ?_
      refine g_goto (tgt := 134) C dX6_write_170 rfl ?_
      refine g_lv [1, 2, 3, 4, 5, 0] rfl ?_
      exact ih (k2 + 1) _ (by omega) (by omega) (fun j hj => by rw [up2_at]; by_cases e : j = k2; rw [if_pos ⟨rfl, by omega⟩, e]; rw [if_neg (fun q => e (by omega))]; exact hB j (by omega)) (fun h hh hne k hk => by rw [up2_ne (by omega)]; exact hO h hh hne k hk)

set_option maxRecDepth 100000 in
set_option maxHeartbeats 4000000 in
theorem l_X6_write_28 {X : Pk} {Z : Zk} {I : SI} {J : SJ} (hA : AJ Z.2.2.1) (C : Cx X cX6_write 6 RX6 Z 2 120) (hr : (xE X).sig.returnType = none) {n : Nat} {T : Nat → Nat → Nat} {L : Nat → Nat → Nat → Nat} (hv : MV I n T L) {g : Nat} (hg : g < 2) {post : Option Value → SI → SJ → Prop} (hpost : ∀ (K : SI) (fb : Nat → Nat) {no : Bool}, ((∀ q, q ≠ 31 → q ≠ 34 → q ≠ 35 → K q = I q) ∧ (∀ h, h < 2 → h ≠ g → ∀ k, k < 81 → K 34 0 (81 * h + k) = I 34 0 (81 * h + k)) ∧ (no = false → nmg n fb ∧ ∀ k, k < n * n → K 34 0 (81 * g + k) = nI (Df T L g fb k))) → (∀ f2, nmg n f2 → Cvr n T L g no fb f2) → post none K J) : ∀ (k : Nat) (f : Nat → Nat) (i : Nat) (w : Nat) (no : Bool) (fb : Nat → Nat) (K : SI), 10 ^ n * 10 + 10 - mz n f i w < k → (WC n (Cvr n T L g no fb) f i w) → (wrC I K n T L g no fb f i) → (K 31 0 i + nI 1 = nI w) → G X 6 Z (QG X Z post) (K) (J) 28 [(0, .ref (Z.2.2.1 27 0)), (1, .int (nI g)), (2, .int (bI no)), (3, .int (nI i))] [] := by
  obtain ⟨⟨hn1, hn9⟩, -⟩ := id hv
  intro k
  induction k with
  | zero => intro f i w no fb K h; exact absurd h (by omega)
  | succ k ih =>
    intro f i w no fb K hk hcu hwc hFv
    have hin0 := hcu.1
    have hwn := hcu.2.1
    have hnn : n * n ≤ 9 * 9 := Nat.mul_le_mul hn9 hn9
    have hz0 := mz_bd (f := f) hn9 (fun a ha => by have := (hcu.2.2.1 a ha).1; omega) hcu.1 (show w ≤ 9 by omega)
    refine g_ildn C dX6_write_28 rfl ?_
    refine n_if_lt (tgt := 176) C dX6_write_29 rfl (by omega) (fun q => absurd q (by omega)) (fun _ => ?_)
    refine g_aldn C dX6_write_32 rfl ?_
    refine g_get C 27 0 (by decide) (by decide) u6 rfl 5 rfl fX6_23 rfl rfl dX6_write_33 ?_
    refine g_ildn C dX6_write_36 rfl ?_
    refine g_dup2 C dX6_write_37 rfl rfl ?_
    refine g_iald C 31 0 (by decide) (by decide) (fun _ _ => rfl) i (show i < 9 by omega) rfl dX6_write_38 (v := (K 31 0 i)) rfl ?_
    refine g_iconst C ((nI 1)) dX6_write_39 (by decide) ?_
    refine g_iadd (v := (nI w)) C dX6_write_40 hFv ?_
    refine g_iast C 31 0 (by decide) (by decide) (fun _ _ => rfl) i (show i < 9 by omega) rfl dX6_write_41 ?_
    refine g_I (I1 := sK K 31 (up2 (K 31) 0 i (nI w))) rfl ?_
    refine g_aldn C dX6_write_42 rfl ?_
    refine g_get C 27 0 (by decide) (by decide) u6 rfl 5 rfl fX6_23 rfl rfl dX6_write_43 ?_
    refine g_ildn C dX6_write_46 rfl ?_
    refine g_iald C 31 0 (by decide) (by decide) (fun _ _ => rfl) i (show i < 9 by omega) rfl dX6_write_47 (v := (nI w)) (by rw [sK_self, up2_self]) ?_
    refine g_aldn C dX6_write_48 rfl ?_
    refine g_get C 27 0 (by decide) (by decide) u6 rfl 0 rfl fX6_7 rfl rfl dX6_write_49 ?_
    refine g_top (y := (nI n)) (by rw [sK_ne (by decide), hwc.1 27 (by decide) (by decide) (by decide)]; exact hv.2.1) ?_
    refine n_icmp_lt (tgt := 61) C dX6_write_52 rfl (by omega) (by omega) (fun c52 => ?_) (fun c52 => ?_)
    · have hf1 : ∀ a, a ≤ i → (sK K 31 (up2 (K 31) 0 i (nI w))) 31 0 a = nI (va_up f i w a) ∧ va_up f i w a < n := fun a ha => by
        rw [sK_self]
        by_cases e : a = i
        · rw [e, up2_self, va_up_self]; exact ⟨rfl, c52⟩
        · rw [up2_ne e, va_up_ne _ _ e]; exact ⟨hwc.2.1 a (by omega), (hcu.2.2.1 a (by omega)).1⟩
      refine g_aldn C dX6_write_61 rfl ?_
      refine g_ildn C dX6_write_62 rfl ?_
      refine g_callV (As := [.int (nI i)]) (st := []) C (c_X6_isUnused (I := sK K 31 (up2 (K 31) 0 i (nI w))) hA (f := va_up f i w) (i := i) (by omega) (fun a ha => ⟨(hf1 a ha).1, by have := (hf1 a ha).2; omega⟩)) wX6_isUnused iX6_isUnused sX6_isUnused mX6_100 27 0 (by decide) (by decide) rfl rfl rfl rfl rfl rfl rfl rfl dX6_write_63 ?_
      rintro v9 I9 J9 ⟨b, h91, hb, h92, h93⟩
      rw [h91, h92, h93]
      clear h91 h92 h93 v9 I9 J9
      show G X _ Z _ (sK K 31 (up2 (K 31) 0 i (nI w))) J 66 [(0, .ref (Z.2.2.1 27 0)), (1, .int (nI g)), (2, .int (bI no)), (3, .int (nI i))] [.int (bI b)]
      refine b_if_eq (tgt := 28) C dX6_write_66 rfl (fun c66 => ?_) (fun c66 => ?_)
      · refine g_lv [0, 1, 2, 3] rfl ?_
        exact ih f i (w + 1) no fb _ (by have := mz_inc n f i w; have := mz_bd (f := f) (v := i) (w := w + 1) hn9 (fun a ha => by have := (hcu.2.2.1 a ha).1; omega) hcu.1 (by omega); omega) (hcu.inc c52 (fun _ _ h => h) (fun f2 h2 hp2 => absurd (fun a ha => by rw [← hp2 a (by omega), ← hp2 i (by omega)]; intro e; exact absurd (h2.2 a i (by omega) (by omega) e) (by omega) : ∀ a, a < i → va_up f i w a ≠ va_up f i w i) (fun q => absurd (hb.mpr q) (by rw [c66]; decide)))) ⟨fun q z1 z2 z3 => by rw [sK_ne z1, hwc.1 q z1 z2 z3], fun a ha => by rw [sK_self, up2_ne (by omega)]; exact hwc.2.1 a ha, by rw [sK_ne (by decide)]; exact hwc.2.2.1, by rw [sK_ne (by decide)]; exact hwc.2.2.2.1, by rw [sK_ne (by decide)]; exact hwc.2.2.2.2⟩ (by rw [sK_self, up2_self]; exact nI_add _ _)
      · refine g_aldn C dX6_write_69 rfl ?_
        refine g_ildn C dX6_write_70 rfl ?_
        refine g_ildn C dX6_write_71 rfl ?_
        refine g_callV (As := [.int (nI g), .int (nI i)]) (st := []) C (c_X6_part (I := sK K 31 (up2 (K 31) 0 i (nI w))) hA (hv.of (I' := sK K 31 (up2 (K 31) 0 i (nI w))) (by rw [sK_ne (by decide), hwc.1 27 (by decide) (by decide) (by decide)]) (by rw [sK_ne (by decide), hwc.1 28 (by decide) (by decide) (by decide)]) (by rw [sK_ne (by decide), hwc.1 29 (by decide) (by decide) (by decide)])) hg (i := i) (by omega) (f := va_up f i w) hf1) wX6_part iX6_part sX6_part mX6_103 27 0 (by decide) (by decide) rfl rfl rfl rfl rfl rfl rfl rfl dX6_write_72 ?_
        rintro v9 I2 J9 ⟨R, h91, e2, h93, hr1, hr2⟩
        rw [h91, h93]
        clear h91 h93 v9 J9
        have hin := hcu.inj c52 (hb.mp c66)
        have k2 : ∀ q, q ≠ 31 → q ≠ 34 → q ≠ 35 → I2 q = I q := fun q z1 z2 z3 => by rw [e2, sK_ne z3, sK_ne z1, hwc.1 q z1 z2 z3]
        have hrow : ∀ r, r < i + 1 → ∀ m, m ≤ 2 * r → I2 35 0 (r * r + m) = nI (dg T L g (va_up f i w) r m) := fun r hr3 m hm2 => by
          rw [e2, sK_self]
          rcases Nat.lt_or_eq_of_le (Nat.le_of_lt_succ hr3) with z | z
          · have hlt : r * r + m < i * i := by have := Nat.mul_le_mul (show r + 1 ≤ i from z) (show r + 1 ≤ i from z); rw [Nat.add_mul, Nat.mul_add] at this; omega
            rw [hr1 _ hlt, sK_ne (by decide), hwc.2.2.1 r z m hm2]
            exact congrArg nI (dg_congr hm2 (fun a ha => (va_up_ne _ _ (by omega)).symm))
          · rw [z]; exact hr2 m (by omega)
        have hall := row_all hrow
        have hF2 : ∀ a, a < i + 1 → I2 31 0 a = nI (va_up f i w a) := fun a ha => by rw [e2, sK_ne (by decide)]; exact (hf1 a (by omega)).1
        have h34 : I2 34 = K 34 := by rw [e2, sK_ne (by decide), sK_ne (by decide)]
        have hsq : (i + 1) * (i + 1) ≤ n * n := Nat.mul_le_mul (by omega) (by omega)
        have hd4 : ∀ k, k < (i + 1) * (i + 1) → Df T L g (va_up f i w) k < 4 := fun k hk => Df4 (hv.sm4 hg) (fun a ha => (hin a ha).1) hk
        show G X _ Z _ I2 J 75 [(0, .ref (Z.2.2.1 27 0)), (1, .int (nI g)), (2, .int (bI no)), (3, .int (nI i))] []
        refine g_ildn C dX6_write_75 rfl ?_
        refine b_if_eq (tgt := 83) C dX6_write_76 rfl (fun c76 => ?_) (fun c76 => ?_)
        · refine g_aldn C dX6_write_83 rfl ?_
          refine g_ildn C dX6_write_84 rfl ?_
          refine g_ildn C dX6_write_85 rfl ?_
          refine g_iconst C ((nI 1)) dX6_write_86 (by decide) ?_
          refine g_iadd (v := (nI (i + 1))) C dX6_write_87 (nI_add _ _) ?_
          refine g_callS (As := [.int (nI (i + 1))]) (st := [.int (nI g), .ref (Z.2.2.1 27 0)]) C (c_X6_sizeOf hA (i := i + 1)) wX6_sizeOf tX6_sizeOf mX6_107 rfl rfl rfl rfl dX6_write_88 ?_
          rintro v9 I9 J9 ⟨h91, h92, h93⟩
          rw [h91, h92, h93]
          clear h91 h92 h93 v9 I9 J9
          show G X _ Z _ I2 J 91 [(0, .ref (Z.2.2.1 27 0)), (1, .int (nI g)), (2, .int (bI no)), (3, .int (nI i))] [.int (nI ((i + 1) * (i + 1))), .int (nI g), .ref (Z.2.2.1 27 0)]
          refine g_callV (As := [.int (nI g), .int (nI ((i + 1) * (i + 1)))]) (st := []) C (c_X6_compareRows (I := I2) hA hg (sz := (i + 1) * (i + 1)) (by omega) (A := Df T L g (va_up f i w)) (B := Df T L g fb) (fun k hk => ⟨hall k hk, hd4 k hk⟩) (fun k hk => ⟨by rw [h34]; exact (hwc.2.2.2.2 c76).2 k (by omega), Df4 (hv.sm4 hg) (fun a ha => (hwc.2.2.2.2 c76).1.1 a ha) (show k < n * n by omega)⟩)) wX6_compareRows iX6_compareRows sX6_compareRows mX6_111 27 0 (by decide) (by decide) rfl rfl rfl rfl rfl rfl rfl rfl dX6_write_91 ?_
          rintro v9 I9 J9 ⟨⟨cr, h91, hcr⟩, h92, h93⟩
          rw [h91, h92, h93]
          clear h91 h92 h93 v9 I9 J9
          show G X _ Z _ I2 J 94 [(0, .ref (Z.2.2.1 27 0)), (1, .int (nI g)), (2, .int (bI no)), (3, .int (nI i))] [.int cr]
          refine g_ist (lv' := [(4, .int cr), (0, .ref (Z.2.2.1 27 0)), (1, .int (nI g)), (2, .int (bI no)), (3, .int (nI i))]) C dX6_write_94 rfl rfl ?_
          rcases hcr with ⟨ecr, hlx⟩ | ⟨ecr, heq⟩ | ⟨ecr, hgx⟩
          · subst ecr
            refine g_ild C dX6_write_96 rfl ?_
            refine g_if_gt (tgt := 124) C dX6_write_98 rfl (fun q => absurd q (by decide)) (fun _ => ?_)
            refine g_ildn C dX6_write_101 rfl ?_
            refine g_aldn C dX6_write_102 rfl ?_
            refine g_get C 27 0 (by decide) (by decide) u6 rfl 0 rfl fX6_7 rfl rfl dX6_write_103 ?_
            refine g_top (y := (nI n)) (by rw [k2 27 (by decide) (by decide) (by decide)]; exact hv.2.1) ?_
            refine g_iconst C ((nI 1)) dX6_write_106 (by decide) ?_
            refine g_isub (v := (nI (n - 1))) C dX6_write_107 (pk_sub (by omega)) ?_
            refine n_icmp_ge (tgt := 124) C dX6_write_108 rfl (by omega) (by omega) (fun c108 => ?_) (fun c108 => ?_)
            · refine g_ild C dX6_write_124 rfl ?_
              refine g_if_ge (tgt := 173) C dX6_write_126 rfl (fun q => absurd q (by decide)) (fun _ => ?_)
              refine g_iconst C ((nI 0)) dX6_write_129 (by decide) ?_
              refine g_istn (lv' := [(2, .int (nI 0)), (4, .int (-1 : Int32)), (0, .ref (Z.2.2.1 27 0)), (1, .int (nI g)), (3, .int (nI i))]) C dX6_write_130 rfl rfl ?_
              refine g_iconst C ((nI 0)) dX6_write_131 (by decide) ?_
              refine g_ist (lv' := [(5, .int (nI 0)), (2, .int (nI 0)), (4, .int (-1 : Int32)), (0, .ref (Z.2.2.1 27 0)), (1, .int (nI g)), (3, .int (nI i))]) C dX6_write_132 rfl rfl ?_
              refine g_lv (lv1 := [(0, .ref (Z.2.2.1 27 0)), (1, .int (nI g)), (2, .int (bI false)), (3, .int (nI i)), (4, .int (-1 : Int32)), (5, .int (nI 0))]) [3, 4, 1, 5, 2, 0] rfl ?_
              refine g_I (I1 := sK I2 34 (I2 34)) (by rw [sK_id]) ?_
              refine l_X6_write_134 (I := I2) hA C hr (hv.of (I' := I2) (by rw [k2 27 (by decide) (by decide) (by decide)]) (k2 28 (by decide) (by decide) (by decide)) (k2 29 (by decide) (by decide) (by decide))) hg (D := Df T L g (va_up f i w)) (fun k hk => hall k (by rw [show i + 1 = n by omega]; exact hk)) ?_ (n * n + 1) 0 (I2 34) (by omega) (by omega) (fun k hk => absurd hk (by omega)) (fun _ _ _ _ _ => rfl)
              intro B2 hB2 hO2
              refine g_goto (tgt := 28) C dX6_write_173 rfl ?_
              refine g_lv [0, 1, 2, 3] rfl ?_
              have hi1 : i + 1 = n := by omega
              rw [hi1] at hin hall hrow
              have hnm := inj_nmg hin
              exact ih f i (w + 1) false (va_up f i w) _ (by have := mz_inc n f i w; have := mz_bd (f := f) (v := i) (w := w + 1) hn9 (fun a ha => by have := (hcu.2.2.1 a ha).1; omega) hcu.1 (by omega); omega) (hcu.inc c52 (fun f2 _ q => by first | exact absurd q.1 (by rw [c76]; decide) | exact ⟨rfl, lxe_tr (Or.inl (by rw [hi1] at hlx; exact hlx)) q.2⟩) (fun f2 h2 hp2 => ⟨rfl, Or.inr (fun k hk => (Df_congr (fun a ha => hp2 a (by omega)) hk).symm)⟩)) ⟨fun q z1 z2 z3 => by rw [sK_ne z2]; exact k2 q z1 z2 z3, fun a ha => by rw [sK_ne (by decide), hF2 a (by omega), va_up_ne _ _ (by omega)], fun r hr3 m hm2 => by rw [sK_ne (by decide), hrow r (by omega) m hm2]; exact congrArg nI (dg_congr hm2 (fun a ha => va_up_ne _ _ (by omega))), fun h hh hne k hk => by rw [sK_self, hO2 h hh hne k hk, h34]; exact hwc.2.2.2.1 h hh hne k hk, fun _ => ⟨hnm, fun k hk => by rw [sK_self]; exact hB2 k hk⟩⟩ (by rw [sK_ne (by decide), hF2 i (by omega), va_up_self]; exact nI_add _ _)
            · refine g_iinc (lv' := [(3, .int (nI (i + 1))), (4, .int (-1 : Int32)), (0, .ref (Z.2.2.1 27 0)), (1, .int (nI g)), (2, .int (bI no))]) C ((nI (i + 1))) dX6_write_111 rfl (inc1 _) rfl rfl ?_
              refine g_aldn C dX6_write_114 rfl ?_
              refine g_get C 27 0 (by decide) (by decide) u6 rfl 5 rfl fX6_23 rfl rfl dX6_write_115 ?_
              refine g_ildn C dX6_write_118 rfl ?_
              refine g_iconst C ((-1)) dX6_write_119 (by decide) ?_
              refine g_iast C 31 0 (by decide) (by decide) (fun _ _ => rfl) (i + 1) (show i + 1 < 9 by omega) rfl dX6_write_120 ?_
              refine g_I (I1 := sK I2 31 (up2 (I2 31) 0 (i + 1) (-1))) rfl ?_
              refine g_goto (tgt := 173) C dX6_write_121 rfl ?_
              refine g_goto (tgt := 28) C dX6_write_173 rfl ?_
              refine g_lv [2, 3, 4, 0] rfl ?_
              exact ih (va_up f i w) (i + 1) 0 no fb _ (by have := mz_adv (n := n) (f := f) (v := i) (w := w) (by omega); have := mz_bd (f := va_up f i w) (v := i + 1) (w := 0) hn9 (fun a ha => by have := (hin a ha).1; omega) (by omega) (by omega); omega) (hcu.adv (by omega) c52 (hb.mp c66)) ⟨fun q z1 z2 z3 => by rw [sK_ne z1]; exact k2 q z1 z2 z3, fun a ha => by rw [sK_self, up2_ne (by omega)]; exact hF2 a ha, by rw [sK_ne (by decide)]; exact hrow, by rw [sK_ne (by decide), h34]; exact hwc.2.2.2.1, by rw [sK_ne (by decide), h34]; exact hwc.2.2.2.2⟩ (by rw [sK_self, up2_self]; decide)
          · subst ecr
            refine g_ild C dX6_write_96 rfl ?_
            refine g_if_gt (tgt := 124) C dX6_write_98 rfl (fun q => absurd q (by decide)) (fun _ => ?_)
            refine g_ildn C dX6_write_101 rfl ?_
            refine g_aldn C dX6_write_102 rfl ?_
            refine g_get C 27 0 (by decide) (by decide) u6 rfl 0 rfl fX6_7 rfl rfl dX6_write_103 ?_
            refine g_top (y := (nI n)) (by rw [k2 27 (by decide) (by decide) (by decide)]; exact hv.2.1) ?_
            refine g_iconst C ((nI 1)) dX6_write_106 (by decide) ?_
            refine g_isub (v := (nI (n - 1))) C dX6_write_107 (pk_sub (by omega)) ?_
            refine n_icmp_ge (tgt := 124) C dX6_write_108 rfl (by omega) (by omega) (fun c108 => ?_) (fun c108 => ?_)
            · refine g_ild C dX6_write_124 rfl ?_
              refine g_if_ge (tgt := 173) C dX6_write_126 rfl (fun _ => ?_) (fun q => absurd (by decide) q)
              refine g_goto (tgt := 28) C dX6_write_173 rfl ?_
              refine g_lv [1, 2, 3, 4] rfl ?_
              exact ih f i (w + 1) no fb _ (by have := mz_inc n f i w; have := mz_bd (f := f) (v := i) (w := w + 1) hn9 (fun a ha => by have := (hcu.2.2.1 a ha).1; omega) hcu.1 (by omega); omega) (hcu.inc c52 (fun _ _ h => h) (fun f2 h2 hp2 => ⟨c76, by first | exact Or.inl (lx_len hsq hgx (fun k hk => rfl) (fun k hk => (Df_congr hp2 hk).symm)) | exact Or.inr (fun k hk => by rw [show n = i + 1 by omega] at hk; rw [← heq k hk]; exact (Df_congr hp2 hk).symm)⟩)) ⟨k2, fun a ha => by rw [hF2 a (by omega), va_up_ne _ _ (by omega)], fun r hr3 m hm2 => by rw [hrow r (by omega) m hm2]; exact congrArg nI (dg_congr hm2 (fun a ha => va_up_ne _ _ (by omega))), fun h hh hne k hk => by rw [h34]; exact hwc.2.2.2.1 h hh hne k hk, fun q => ⟨(hwc.2.2.2.2 q).1, by rw [h34]; exact (hwc.2.2.2.2 q).2⟩⟩ (by rw [hF2 i (by omega), va_up_self]; exact nI_add _ _)
            · refine g_iinc (lv' := [(3, .int (nI (i + 1))), (4, .int (0 : Int32)), (0, .ref (Z.2.2.1 27 0)), (1, .int (nI g)), (2, .int (bI no))]) C ((nI (i + 1))) dX6_write_111 rfl (inc1 _) rfl rfl ?_
              refine g_aldn C dX6_write_114 rfl ?_
              refine g_get C 27 0 (by decide) (by decide) u6 rfl 5 rfl fX6_23 rfl rfl dX6_write_115 ?_
              refine g_ildn C dX6_write_118 rfl ?_
              refine g_iconst C ((-1)) dX6_write_119 (by decide) ?_
              refine g_iast C 31 0 (by decide) (by decide) (fun _ _ => rfl) (i + 1) (show i + 1 < 9 by omega) rfl dX6_write_120 ?_
              refine g_I (I1 := sK I2 31 (up2 (I2 31) 0 (i + 1) (-1))) rfl ?_
              refine g_goto (tgt := 173) C dX6_write_121 rfl ?_
              refine g_goto (tgt := 28) C dX6_write_173 rfl ?_
              refine g_lv [2, 3, 4, 0] rfl ?_
              exact ih (va_up f i w) (i + 1) 0 no fb _ (by have := mz_adv (n := n) (f := f) (v := i) (w := w) (by omega); have := mz_bd (f := va_up f i w) (v := i + 1) (w := 0) hn9 (fun a ha => by have := (hin a ha).1; omega) (by omega) (by omega); omega) (hcu.adv (by omega) c52 (hb.mp c66)) ⟨fun q z1 z2 z3 => by rw [sK_ne z1]; exact k2 q z1 z2 z3, fun a ha => by rw [sK_self, up2_ne (by omega)]; exact hF2 a ha, by rw [sK_ne (by decide)]; exact hrow, by rw [sK_ne (by decide), h34]; exact hwc.2.2.2.1, by rw [sK_ne (by decide), h34]; exact hwc.2.2.2.2⟩ (by rw [sK_self, up2_self]; decide)
          · subst ecr
            refine g_ild C dX6_write_96 rfl ?_
            refine g_if_gt (tgt := 124) C dX6_write_98 rfl (fun _ => ?_) (fun q => absurd (by decide) q)
            refine g_ild C dX6_write_124 rfl ?_
            refine g_if_ge (tgt := 173) C dX6_write_126 rfl (fun _ => ?_) (fun q => absurd (by decide) q)
            refine g_goto (tgt := 28) C dX6_write_173 rfl ?_
            refine g_lv [1, 2, 3, 4] rfl ?_
            exact ih f i (w + 1) no fb _ (by have := mz_inc n f i w; have := mz_bd (f := f) (v := i) (w := w + 1) hn9 (fun a ha => by have := (hcu.2.2.1 a ha).1; omega) hcu.1 (by omega); omega) (hcu.inc c52 (fun _ _ h => h) (fun f2 h2 hp2 => ⟨c76, by first | exact Or.inl (lx_len hsq hgx (fun k hk => rfl) (fun k hk => (Df_congr hp2 hk).symm)) | exact Or.inr (fun k hk => by rw [show n = i + 1 by omega] at hk; rw [← heq k hk]; exact (Df_congr hp2 hk).symm)⟩)) ⟨k2, fun a ha => by rw [hF2 a (by omega), va_up_ne _ _ (by omega)], fun r hr3 m hm2 => by rw [hrow r (by omega) m hm2]; exact congrArg nI (dg_congr hm2 (fun a ha => va_up_ne _ _ (by omega))), fun h hh hne k hk => by rw [h34]; exact hwc.2.2.2.1 h hh hne k hk, fun q => ⟨(hwc.2.2.2.2 q).1, by rw [h34]; exact (hwc.2.2.2.2 q).2⟩⟩ (by rw [hF2 i (by omega), va_up_self]; exact nI_add _ _)
        · refine g_iconst C ((-1)) dX6_write_79 (by decide) ?_
          refine g_goto (tgt := 94) C dX6_write_80 rfl ?_
          refine g_ist (lv' := [(4, .int (-1)), (0, .ref (Z.2.2.1 27 0)), (1, .int (nI g)), (2, .int (bI no)), (3, .int (nI i))]) C dX6_write_94 rfl rfl ?_
          refine g_ild C dX6_write_96 rfl ?_
          refine g_if_gt (tgt := 124) C dX6_write_98 rfl (fun q => absurd q (by decide)) (fun _ => ?_)
          refine g_ildn C dX6_write_101 rfl ?_
          refine g_aldn C dX6_write_102 rfl ?_
          refine g_get C 27 0 (by decide) (by decide) u6 rfl 0 rfl fX6_7 rfl rfl dX6_write_103 ?_
          refine g_top (y := (nI n)) (by rw [k2 27 (by decide) (by decide) (by decide)]; exact hv.2.1) ?_
          refine g_iconst C ((nI 1)) dX6_write_106 (by decide) ?_
          refine g_isub (v := (nI (n - 1))) C dX6_write_107 (pk_sub (by omega)) ?_
          refine n_icmp_ge (tgt := 124) C dX6_write_108 rfl (by omega) (by omega) (fun c108 => ?_) (fun c108 => ?_)
          · refine g_ild C dX6_write_124 rfl ?_
            refine g_if_ge (tgt := 173) C dX6_write_126 rfl (fun q => absurd q (by decide)) (fun _ => ?_)
            refine g_iconst C ((nI 0)) dX6_write_129 (by decide) ?_
            refine g_istn (lv' := [(2, .int (nI 0)), (4, .int (-1)), (0, .ref (Z.2.2.1 27 0)), (1, .int (nI g)), (3, .int (nI i))]) C dX6_write_130 rfl rfl ?_
            refine g_iconst C ((nI 0)) dX6_write_131 (by decide) ?_
            refine g_ist (lv' := [(5, .int (nI 0)), (2, .int (nI 0)), (4, .int (-1)), (0, .ref (Z.2.2.1 27 0)), (1, .int (nI g)), (3, .int (nI i))]) C dX6_write_132 rfl rfl ?_
            refine g_lv (lv1 := [(0, .ref (Z.2.2.1 27 0)), (1, .int (nI g)), (2, .int (bI false)), (3, .int (nI i)), (4, .int (-1)), (5, .int (nI 0))]) [3, 4, 1, 5, 2, 0] rfl ?_
            refine g_I (I1 := sK I2 34 (I2 34)) (by rw [sK_id]) ?_
            refine l_X6_write_134 (I := I2) hA C hr (hv.of (I' := I2) (by rw [k2 27 (by decide) (by decide) (by decide)]) (k2 28 (by decide) (by decide) (by decide)) (k2 29 (by decide) (by decide) (by decide))) hg (D := Df T L g (va_up f i w)) (fun k hk => hall k (by rw [show i + 1 = n by omega]; exact hk)) ?_ (n * n + 1) 0 (I2 34) (by omega) (by omega) (fun k hk => absurd hk (by omega)) (fun _ _ _ _ _ => rfl)
            intro B2 hB2 hO2
            refine g_goto (tgt := 28) C dX6_write_173 rfl ?_
            refine g_lv [0, 1, 2, 3] rfl ?_
            have hi1 : i + 1 = n := by omega
            rw [hi1] at hin hall hrow
            have hnm := inj_nmg hin
            exact ih f i (w + 1) false (va_up f i w) _ (by have := mz_inc n f i w; have := mz_bd (f := f) (v := i) (w := w + 1) hn9 (fun a ha => by have := (hcu.2.2.1 a ha).1; omega) hcu.1 (by omega); omega) (hcu.inc c52 (fun f2 _ q => by first | exact absurd q.1 (by rw [c76]; decide) | exact ⟨rfl, lxe_tr (Or.inl (by rw [hi1] at hlx; exact hlx)) q.2⟩) (fun f2 h2 hp2 => ⟨rfl, Or.inr (fun k hk => (Df_congr (fun a ha => hp2 a (by omega)) hk).symm)⟩)) ⟨fun q z1 z2 z3 => by rw [sK_ne z2]; exact k2 q z1 z2 z3, fun a ha => by rw [sK_ne (by decide), hF2 a (by omega), va_up_ne _ _ (by omega)], fun r hr3 m hm2 => by rw [sK_ne (by decide), hrow r (by omega) m hm2]; exact congrArg nI (dg_congr hm2 (fun a ha => va_up_ne _ _ (by omega))), fun h hh hne k hk => by rw [sK_self, hO2 h hh hne k hk, h34]; exact hwc.2.2.2.1 h hh hne k hk, fun _ => ⟨hnm, fun k hk => by rw [sK_self]; exact hB2 k hk⟩⟩ (by rw [sK_ne (by decide), hF2 i (by omega), va_up_self]; exact nI_add _ _)
          · refine g_iinc (lv' := [(3, .int (nI (i + 1))), (4, .int (-1)), (0, .ref (Z.2.2.1 27 0)), (1, .int (nI g)), (2, .int (bI no))]) C ((nI (i + 1))) dX6_write_111 rfl (inc1 _) rfl rfl ?_
            refine g_aldn C dX6_write_114 rfl ?_
            refine g_get C 27 0 (by decide) (by decide) u6 rfl 5 rfl fX6_23 rfl rfl dX6_write_115 ?_
            refine g_ildn C dX6_write_118 rfl ?_
            refine g_iconst C ((-1)) dX6_write_119 (by decide) ?_
            refine g_iast C 31 0 (by decide) (by decide) (fun _ _ => rfl) (i + 1) (show i + 1 < 9 by omega) rfl dX6_write_120 ?_
            refine g_I (I1 := sK I2 31 (up2 (I2 31) 0 (i + 1) (-1))) rfl ?_
            refine g_goto (tgt := 173) C dX6_write_121 rfl ?_
            refine g_goto (tgt := 28) C dX6_write_173 rfl ?_
            refine g_lv [2, 3, 4, 0] rfl ?_
            exact ih (va_up f i w) (i + 1) 0 no fb _ (by have := mz_adv (n := n) (f := f) (v := i) (w := w) (by omega); have := mz_bd (f := va_up f i w) (v := i + 1) (w := 0) hn9 (fun a ha => by have := (hin a ha).1; omega) (by omega) (by omega); omega) (hcu.adv (by omega) c52 (hb.mp c66)) ⟨fun q z1 z2 z3 => by rw [sK_ne z1]; exact k2 q z1 z2 z3, fun a ha => by rw [sK_self, up2_ne (by omega)]; exact hF2 a ha, by rw [sK_ne (by decide)]; exact hrow, by rw [sK_ne (by decide), h34]; exact hwc.2.2.2.1, by rw [sK_ne (by decide), h34]; exact hwc.2.2.2.2⟩ (by rw [sK_self, up2_self]; decide)
    · cases i with
      | zero =>
        refine g_iinc (lv' := [(3, .int (-1)), (0, .ref (Z.2.2.1 27 0)), (1, .int (nI g)), (2, .int (bI no))]) C ((-1)) dX6_write_55 rfl (by decide) rfl rfl ?_
        refine g_goto (tgt := 28) C dX6_write_58 rfl ?_
        refine g_ildn C dX6_write_28 rfl ?_
        refine g_if_lt (tgt := 176) C dX6_write_29 rfl (fun _ => ?_) (fun q => absurd (by decide) q)
        exact g_return C hr dX6_write_176 (hpost _ fb ⟨fun q z1 z2 z3 => by rw [sK_ne z1, hwc.1 q z1 z2 z3], by rw [sK_ne (by decide)]; exact hwc.2.2.2.1, by rw [sK_ne (by decide)]; exact hwc.2.2.2.2⟩ (hcu.none c52))
      | succ i =>
        refine g_iinc (lv' := [(3, .int (nI (i + 1 - 1))), (0, .ref (Z.2.2.1 27 0)), (1, .int (nI g)), (2, .int (bI no))]) C ((nI (i + 1 - 1))) dX6_write_55 rfl (dec1 (by omega)) rfl rfl ?_
        refine g_goto (tgt := 28) C dX6_write_58 rfl ?_
        refine g_lv (lv1 := [(0, .ref (Z.2.2.1 27 0)), (1, .int (nI g)), (2, .int (bI no)), (3, .int (nI i))]) [1, 2, 3, 0] rfl ?_
        exact ih f i (f i + 1) no fb _ (by have := mz_back (n := n) (f := f) (v := i) (w := w) (by omega) (by omega); have := mz_bd (f := f) (v := i) (w := f i + 1) hn9 (fun a ha => by have := (hcu.2.2.1 a (by omega)).1; omega) (by omega) (by have := (hcu.2.2.1 i (by omega)).1; omega); omega) (hcu.back c52) ⟨fun q z1 z2 z3 => by rw [sK_ne z1, hwc.1 q z1 z2 z3], fun a ha => by rw [sK_self, up2_ne (by omega)]; exact hwc.2.1 a (by omega), fun r hr3 m hm2 => by rw [sK_ne (by decide)]; exact hwc.2.2.1 r (by omega) m hm2, by rw [sK_ne (by decide)]; exact hwc.2.2.2.1, by rw [sK_ne (by decide)]; exact hwc.2.2.2.2⟩ (by rw [sK_self, up2_ne (by omega), hwc.2.1 i (by omega)]; exact nI_add _ _)

