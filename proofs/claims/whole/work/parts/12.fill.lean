/-! ===== Arrays.fill over the one world ===== -/
/-- the first n places are x -/
def fl {α : Type} (f : Nat → α) (n : Nat) (x : α) : Nat → α := fun i => if i < n then x else f i
theorem fl_lt {α : Type} {f : Nat → α} {n i : Nat} {x : α} (h : i < n) : fl f n x i = x := if_pos h
theorem fl_0 {α : Type} (f : Nat → α) (x : α) : fl f 0 x = f := rfl
theorem fl_s {α : Type} (f : Nat → α) (n : Nat) (x : α) : va_up (fl f n x) n x = fl f (n + 1) x := by
  funext i
  by_cases h : i = n
  · subst h; rw [va_up_self, fl_lt (by omega)]
  · rw [va_up_ne _ _ h]
    unfold fl
    by_cases h2 : i < n
    · rw [if_pos h2, if_pos (by omega)]
    · rw [if_neg h2, if_neg (by omega)]
theorem up2_row_self {α : Type} (F : Nat → Nat → α) (r i : Nat) (x : α) (f : Nat → α) : up2 (va_up F r f) r i x = va_up F r (va_up f i x) := by
  unfold up2
  rw [va_up_self, bx_uu]
theorem va_up_id {α : Type} (F : Nat → α) (r : Nat) : va_up F r (F r) = F := by
  funext i
  by_cases h : i = r
  · subst h; rw [va_up_self]
  · rw [va_up_ne _ _ h]
set_option maxRecDepth 100000 in
set_option maxHeartbeats 4000000 in
theorem l_fillI {X : Pk} {Z : Zk} {fr lo : Nat} {I : SI} {J : SJ} (C : Cx X cJ7_fill_53178 4 RJ7 Z fr lo) (hr : (xE X).sig.returnType = none) {k r n : Nat} {x : Int32} (hk : k < 38) (hrr : r < cnt k) (hs : ∀ f g, SSr Z.2.1 Z.2.2.1 k r f g = .inl (Z.2.1 0, n, .inl f)) (hn : n ≤ 1000) :
    ∀ m j, n - j < m → j ≤ n → G X 4 Z (QG X Z (fun v I' J' => v = none ∧ I' = sK I k (va_up (I k) r (fl (I k r) n x)) ∧ J' = J)) (sK I k (va_up (I k) r (fl (I k r) j x))) J 5 [(0, .ref (Z.2.2.1 k r)), (1, .int x), (2, .int (nI j)), (3, .int (nI n))] [] := by
  have hble : Nat.ble n 1000 = true := Nat.ble_eq.mpr hn
  intro m
  induction m with
  | zero => intro j h; exact absurd h (by omega)
  | succ m ih =>
    intro j hm hj
    refine g_ildn C dJ7_fill_53178_5 rfl ?_
    refine g_ildn C dJ7_fill_53178_6 rfl ?_
    refine n_icmp_ge (tgt := 20) C dJ7_fill_53178_7 rfl (by omega) (by omega) (fun c => ?_) (fun c => ?_)
    · have e : j = n := by omega
      subst e
      exact g_return C hr dJ7_fill_53178_20 ⟨rfl, rfl, rfl⟩
    · refine g_aldn C dJ7_fill_53178_10 rfl ?_
      refine g_ildn C dJ7_fill_53178_11 rfl ?_
      refine g_ildn C dJ7_fill_53178_12 rfl ?_
      refine g_iast C k r hk hrr hs j c hble dJ7_fill_53178_13 ?_
      refine g_I (I1 := sK I k (va_up (I k) r (fl (I k r) (j + 1) x))) (by rw [sK_self, sK_sK, up2_row_self, fl_s]) ?_
      refine g_iinc (lv' := [(2, .int (nI (j + 1))), (0, .ref (Z.2.2.1 k r)), (1, .int x), (3, .int (nI n))]) C (nI (j + 1)) dJ7_fill_53178_14 rfl (inc1 _) rfl rfl ?_
      refine g_goto (tgt := 5) C dJ7_fill_53178_17 rfl ?_
      refine g_lv [1, 2, 0, 3] rfl ?_
      exact ih (j + 1) (by omega) (by omega)
section GL
variable {X : Pk} {cc : ByteArray} {nL : Nat} {own : String} {Z : Zk} {fr lo : Nat} {Q : State → Prop} {I : SI} {J : SJ} {pc : Nat} {lv lv' : List (Nat × Value)} {st : List Value}
theorem g_alenI (C : Cx X cc nL own Z fr lo) (k r : Nat) (hk : k < 38) (hr : r < cnt k) {n : Nat} (hs : ∀ f g, SSr Z.2.1 Z.2.2.1 k r f g = .inl (Z.2.1 0, n, .inl f)) (d : decode cc pc = .ok (.arraylength, 1)) (kk : G X nL Z Q I J (pc + 1) lv (.int (nI n) :: st)) : G X nL Z Q I J pc lv (.ref (Z.2.2.1 k r) :: st) := by
  intro H locs ls hP hS hl
  obtain ⟨q, hq⟩ := wl_get hk hr
  have ha := wl_at (ca := Z.2.1) (ad := Z.2.2.1) (I := I) (J := J) hq
  dsimp only at ha
  rw [hs] at ha
  exact va_alen C.1 C.2.1 C.2.2.2.2.2.1.1 hP q 0 ha (ty := .int) rfl rfl d (kk H locs ls hP hS hl)
theorem g_alenJ (C : Cx X cc nL own Z fr lo) (k r : Nat) (hk : k < 38) (hr : r < cnt k) {n : Nat} (hs : ∀ f g, SSr Z.2.1 Z.2.2.1 k r f g = .inl (Z.2.1 1, n, .inr (.inl g))) (d : decode cc pc = .ok (.arraylength, 1)) (kk : G X nL Z Q I J (pc + 1) lv (.int (nI n) :: st)) : G X nL Z Q I J pc lv (.ref (Z.2.2.1 k r) :: st) := by
  intro H locs ls hP hS hl
  obtain ⟨q, hq⟩ := wl_get hk hr
  have ha := wl_at (ca := Z.2.1) (ad := Z.2.2.1) (I := I) (J := J) hq
  dsimp only at ha
  rw [hs] at ha
  exact va_alen C.1 C.2.1 C.2.2.2.2.2.1.1 hP q 1 ha (ty := .long) rfl rfl d (kk H locs ls hP hS hl)
end GL
set_option maxRecDepth 100000 in
set_option maxHeartbeats 4000000 in
/-- Arrays.fill(int[], int) -/
theorem c_fillI {l : Launch} {Y : Yk} (hA : AJ Y.2.2) {I : SI} {J : SJ} {k r n : Nat} {x : Int32} (hk : k < 38) (hrr : r < cnt k) (hs : ∀ f g, SSr Y.2.1 Y.2.2 k r f g = .inl (Y.2.1 0, n, .inl f)) (hn : n ≤ 1000) : MX l Y yJ7_fill_53178 cJ7_fill_53178 4 none 0 0 [.ref (Y.2.2 k r), .int x] I J (fun v I' J' => v = none ∧ I' = sK I k (va_up (I k) r (fl (I k r) n x)) ∧ J' = J) := by
  refine MX.of hA (by decide) (own := RJ7) rfl rfl rfl ?_
  intro X Z hl hY1 hY2 hY3 C hr
  obtain ⟨D0, ca0, ad0⟩ := Y
  dsimp only at hA hY1 hY2 hY3 hs
  subst hY1; subst hY2; subst hY3; subst hl
  show G X 4 Z (QG X Z _) I J 0 [(0, .ref (Z.2.2.1 k r)), (1, .int x)] []
  refine g_iconst C (nI 0) dJ7_fill_53178_0 (by decide) ?_
  refine g_istn (lv' := [(2, .int (nI 0)), (0, .ref (Z.2.2.1 k r)), (1, .int x)]) C dJ7_fill_53178_1 rfl rfl ?_
  refine g_aldn C dJ7_fill_53178_2 rfl ?_
  refine g_alenI C k r hk hrr hs dJ7_fill_53178_3 ?_
  refine g_istn (lv' := [(3, .int (nI n)), (2, .int (nI 0)), (0, .ref (Z.2.2.1 k r)), (1, .int x)]) C dJ7_fill_53178_4 rfl rfl ?_
  refine g_lv [2, 3, 1, 0] rfl ?_
  refine g_I (I1 := sK I k (va_up (I k) r (fl (I k r) 0 x))) (by rw [fl_0, va_up_id, sK_id]) ?_
  exact l_fillI C hr hk hrr hs hn (n + 1) 0 (by omega) (by omega)
set_option maxRecDepth 100000 in
set_option maxHeartbeats 4000000 in
theorem l_fillJ {X : Pk} {Z : Zk} {fr lo : Nat} {I : SI} {J : SJ} (C : Cx X cJ7_fill_d0a16 5 RJ7 Z fr lo) (hr : (xE X).sig.returnType = none) {k r n : Nat} {x : Int64} (hk : k < 38) (hrr : r < cnt k) (hs : ∀ f g, SSr Z.2.1 Z.2.2.1 k r f g = .inl (Z.2.1 1, n, .inr (.inl g))) (hn : n ≤ 1000) :
    ∀ m j, n - j < m → j ≤ n → G X 5 Z (QG X Z (fun v I' J' => v = none ∧ I' = I ∧ J' = sK J k (va_up (J k) r (fl (J k r) n x)))) I (sK J k (va_up (J k) r (fl (J k r) j x))) 6 [(0, .ref (Z.2.2.1 k r)), (1, .long x), (3, .int (nI j)), (4, .int (nI n))] [] := by
  have hble : Nat.ble n 1000 = true := Nat.ble_eq.mpr hn
  intro m
  induction m with
  | zero => intro j h; exact absurd h (by omega)
  | succ m ih =>
    intro j hm hj
    refine g_ildn C dJ7_fill_d0a16_6 rfl ?_
    refine g_ild C dJ7_fill_d0a16_7 rfl ?_
    refine n_icmp_ge (tgt := 22) C dJ7_fill_d0a16_9 rfl (by omega) (by omega) (fun c => ?_) (fun c => ?_)
    · have e : j = n := by omega
      subst e
      exact g_return C hr dJ7_fill_d0a16_22 ⟨rfl, rfl, rfl⟩
    · refine g_aldn C dJ7_fill_d0a16_12 rfl ?_
      refine g_ildn C dJ7_fill_d0a16_13 rfl ?_
      refine g_lldn C dJ7_fill_d0a16_14 rfl ?_
      refine g_last C k r hk hrr hs j c hble dJ7_fill_d0a16_15 ?_
      refine g_J (J1 := sK J k (va_up (J k) r (fl (J k r) (j + 1) x))) (by rw [sK_self, sK_sK, up2_row_self, fl_s]) ?_
      refine g_iinc (lv' := [(3, .int (nI (j + 1))), (0, .ref (Z.2.2.1 k r)), (1, .long x), (4, .int (nI n))]) C (nI (j + 1)) dJ7_fill_d0a16_16 rfl (inc1 _) rfl rfl ?_
      refine g_goto (tgt := 6) C dJ7_fill_d0a16_19 rfl ?_
      refine g_lv [1, 2, 0, 3] rfl ?_
      exact ih (j + 1) (by omega) (by omega)
set_option maxRecDepth 100000 in
set_option maxHeartbeats 4000000 in
/-- Arrays.fill(long[], long) -/
theorem c_fillJ {l : Launch} {Y : Yk} (hA : AJ Y.2.2) {I : SI} {J : SJ} {k r n : Nat} {x : Int64} (hk : k < 38) (hrr : r < cnt k) (hs : ∀ f g, SSr Y.2.1 Y.2.2 k r f g = .inl (Y.2.1 1, n, .inr (.inl g))) (hn : n ≤ 1000) : MX l Y yJ7_fill_d0a16 cJ7_fill_d0a16 5 none 0 0 [.ref (Y.2.2 k r), .long x] I J (fun v I' J' => v = none ∧ I' = I ∧ J' = sK J k (va_up (J k) r (fl (J k r) n x))) := by
  refine MX.of hA (by decide) (own := RJ7) rfl rfl rfl ?_
  intro X Z hl hY1 hY2 hY3 C hr
  obtain ⟨D0, ca0, ad0⟩ := Y
  dsimp only at hA hY1 hY2 hY3 hs
  subst hY1; subst hY2; subst hY3; subst hl
  show G X 5 Z (QG X Z _) I J 0 [(0, .ref (Z.2.2.1 k r)), (1, .long x)] []
  refine g_iconst C (nI 0) dJ7_fill_d0a16_0 (by decide) ?_
  refine g_istn (lv' := [(3, .int (nI 0)), (0, .ref (Z.2.2.1 k r)), (1, .long x)]) C dJ7_fill_d0a16_1 rfl rfl ?_
  refine g_aldn C dJ7_fill_d0a16_2 rfl ?_
  refine g_alenJ C k r hk hrr hs dJ7_fill_d0a16_3 ?_
  refine g_ist (lv' := [(4, .int (nI n)), (3, .int (nI 0)), (0, .ref (Z.2.2.1 k r)), (1, .long x)]) C dJ7_fill_d0a16_4 rfl rfl ?_
  refine g_lv [2, 3, 1, 0] rfl ?_
  refine g_J (J1 := sK J k (va_up (J k) r (fl (J k r) 0 x))) (by rw [fl_0, va_up_id, sK_id]) ?_
  exact l_fillJ C hr hk hrr hs hn (n + 1) 0 (by omega) (by omega)
