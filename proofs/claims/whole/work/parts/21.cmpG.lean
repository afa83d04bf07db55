/-! ===== longs compared; compareRows, longerRow, lesserLikes ===== -/
def cmpN (a b : Nat) : Int32 := if b < a then 1 else if a = b then 0 else -1
theorem lcmpN {a b : Nat} (ha : a < 2 ^ 63) (hb : b < 2 ^ 63) : lg_cmp (lN a) (lN b) = cmpN a b := by
  unfold lg_cmp cmpN
  by_cases h1 : b < a
  · rw [if_pos h1, if_pos ((pk_lLT hb ha).mpr h1)]
  · rw [if_neg h1, if_neg (fun q => h1 ((pk_lLT hb ha).mp q))]
    by_cases h2 : a = b
    · rw [if_pos h2, if_pos ((pk_lEQ ha hb).mpr h2)]
    · rw [if_neg h2, if_neg (fun q => h2 ((pk_lEQ ha hb).mp q))]
theorem cmp_gt {a b : Nat} (h : b < a) : cmpN a b = 1 := if_pos h
theorem cmp_eq {a b : Nat} (h : a = b) : cmpN a b = 0 := by unfold cmpN; rw [if_neg (by omega), if_pos h]
theorem cmp_lt {a b : Nat} (h : a < b) : cmpN a b = -1 := by unfold cmpN; rw [if_neg (by omega), if_neg (by omega)]
section GCMP
variable {X : Pk} {cc : ByteArray} {nL : Nat} {own : String} {Z : Zk} {fr lo : Nat} {Q : State → Prop} {I : SI} {J : SJ} {pc : Nat} {lv lv' : List (Nat × Value)} {st : List Value}
theorem c_if_eq (C : Cx X cc nL own Z fr lo) {a b : Nat} {off : Int} {tgt : Nat} (d : decode cc pc = .ok (.ifCond .eq off, 3)) (ht : (pc : Int) + off = (tgt : Int)) (kt : a = b → G X nL Z Q I J tgt lv st) (kf : a ≠ b → G X nL Z Q I J (pc + 3) lv st) : G X nL Z Q I J pc lv (.int (cmpN a b) :: st) := by
  rcases Nat.lt_trichotomy a b with h | h | h
  · rw [cmp_lt h]; exact g_if_eq C d ht (fun q => by first | exact kt (by omega) | exact absurd q (by decide)) (fun q => by first | exact kf (by omega) | exact absurd q (by decide))
  · rw [cmp_eq h]; exact g_if_eq C d ht (fun q => by first | exact kt (by omega) | exact absurd q (by decide)) (fun q => by first | exact kf (by omega) | exact absurd q (by decide))
  · rw [cmp_gt h]; exact g_if_eq C d ht (fun q => by first | exact kt (by omega) | exact absurd q (by decide)) (fun q => by first | exact kf (by omega) | exact absurd q (by decide))
theorem c_if_ne (C : Cx X cc nL own Z fr lo) {a b : Nat} {off : Int} {tgt : Nat} (d : decode cc pc = .ok (.ifCond .ne off, 3)) (ht : (pc : Int) + off = (tgt : Int)) (kt : a ≠ b → G X nL Z Q I J tgt lv st) (kf : a = b → G X nL Z Q I J (pc + 3) lv st) : G X nL Z Q I J pc lv (.int (cmpN a b) :: st) := by
  rcases Nat.lt_trichotomy a b with h | h | h
  · rw [cmp_lt h]; exact g_if_ne C d ht (fun q => by first | exact kt (by omega) | exact absurd q (by decide)) (fun q => by first | exact kf (by omega) | exact absurd q (by decide))
  · rw [cmp_eq h]; exact g_if_ne C d ht (fun q => by first | exact kt (by omega) | exact absurd q (by decide)) (fun q => by first | exact kf (by omega) | exact absurd q (by decide))
  · rw [cmp_gt h]; exact g_if_ne C d ht (fun q => by first | exact kt (by omega) | exact absurd q (by decide)) (fun q => by first | exact kf (by omega) | exact absurd q (by decide))
theorem c_if_le (C : Cx X cc nL own Z fr lo) {a b : Nat} {off : Int} {tgt : Nat} (d : decode cc pc = .ok (.ifCond .le off, 3)) (ht : (pc : Int) + off = (tgt : Int)) (kt : a ≤ b → G X nL Z Q I J tgt lv st) (kf : b < a → G X nL Z Q I J (pc + 3) lv st) : G X nL Z Q I J pc lv (.int (cmpN a b) :: st) := by
  rcases Nat.lt_trichotomy a b with h | h | h
  · rw [cmp_lt h]; exact g_if_le C d ht (fun q => by first | exact kt (by omega) | exact absurd q (by decide)) (fun q => by first | exact kf (by omega) | exact absurd q (by decide))
  · rw [cmp_eq h]; exact g_if_le C d ht (fun q => by first | exact kt (by omega) | exact absurd q (by decide)) (fun q => by first | exact kf (by omega) | exact absurd q (by decide))
  · rw [cmp_gt h]; exact g_if_le C d ht (fun q => by first | exact kt (by omega) | exact absurd q (by decide)) (fun q => by first | exact kf (by omega) | exact absurd q (by decide))
theorem c_if_gt (C : Cx X cc nL own Z fr lo) {a b : Nat} {off : Int} {tgt : Nat} (d : decode cc pc = .ok (.ifCond .gt off, 3)) (ht : (pc : Int) + off = (tgt : Int)) (kt : b < a → G X nL Z Q I J tgt lv st) (kf : a ≤ b → G X nL Z Q I J (pc + 3) lv st) : G X nL Z Q I J pc lv (.int (cmpN a b) :: st) := by
  rcases Nat.lt_trichotomy a b with h | h | h
  · rw [cmp_lt h]; exact g_if_gt C d ht (fun q => by first | exact kt (by omega) | exact absurd q (by decide)) (fun q => by first | exact kf (by omega) | exact absurd q (by decide))
  · rw [cmp_eq h]; exact g_if_gt C d ht (fun q => by first | exact kt (by omega) | exact absurd q (by decide)) (fun q => by first | exact kf (by omega) | exact absurd q (by decide))
  · rw [cmp_gt h]; exact g_if_gt C d ht (fun q => by first | exact kt (by omega) | exact absurd q (by decide)) (fun q => by first | exact kf (by omega) | exact absurd q (by decide))
theorem c_if_ge (C : Cx X cc nL own Z fr lo) {a b : Nat} {off : Int} {tgt : Nat} (d : decode cc pc = .ok (.ifCond .ge off, 3)) (ht : (pc : Int) + off = (tgt : Int)) (kt : b ≤ a → G X nL Z Q I J tgt lv st) (kf : a < b → G X nL Z Q I J (pc + 3) lv st) : G X nL Z Q I J pc lv (.int (cmpN a b) :: st) := by
  rcases Nat.lt_trichotomy a b with h | h | h
  · rw [cmp_lt h]; exact g_if_ge C d ht (fun q => by first | exact kt (by omega) | exact absurd q (by decide)) (fun q => by first | exact kf (by omega) | exact absurd q (by decide))
  · rw [cmp_eq h]; exact g_if_ge C d ht (fun q => by first | exact kt (by omega) | exact absurd q (by decide)) (fun q => by first | exact kf (by omega) | exact absurd q (by decide))
  · rw [cmp_gt h]; exact g_if_ge C d ht (fun q => by first | exact kt (by omega) | exact absurd q (by decide)) (fun q => by first | exact kf (by omega) | exact absurd q (by decide))
theorem c_if_lt (C : Cx X cc nL own Z fr lo) {a b : Nat} {off : Int} {tgt : Nat} (d : decode cc pc = .ok (.ifCond .lt off, 3)) (ht : (pc : Int) + off = (tgt : Int)) (kt : a < b → G X nL Z Q I J tgt lv st) (kf : b ≤ a → G X nL Z Q I J (pc + 3) lv st) : G X nL Z Q I J pc lv (.int (cmpN a b) :: st) := by
  rcases Nat.lt_trichotomy a b with h | h | h
  · rw [cmp_lt h]; exact g_if_lt C d ht (fun q => by first | exact kt (by omega) | exact absurd q (by decide)) (fun q => by first | exact kf (by omega) | exact absurd q (by decide))
  · rw [cmp_eq h]; exact g_if_lt C d ht (fun q => by first | exact kt (by omega) | exact absurd q (by decide)) (fun q => by first | exact kf (by omega) | exact absurd q (by decide))
  · rw [cmp_gt h]; exact g_if_lt C d ht (fun q => by first | exact kt (by omega) | exact absurd q (by decide)) (fun q => by first | exact kf (by omega) | exact absurd q (by decide))
end GCMP
set_option maxRecDepth 100000 in
set_option maxHeartbeats 4000000 in
theorem l_X5_compareRows_2 {X : Pk} {Z : Zk} {fr lo : Nat} {I : SI} {J : SJ} (C : Cx X cX5_compareRows 4 RX5 Z fr lo) (hr : (xE X).sig.returnType = some .int) {k1 r1 k2 r2 m1 m2 n : Nat} (hk1 : k1 < 38) (hr1 : r1 < cnt k1) (hk2 : k2 < 38) (hr2 : r2 < cnt k2) (hs1 : ∀ f g, SSr Z.2.1 Z.2.2.1 k1 r1 f g = .inl (Z.2.1 1, m1, .inr (.inl g))) (hs2 : ∀ f g, SSr Z.2.1 Z.2.2.1 k2 r2 f g = .inl (Z.2.1 1, m2, .inr (.inl g))) (hm1 : n ≤ m1) (hm2 : n ≤ m2) (hb1 : Nat.ble m1 1000 = true) (hb2 : Nat.ble m2 1000 = true) {A B : Nat → Nat} (hA1 : ∀ i, i < n → J k1 r1 i = lN (A i) ∧ A i < 2 ^ 60) (hB1 : ∀ i, i < n → J k2 r2 i = lN (B i) ∧ B i < 2 ^ 60) : ∀ k i, n - i < k → i ≤ n → (∀ a, a < i → A a = B a) → G X 4 Z (QG X Z (fun v' I' J' => (∃ c : Int32, v' = some (.int c) ∧ ((c = -1 ∧ lx n A B) ∨ (c = 0 ∧ ∀ i, i < n → A i = B i) ∨ (c = 1 ∧ lx n B A))) ∧ I' = I ∧ J' = J)) I J 2 [(0, .ref (Z.2.2.1 k1 r1)), (1, .ref (Z.2.2.1 k2 r2)), (2, .int (nI n)), (3, .int (nI i))] [] := by
  have q1 := Nat.ble_eq.mp hb1
  have q2 := Nat.ble_eq.mp hb2
  intro k
  induction k with
  | zero => intro i h; exact absurd h (by omega)
  | succ k ih =>
    intro i hk hin9 hin
    have z1 : i < n → A i < 2 ^ 60 := fun h => (hA1 i h).2
    have z2 : i < n → B i < 2 ^ 60 := fun h => (hB1 i h).2
    refine g_ildn C dX5_compareRows_2 rfl ?_
    refine g_ildn C dX5_compareRows_3 rfl ?_
    refine n_icmp_ge (tgt := 39) C dX5_compareRows_4 rfl (by omega) (by omega) (fun c4 => ?_) (fun c4 => ?_)
    · refine g_iconst C ((nI 0)) dX5_compareRows_39 (by decide) ?_
      exact g_ireturn C hr dX5_compareRows_40 ⟨⟨0, rfl, Or.inr (Or.inl ⟨rfl, fun a ha => hin a (by omega)⟩)⟩, rfl, rfl⟩
    · refine g_aldn C dX5_compareRows_7 rfl ?_
      refine g_ildn C dX5_compareRows_8 rfl ?_
      refine g_lald C k1 r1 hk1 hr1 hs1 i (by omega) hb1 dX5_compareRows_9 (v := (lN (A i))) (hA1 i (by omega)).1 ?_
      refine g_aldn C dX5_compareRows_10 rfl ?_
      refine g_ildn C dX5_compareRows_11 rfl ?_
      refine g_lald C k2 r2 hk2 hr2 hs2 i (by omega) hb2 dX5_compareRows_12 (v := (lN (B i))) (hB1 i (by omega)).1 ?_
      refine g_lcmp (v := (cmpN (A i) (B i))) C dX5_compareRows_13 (lcmpN (by omega) (by omega)) ?_
      refine c_if_eq (tgt := 33) C dX5_compareRows_14 rfl (fun c14 => ?_) (fun c14 => ?_)
      · refine g_iinc (lv' := [(3, .int (nI (i + 1))), (0, .ref (Z.2.2.1 k1 r1)), (1, .ref (Z.2.2.1 k2 r2)), (2, .int (nI n))]) C ((nI (i + 1))) dX5_compareRows_33 rfl (inc1 _) rfl rfl ?_
        refine g_goto (tgt := 2) C dX5_compareRows_36 rfl ?_
        refine g_lv [1, 2, 3, 0] rfl ?_
        exact ih (i + 1) (by omega) (by omega) (fun a ha => (Nat.lt_or_eq_of_le (Nat.le_of_lt_succ ha)).elim (hin a) (fun e => by rw [e]; exact c14))
      · refine g_aldn C dX5_compareRows_17 rfl ?_
        refine g_ildn C dX5_compareRows_18 rfl ?_
        refine g_lald C k1 r1 hk1 hr1 hs1 i (by omega) hb1 dX5_compareRows_19 (v := (lN (A i))) (hA1 i (by omega)).1 ?_
        refine g_aldn C dX5_compareRows_20 rfl ?_
        refine g_ildn C dX5_compareRows_21 rfl ?_
        refine g_lald C k2 r2 hk2 hr2 hs2 i (by omega) hb2 dX5_compareRows_22 (v := (lN (B i))) (hB1 i (by omega)).1 ?_
        refine g_lcmp (v := (cmpN (A i) (B i))) C dX5_compareRows_23 (lcmpN (by omega) (by omega)) ?_
        refine c_if_ge (tgt := 31) C dX5_compareRows_24 rfl (fun c24 => ?_) (fun c24 => ?_)
        · refine g_iconst C ((nI 1)) dX5_compareRows_31 (by decide) ?_
          exact g_ireturn C hr dX5_compareRows_32 ⟨⟨1, rfl, Or.inr (Or.inr ⟨rfl, i, by omega, fun a ha => (hin a ha).symm, by omega⟩)⟩, rfl, rfl⟩
        · refine g_iconst C ((-1)) dX5_compareRows_27 (by decide) ?_
          refine g_goto (tgt := 32) C dX5_compareRows_28 rfl ?_
          exact g_ireturn C hr dX5_compareRows_32 ⟨⟨-1, rfl, Or.inl ⟨rfl, i, by omega, hin, by omega⟩⟩, rfl, rfl⟩

set_option maxRecDepth 100000 in
set_option maxHeartbeats 4000000 in
/-- compareRows -/
theorem c_X5_compareRows {l : Launch} {Y : Yk} (hA : AJ Y.2.2) {I : SI} {J : SJ} {k1 r1 k2 r2 m1 m2 n : Nat} (hk1 : k1 < 38) (hr1 : r1 < cnt k1) (hk2 : k2 < 38) (hr2 : r2 < cnt k2) (hs1 : ∀ f g, SSr Y.2.1 Y.2.2 k1 r1 f g = .inl (Y.2.1 1, m1, .inr (.inl g))) (hs2 : ∀ f g, SSr Y.2.1 Y.2.2 k2 r2 f g = .inl (Y.2.1 1, m2, .inr (.inl g))) (hm1 : n ≤ m1) (hm2 : n ≤ m2) (hb1 : Nat.ble m1 1000 = true) (hb2 : Nat.ble m2 1000 = true) {A B : Nat → Nat} (hA1 : ∀ i, i < n → J k1 r1 i = lN (A i) ∧ A i < 2 ^ 60) (hB1 : ∀ i, i < n → J k2 r2 i = lN (B i) ∧ B i < 2 ^ 60)  : MX l Y yX5_compareRows cX5_compareRows 4 (some .int) 0 0 [.ref (Y.2.2 k1 r1), .ref (Y.2.2 k2 r2), .int (nI n)] I J (fun v' I' J' => (∃ c : Int32, v' = some (.int c) ∧ ((c = -1 ∧ lx n A B) ∨ (c = 0 ∧ ∀ i, i < n → A i = B i) ∨ (c = 1 ∧ lx n B A))) ∧ I' = I ∧ J' = J) := by
  refine MX.of hA (by decide) (own := RX5) rfl rfl rfl ?_
  intro X Z hl hY1 hY2 hY3 C hr
  obtain ⟨D0, ca0, ad0⟩ := Y
  dsimp only at hA hY1 hY2 hY3 hs1 hs2
  subst hY1; subst hY2; subst hY3; subst hl
  show G X 4 Z (QG X Z _) I J 0 [(0, .ref (Z.2.2.1 k1 r1)), (1, .ref (Z.2.2.1 k2 r2)), (2, .int (nI n))] []
  refine g_iconst C ((nI 0)) dX5_compareRows_0 (by decide) ?_
  refine g_istn (lv' := [(3, .int (nI 0)), (0, .ref (Z.2.2.1 k1 r1)), (1, .ref (Z.2.2.1 k2 r2)), (2, .int (nI n))]) C dX5_compareRows_1 rfl rfl ?_
  refine g_lv [1, 2, 3, 0] rfl ?_
  exact l_X5_compareRows_2 C hr hk1 hr1 hk2 hr2 hs1 hs2 hm1 hm2 hb1 hb2 hA1 hB1 (n + 1) 0 (by omega) (by omega) (fun a h => absurd h (by omega))

set_option maxRecDepth 100000 in
set_option maxHeartbeats 4000000 in
/-- longerRow -/
theorem c_X0_longerRow {l : Launch} {Y : Yk} (hA : AJ Y.2.2) {I : SI} {J : SJ} {n : Nat} {T : Nat → Nat → Nat} {L : Nat → Nat → Nat → Nat} (hv : CV I n T L) {g : Nat} (hg : g < 2) {dp w v x : Nat} (hdp : dp < 9) (hwn : w < n) (hvn : v < n) (hx : J 22 dp w = lN x) (hx2 : x < 2 ^ 56)  : MX l Y yX0_longerRow cX0_longerRow 5 (some .long) 1 40 [.ref (Y.2.2 20 0), .ref (Y.2.2 2 g), .int (nI dp), .int (nI w), .int (nI v)] I J (fun v' I' J' => v' = some (.long (lN (x * 16 + pr L g w v))) ∧ I' = I ∧ J' = J) := by
  refine MX.of hA (by decide) (own := RX0) rfl rfl rfl ?_
  intro X Z hl hY1 hY2 hY3 C hr
  obtain ⟨D0, ca0, ad0⟩ := Y
  dsimp only at hA hY1 hY2 hY3
  subst hY1; subst hY2; subst hY3; subst hl
  show G X 5 Z (QG X Z _) I J 0 [(0, .ref (Z.2.2.1 20 0)), (1, .ref (Z.2.2.1 2 g)), (2, .int (nI dp)), (3, .int (nI w)), (4, .int (nI v))] []
  obtain ⟨⟨hn1, hn9⟩, -⟩ := id hv
  have hpr : pr L g w v < 16 := by have := hv.l4 hg hwn hvn; have := hv.l4 hg hvn hwn; unfold pr; omega
  refine g_aldn C dX0_longerRow_0 rfl ?_
  refine g_get C 20 0 (by decide) (by decide) u0 rfl 0 rfl fX0_11 rfl rfl dX0_longerRow_1 ?_
  refine g_ildn C dX0_longerRow_4 rfl ?_
  refine g_aald C 21 0 4 (by decide) (by decide) (fun _ _ => rfl) rfl rfl dp (show dp < 9 by omega) rfl dX0_longerRow_5 ?_
  refine g_ildn C dX0_longerRow_6 rfl ?_
  refine g_lald C 22 dp (by decide) (show dp < 9 by omega) (fun _ _ => rfl) w (show w < 9 by omega) rfl dX0_longerRow_7 (v := (lN x)) hx ?_
  refine g_iconst C ((nI 4)) dX0_longerRow_8 (by decide) ?_
  refine g_lshl (v := (lN (x * 16))) C dX0_longerRow_9 (wb_shl x (k := 4) (by decide)) ?_
  refine g_aldn C dX0_longerRow_10 rfl ?_
  refine g_ildn C dX0_longerRow_11 rfl ?_
  refine g_ild C dX0_longerRow_12 rfl ?_
  refine g_callV (As := [.int (nI w), .int (nI v)]) (st := [.long (lN (x * 16))]) C (c_X1_pair hA hv hg hwn hvn) wX1_pair iX1_pair sX1_pair mX0_88 2 g (by decide) (show g < 2 by omega) rfl rfl rfl rfl rfl rfl rfl rfl dX0_longerRow_14 ?_
  rintro v9 I9 J9 ⟨h91, h92, h93⟩
  rw [h91, h92, h93]
  clear h91 h92 h93 v9 I9 J9
  show G X _ Z _ I J 17 [(0, .ref (Z.2.2.1 20 0)), (1, .ref (Z.2.2.1 2 g)), (2, .int (nI dp)), (3, .int (nI w)), (4, .int (nI v))] [.int (nI (pr L g w v)), .long (lN (x * 16))]
  refine g_i2l (v := (lN (pr L g w v))) C dX0_longerRow_17 (nI_l (by omega)) ?_
  refine g_lor (v := (lN (x * 16 + pr L g w v))) C dX0_longerRow_18 (g_or (k := 4) (p := 16) (by decide) hpr (by omega)) ?_
  exact g_lreturn C hr dX0_longerRow_19 ⟨rfl, rfl, rfl⟩

/-- m's bits are the lesser ones that are like v, among the first j -/
def lks (n : Nat) (T : Nat → Nat → Nat) (L : Nat → Nat → Nat → Nat) (g v j m : Nat) : Prop := m < 2 ^ 9 ∧ ∀ u, m.testBit u = true ↔ u < j ∧ alk n T L g u v
set_option maxRecDepth 100000 in
set_option maxHeartbeats 4000000 in
theorem l_X0_lesserLikes_4 {X : Pk} {Z : Zk} {I : SI} {J : SJ} (hA : AJ Z.2.2.1) (C : Cx X cX0_lesserLikes 4 RX0 Z 2 80) (hr : (xE X).sig.returnType = some .int) {n : Nat} {T : Nat → Nat → Nat} {L : Nat → Nat → Nat → Nat} (hv : CV I n T L) {g : Nat} (hg : g < 2) {v : Nat} (hvn : v < n) : ∀ k u m, v - u < k → u ≤ v → lks n T L g v u m → G X 4 Z (QG X Z (fun v' I' J' => (∃ m, v' = some (.int (nI m)) ∧ lks n T L g v v m) ∧ I' = I ∧ J' = J)) I J 4 [(0, .ref (Z.2.2.1 2 g)), (1, .int (nI v)), (2, .int (nI m)), (3, .int (nI u))] [] := by
  obtain ⟨⟨hn1, hn9⟩, -⟩ := id hv
  intro k
  induction k with
  | zero => intro u m h; exact absurd h (by omega)
  | succ k ih =>
    intro u m hk huv hm
    have hm9 := hm.1
    refine g_ildn C dX0_lesserLikes_4 rfl ?_
    refine g_ildn C dX0_lesserLikes_5 rfl ?_
    refine n_icmp_ge (tgt := 30) C dX0_lesserLikes_6 rfl (by omega) (by omega) (fun c6 => ?_) (fun c6 => ?_)
    · refine g_ildn C dX0_lesserLikes_30 rfl ?_
      exact g_ireturn C hr dX0_lesserLikes_31 ⟨⟨m, rfl, (show u = v by omega) ▸ hm⟩, rfl, rfl⟩
    · refine g_aldn C dX0_lesserLikes_9 rfl ?_
      refine g_ildn C dX0_lesserLikes_10 rfl ?_
      refine g_ildn C dX0_lesserLikes_11 rfl ?_
      refine g_callV (As := [.int (nI u), .int (nI v)]) (st := []) C (c_X1_isAlike hA hv hg (show u < n by omega) hvn) wX1_isAlike iX1_isAlike sX1_isAlike mX0_55 2 g (by decide) (show g < 2 by omega) rfl rfl rfl rfl rfl rfl rfl rfl dX0_lesserLikes_12 ?_
      rintro v9 I9 J9 ⟨b, h91, hb, h92, h93⟩
      rw [h91, h92, h93]
      clear h91 h92 h93 v9 I9 J9
      show G X _ Z _ I J 15 [(0, .ref (Z.2.2.1 2 g)), (1, .int (nI v)), (2, .int (nI m)), (3, .int (nI u))] [.int (bI b)]
      refine b_if_eq (tgt := 24) C dX0_lesserLikes_15 rfl (fun c15 => ?_) (fun c15 => ?_)
      · refine g_iinc (lv' := [(3, .int (nI (u + 1))), (0, .ref (Z.2.2.1 2 g)), (1, .int (nI v)), (2, .int (nI m))]) C ((nI (u + 1))) dX0_lesserLikes_24 rfl (inc1 _) rfl rfl ?_
        refine g_goto (tgt := 4) C dX0_lesserLikes_27 rfl ?_
        refine g_lv [1, 2, 3, 0] rfl ?_
        refine ih (u + 1) m (by omega) (by omega) ⟨hm.1, fun a => (hm.2 a).trans ⟨fun q => ⟨by omega, q.2⟩, fun q => ⟨?_, q.2⟩⟩⟩
        rcases Nat.lt_or_eq_of_le (Nat.le_of_lt_succ q.1) with h3 | h3
        · exact h3
        · subst h3; exact absurd (hb.mpr q.2) (by rw [c15]; decide)
      · refine g_ildn C dX0_lesserLikes_18 rfl ?_
        refine g_iconst C ((nI 1)) dX0_lesserLikes_19 (by decide) ?_
        refine g_ildn C dX0_lesserLikes_20 rfl ?_
        refine g_ishl (v := (nI (2 ^ u))) C dX0_lesserLikes_21 (shl1 u (by omega)) ?_
        refine g_ior (v := (nI (m ||| 2 ^ u))) C dX0_lesserLikes_22 (orI _ _) ?_
        refine g_istn (lv' := [(2, .int (nI (m ||| 2 ^ u))), (0, .ref (Z.2.2.1 2 g)), (1, .int (nI v)), (3, .int (nI u))]) C dX0_lesserLikes_23 rfl rfl ?_
        refine g_iinc (lv' := [(3, .int (nI (u + 1))), (2, .int (nI (m ||| 2 ^ u))), (0, .ref (Z.2.2.1 2 g)), (1, .int (nI v))]) C ((nI (u + 1))) dX0_lesserLikes_24 rfl (inc1 _) rfl rfl ?_
        refine g_goto (tgt := 4) C dX0_lesserLikes_27 rfl ?_
        refine g_lv [2, 3, 1, 0] rfl ?_
        refine ih (u + 1) (m ||| 2 ^ u) (by omega) (by omega) ⟨Nat.or_lt_two_pow hm.1 (Nat.pow_lt_pow_right (by decide) (by omega)), fun a => ?_⟩
        rw [Nat.testBit_or, Nat.testBit_two_pow, Bool.or_eq_true, hm.2 a, decide_eq_true_iff]
        constructor
        · rintro (⟨h1, h2⟩ | e)
          · exact ⟨by omega, h2⟩
          · subst e; exact ⟨by omega, hb.mp c15⟩
        · rintro ⟨h1, h2⟩
          rcases Nat.lt_or_eq_of_le (Nat.le_of_lt_succ h1) with h3 | h3
          · exact Or.inl ⟨h3, h2⟩
          · exact Or.inr h3.symm

set_option maxRecDepth 100000 in
set_option maxHeartbeats 4000000 in
/-- lesserLikes -/
theorem c_X0_lesserLikes {l : Launch} {Y : Yk} (hA : AJ Y.2.2) {I : SI} {J : SJ} {n : Nat} {T : Nat → Nat → Nat} {L : Nat → Nat → Nat → Nat} (hv : CV I n T L) {g : Nat} (hg : g < 2) {v : Nat} (hvn : v < n)  : MX l Y yX0_lesserLikes cX0_lesserLikes 4 (some .int) 2 80 [.ref (Y.2.2 2 g), .int (nI v)] I J (fun v' I' J' => (∃ m, v' = some (.int (nI m)) ∧ lks n T L g v v m) ∧ I' = I ∧ J' = J) := by
  refine MX.of hA (by decide) (own := RX0) rfl rfl rfl ?_
  intro X Z hl hY1 hY2 hY3 C hr
  obtain ⟨D0, ca0, ad0⟩ := Y
  dsimp only at hA hY1 hY2 hY3
  subst hY1; subst hY2; subst hY3; subst hl
  show G X 4 Z (QG X Z _) I J 0 [(0, .ref (Z.2.2.1 2 g)), (1, .int (nI v))] []
  refine g_iconst C ((nI 0)) dX0_lesserLikes_0 (by decide) ?_
  refine g_istn (lv' := [(2, .int (nI 0)), (0, .ref (Z.2.2.1 2 g)), (1, .int (nI v))]) C dX0_lesserLikes_1 rfl rfl ?_
  refine g_iconst C ((nI 0)) dX0_lesserLikes_2 (by decide) ?_
  refine g_istn (lv' := [(3, .int (nI 0)), (2, .int (nI 0)), (0, .ref (Z.2.2.1 2 g)), (1, .int (nI v))]) C dX0_lesserLikes_3 rfl rfl ?_
  refine g_lv [2, 3, 1, 0] rfl ?_
  exact l_X0_lesserLikes_4 hA C hr hv hg hvn (v + 1) 0 0 (by omega) (by omega) ⟨by decide, fun a => ⟨fun q => absurd q (by simp), fun q => absurd q.1 (by omega)⟩⟩

