/-! ===== rows of numbers: their order, insertion, counting ===== -/
theorem lx_irr {n : Nat} {A : Nat → Nat} (h : lx n A A) : False := by
  obtain ⟨k, _, _, h3⟩ := h
  omega
theorem lx_tr {n : Nat} {A B D : Nat → Nat} (h1 : lx n A B) (h2 : lx n B D) : lx n A D := by
  obtain ⟨a, a1, a2, a3⟩ := h1
  obtain ⟨b, b1, b2, b3⟩ := h2
  rcases Nat.lt_trichotomy a b with h | h | h
  · exact ⟨a, a1, fun j hj => (a2 j hj).trans (b2 j (by omega)), by rw [← b2 a h]; exact a3⟩
  · subst h
    exact ⟨a, a1, fun j hj => (a2 j hj).trans (b2 j hj), by omega⟩
  · exact ⟨b, b1, fun j hj => (a2 j (by omega)).trans (b2 j hj), by rw [a2 b h]; exact b3⟩
theorem lx_l {n : Nat} {A A' B : Nat → Nat} (h : lx n A B) (e : ∀ i, i < n → A i = A' i) : lx n A' B := by
  obtain ⟨a, a1, a2, a3⟩ := h
  exact ⟨a, a1, fun j hj => by rw [← e j (by omega)]; exact a2 j hj, by rw [← e a a1]; exact a3⟩
theorem lx_r {n : Nat} {A B B' : Nat → Nat} (h : lx n A B) (e : ∀ i, i < n → B i = B' i) : lx n A B' := by
  obtain ⟨a, a1, a2, a3⟩ := h
  exact ⟨a, a1, fun j hj => by rw [← e j (by omega)]; exact a2 j hj, by rw [← e a a1]; exact a3⟩
theorem lx_tot (n : Nat) (A B : Nat → Nat) : lx n A B ∨ (∀ i, i < n → A i = B i) ∨ lx n B A := by
  induction n with
  | zero => exact Or.inr (Or.inl (fun i hi => absurd hi (by omega)))
  | succ n ih =>
    rcases ih with ⟨k, h1, h2⟩ | h | ⟨k, h1, h2⟩
    · exact Or.inl ⟨k, by omega, h2⟩
    · rcases Nat.lt_trichotomy (A n) (B n) with q | q | q
      · exact Or.inl ⟨n, by omega, h, q⟩
      · exact Or.inr (Or.inl (fun i hi => (Nat.lt_or_eq_of_le (Nat.le_of_lt_succ hi)).elim (h i) (fun e => by rw [e]; exact q)))
      · exact Or.inr (Or.inr ⟨n, by omega, fun j hj => (h j hj).symm, q⟩)
    · exact Or.inr (Or.inr ⟨k, by omega, h2⟩)
theorem lxe_of {n : Nat} {A B : Nat → Nat} (h : ¬ lx n B A) : lxe n A B := by
  rcases lx_tot n A B with q | q | q
  · exact Or.inl q
  · exact Or.inr q
  · exact absurd q h
theorem lxe_no {n : Nat} {A B : Nat → Nat} (h : lxe n A B) : ¬ lx n B A := fun q => by
  rcases h with h | h
  · exact lx_irr (lx_tr h q)
  · exact lx_irr (lx_l q (fun i hi => (h i hi).symm))
theorem lxe_rf (n : Nat) (A : Nat → Nat) : lxe n A A := Or.inr (fun _ _ => rfl)
theorem lxe_tr {n : Nat} {A B D : Nat → Nat} (h1 : lxe n A B) (h2 : lxe n B D) : lxe n A D := by
  rcases h1 with h1 | h1
  · rcases h2 with h2 | h2
    · exact Or.inl (lx_tr h1 h2)
    · exact Or.inl (lx_r h1 h2)
  · rcases h2 with h2 | h2
    · exact Or.inl (lx_l h2 (fun i hi => (h1 i hi).symm))
    · exact Or.inr (fun i hi => (h1 i hi).trans (h2 i hi))
theorem lxe_as {n : Nat} {A B : Nat → Nat} (h1 : lxe n A B) (h2 : lxe n B A) : ∀ i, i < n → A i = B i := by
  rcases h1 with h1 | h1
  · exact absurd h1 (lxe_no h2)
  · exact h1
/-- x comes in at place a -/
def ins (s : Nat → Nat) (a x : Nat) : Nat → Nat := fun i => if i < a then s i else if i = a then x else s (i - 1)
theorem ins_lt {s : Nat → Nat} {a x i : Nat} (h : i < a) : ins s a x i = s i := if_pos h
theorem ins_at (s : Nat → Nat) (a x : Nat) : ins s a x a = x := by unfold ins; rw [if_neg (by omega), if_pos rfl]
theorem ins_gt {s : Nat → Nat} {a x i : Nat} (h : a ≤ i) : ins s a x (i + 1) = s i := by unfold ins; rw [if_neg (by omega), if_neg (by omega), Nat.add_sub_cancel]
def srt (s : Nat → Nat) (m : Nat) : Prop := ∀ i, i + 1 < m → s i ≤ s (i + 1)
theorem srt_le {s : Nat → Nat} {m : Nat} (h : srt s m) : ∀ j i, i ≤ j → j < m → s i ≤ s j := by
  intro j
  induction j with
  | zero => intro i hi _; rw [show i = 0 by omega]; exact Nat.le_refl _
  | succ j ih =>
    intro i hi hj
    rcases Nat.lt_or_eq_of_le hi with q | q
    · exact Nat.le_trans (ih i (by omega) (by omega)) (h j hj)
    · subst q; exact Nat.le_refl _
theorem ins_srt {s : Nat → Nat} {a m x : Nat} (h : srt s m) (ha : a ≤ m) (h1 : a = 0 ∨ s (a - 1) ≤ x) (h2 : ∀ j, a ≤ j → j < m → x < s j) : srt (ins s a x) (m + 1) := by
  intro i hi
  rcases Nat.lt_trichotomy (i + 1) a with q | q | q
  · rw [ins_lt (by omega), ins_lt q]; exact h i (by omega)
  · subst q
    rw [ins_lt (by omega), ins_at]
    rcases h1 with h1 | h1
    · omega
    · exact h1
  · rw [ins_gt (by omega)]
    rcases Nat.lt_or_eq_of_le (show a ≤ i by omega) with q2 | q2
    · obtain ⟨i', rfl⟩ : ∃ i', i = i' + 1 := ⟨i - 1, by omega⟩
      rw [ins_gt (by omega)]
      exact h i' (by omega)
    · subst q2
      rw [ins_at]
      exact Nat.le_of_lt (h2 a (Nat.le_refl a) (by omega))
theorem ct_congr {p q : Nat → Bool} : ∀ m, (∀ i, i < m → p i = q i) → ct p m = ct q m
  | 0, _ => rfl
  | m + 1, h => by
    show ct p m + _ = ct q m + _
    rw [ct_congr m (fun i hi => h i (by omega)), h m (by omega)]
theorem ct_ins (q : Nat → Bool) (s : Nat → Nat) (a x : Nat) : ∀ m, a ≤ m → ct (fun j => q (ins s a x j)) (m + 1) = ct (fun j => q (s j)) m + (if q x then 1 else 0) := by
  intro m
  induction m with
  | zero =>
    intro ha
    have : a = 0 := by omega
    subst this
    show ct (fun j => q (ins s 0 x j)) 0 + (if q (ins s 0 x 0) then 1 else 0) = ct (fun j => q (s j)) 0 + _
    rw [ins_at]
    rfl
  | succ m ih =>
    intro ha
    show ct (fun j => q (ins s a x j)) (m + 1) + (if q (ins s a x (m + 1)) then 1 else 0) = (ct (fun j => q (s j)) m + (if q (s m) then 1 else 0)) + (if q x then 1 else 0)
    rcases Nat.lt_or_eq_of_le ha with h | h
    · rw [ih (by omega), ins_gt (by omega)]
      omega
    · subst h
      rw [ins_at, show ct (fun j => q (ins s (m + 1) x j)) (m + 1) = ct (fun j => q (s j)) (m + 1) from ct_congr _ (fun i hi => by rw [ins_lt hi])]
      rfl
theorem ct_mono (p : Nat → Bool) {a b : Nat} (h : a ≤ b) : ct p a ≤ ct p b := by
  induction b with
  | zero => rw [show a = 0 by omega]; exact Nat.le_refl _
  | succ b ih =>
    rcases Nat.lt_or_eq_of_le h with q | q
    · exact Nat.le_trans (ih (by omega)) (Nat.le_add_right _ _)
    · subst q; exact Nat.le_refl _
theorem ct_s (p : Nat → Bool) (m : Nat) : ct p (m + 1) = ct p m + (if p m then 1 else 0) := rfl
theorem ct_t {p : Nat → Bool} {m : Nat} (h : p m = true) : ct p (m + 1) = ct p m + 1 := by rw [ct_s, h]; rfl
theorem ct_f {p : Nat → Bool} {m : Nat} (h : p m = false) : ct p (m + 1) = ct p m := by rw [ct_s, h]; rfl
theorem wo_lt {a b : Nat} (ha : a < 2 ^ 9) : wo a b < 2 ^ 9 := Nat.xor_lt_two_pow ha (Nat.lt_of_le_of_lt Nat.and_le_left ha)
theorem wo_0 {a b : Nat} (h : wo a b = 0) : ∀ u, a.testBit u = true → b.testBit u = true := fun u hu => by
  have h1 := wo_bit a b u
  rw [h, Nat.zero_testBit, hu] at h1
  cases hb : b.testBit u with
  | true => rfl
  | false => rw [hb] at h1; exact absurd h1 (by decide)
theorem wo_n {a b : Nat} (h : wo a b ≠ 0) : ¬ ∀ u, a.testBit u = true → b.testBit u = true := fun hq => h (by
  apply Nat.eq_of_testBit_eq
  intro u
  rw [wo_bit, Nat.zero_testBit]
  cases ha : a.testBit u with
  | false => rfl
  | true => rw [hq u ha]; rfl)
