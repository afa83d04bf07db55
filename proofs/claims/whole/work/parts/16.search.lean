/-! ===== namings: partial ones that fit, their order; what place finds ===== -/
theorem CV.of {I I' : SI} {n : Nat} {T : Nat → Nat → Nat} {L : Nat → Nat → Nat → Nat} (h : CV I n T L) (h2 : I' 2 = I 2) (h3 : I' 3 = I 3) (h5 : I' 5 = I 5) : CV I' n T L := by
  unfold CV
  rw [h2, h3, h5]
  exact h
/-- the colours in the class's cells -/
def CC (I : SI) (n : Nat) (K : Nat → Nat → Nat) : Prop := ∀ g, g < 2 → ∀ v, v < n → I 7 g v = nI (K g v) ∧ K g v < 18
theorem CC.of {I I' : SI} {n : Nat} {K : Nat → Nat → Nat} (h : CC I n K) (h7 : I' 7 = I 7) : CC I' n K := by
  unfold CC
  rw [h7]
  exact h
/-- vertex v may be led to w behind f's first v images -/
def ftn (K : Nat → Nat → Nat) (L : Nat → Nat → Nat → Nat) (g h : Nat) (f : Nat → Nat) (v w : Nat) : Prop := K g v = K h w ∧ ∀ u, u < v → L g v u = L h w (f u) ∧ L g u v = L h (f u) w
/-- the first k images are apart and fit -/
def tr (n : Nat) (K : Nat → Nat → Nat) (L : Nat → Nat → Nat → Nat) (g h : Nat) (f : Nat → Nat) (k : Nat) : Prop := ∀ i, i < k → f i < n ∧ (∀ j, j < i → f j ≠ f i) ∧ ftn K L g h f i (f i)
theorem ftn.of {K : Nat → Nat → Nat} {L : Nat → Nat → Nat → Nat} {g h : Nat} {f f' : Nat → Nat} {v w : Nat} (hf : ftn K L g h f v w) (he : ∀ i, i < v → f' i = f i) : ftn K L g h f' v w :=
  ⟨hf.1, fun u hu => by rw [he u hu]; exact hf.2 u hu⟩
theorem tr.of {n : Nat} {K : Nat → Nat → Nat} {L : Nat → Nat → Nat → Nat} {g h : Nat} {f f' : Nat → Nat} {k : Nat} (hf : tr n K L g h f k) (he : ∀ i, i < k → f' i = f i) : tr n K L g h f' k := fun i hi => by
  obtain ⟨h1, h2, h3⟩ := hf i hi
  refine ⟨by rw [he i hi]; exact h1, fun j hj => by rw [he i hi, he j (by omega)]; exact h2 j hj, ?_⟩
  rw [he i hi]
  exact h3.of (fun j hj => he j (by omega))
theorem tr.sub {n : Nat} {K : Nat → Nat → Nat} {L : Nat → Nat → Nat → Nat} {g h : Nat} {f : Nat → Nat} {k j : Nat} (hf : tr n K L g h f k) (hj : j ≤ k) : tr n K L g h f j := fun i hi => hf i (by omega)
theorem tr.step {n : Nat} {K : Nat → Nat → Nat} {L : Nat → Nat → Nat → Nat} {g h : Nat} {f : Nat → Nat} {k w : Nat} (hf : tr n K L g h f k) (hw : w < n) (hne : ∀ j, j < k → f j ≠ w) (hft : ftn K L g h f k w) : tr n K L g h (va_up f k w) (k + 1) := fun i hi => by
  rcases Nat.lt_or_eq_of_le (Nat.le_of_lt_succ hi) with h1 | h1
  · exact (hf.of (f' := va_up f k w) (fun j hj => va_up_ne _ _ (by omega))) i h1
  · subst h1
    rw [va_up_self]
    exact ⟨hw, fun j hj => by rw [va_up_ne _ _ (by omega)]; exact hne j hj, hft.of (fun j hj => va_up_ne _ _ (by omega))⟩
/-- f is before f' -/
def lx (n : Nat) (f f' : Nat → Nat) : Prop := ∃ k, k < n ∧ (∀ j, j < k → f j = f' j) ∧ f k < f' k
def lxe (n : Nat) (f f' : Nat → Nat) : Prop := lx n f f' ∨ ∀ i, i < n → f i = f' i
/-- what place seeks: behind f's first v images, and, if it resumes, behind f -/
def PC (n : Nat) (K : Nat → Nat → Nat) (L : Nat → Nat → Nat → Nat) (g h v : Nat) (rs : Bool) (f f' : Nat → Nat) : Prop := tr n K L g h f' n ∧ (∀ i, i < v → f' i = f i) ∧ (rs = true → lx n f f')
theorem PC.start {n : Nat} {K : Nat → Nat → Nat} {L : Nat → Nat → Nat → Nat} {g h v : Nat} {f f' : Nat → Nat} (hp : PC n K L g h v true f f') : f v ≤ f' v := by
  obtain ⟨k, hk, h1, h2⟩ := hp.2.2 rfl
  rcases Nat.lt_trichotomy k v with q | q | q
  · exact absurd (hp.2.1 k q) (by omega)
  · subst q; omega
  · exact Nat.le_of_eq (h1 v q)
theorem PC.down {n : Nat} {K : Nat → Nat → Nat} {L : Nat → Nat → Nat → Nat} {g h v w start : Nat} {rs : Bool} {f f' : Nat → Nat} (hs : rs = true → start = f v) (hp : PC n K L g h v rs f f') (hw : f' v = w) : PC n K L g h (v + 1) (rs && decide (w = start)) (va_up f v w) f' := by
  refine ⟨hp.1, fun i hi => ?_, fun hr => ?_⟩
  · rcases Nat.lt_or_eq_of_le (Nat.le_of_lt_succ hi) with h1 | h1
    · rw [va_up_ne _ _ (by omega)]; exact hp.2.1 i h1
    · subst h1; rw [va_up_self]; exact hw
  · obtain ⟨h1, h2⟩ := Bool.and_eq_true_iff.mp hr
    have e : w = f v := (of_decide_eq_true h2).trans (hs h1)
    subst e
    rw [va_up_id]
    exact hp.2.2 h1
theorem PC.up {n : Nat} {K : Nat → Nat → Nat} {L : Nat → Nat → Nat → Nat} {g h v w start : Nat} {rs : Bool} {f f' : Nat → Nat} (hv : v < n) (hs : rs = true → start = f v) (hw : rs = true → start ≤ w) (hp : PC n K L g h (v + 1) (rs && decide (w = start)) (va_up f v w) f') : PC n K L g h v rs f f' ∧ f' v = w := by
  have e : f' v = w := by rw [hp.2.1 v (by omega), va_up_self]
  have e2 : ∀ i, i < v → f' i = f i := fun i hi => by rw [hp.2.1 i (by omega), va_up_ne _ _ (by omega)]
  refine ⟨⟨hp.1, e2, fun hr => ?_⟩, e⟩
  by_cases h1 : w = start
  · have h2 := hp.2.2 (by rw [hr, decide_eq_true h1]; rfl)
    rw [h1, hs hr, va_up_id] at h2
    exact h2
  · exact ⟨v, hv, fun j hj => (e2 j hj).symm, by have := hs hr; have := hw hr; omega⟩
theorem PC.le {n : Nat} {K : Nat → Nat → Nat} {L : Nat → Nat → Nat → Nat} {g h v w start : Nat} {rs : Bool} {f f' : Nat → Nat} (hv : v < n) (hs : rs = true → start = f v) (hinv : ∀ f2, PC n K L g h v rs f f2 → w ≤ f2 v) (hp1 : PC n K L g h v rs f f' ∧ f' v = w) (hm : ∀ f2, PC n K L g h (v + 1) (rs && decide (w = start)) (va_up f v w) f2 → lxe n f' f2) : ∀ f2, PC n K L g h v rs f f2 → lxe n f' f2 := fun f2 h2 => by
  rcases Nat.lt_or_eq_of_le (hinv f2 h2) with q | q
  · exact Or.inl ⟨v, hv, fun j hj => by rw [hp1.1.2.1 j hj, h2.2.1 j hj], by rw [hp1.2]; exact q⟩
  · exact hm f2 (h2.down hs q.symm)
theorem PC.not {n : Nat} {K : Nat → Nat → Nat} {L : Nat → Nat → Nat → Nat} {g h v w : Nat} {rs : Bool} {f : Nat → Nat} (hv : v < n) (hinv : ∀ f2, PC n K L g h v rs f f2 → w ≤ f2 v) (hno : (∃ j, j < v ∧ f j = w) ∨ ¬ ftn K L g h f v w) : ∀ f2, PC n K L g h v rs f f2 → w + 1 ≤ f2 v := fun f2 h2 => by
  rcases Nat.lt_or_eq_of_le (hinv f2 h2) with q | q
  · exact q
  · obtain ⟨-, b2, b3⟩ := h2.1 v hv
    rcases hno with ⟨j, hj, e⟩ | hno
    · exact absurd (by rw [h2.2.1 j hj, e, q]) (b2 j hj)
    · rw [← q] at b3
      exact absurd (b3.of (fun i hi => (h2.2.1 i hi).symm)) hno
theorem PC.none {n : Nat} {K : Nat → Nat → Nat} {L : Nat → Nat → Nat → Nat} {g h v w start : Nat} {rs : Bool} {f : Nat → Nat} (hs : rs = true → start = f v) (hinv : ∀ f2, PC n K L g h v rs f f2 → w ≤ f2 v) (hno : ∀ f2, ¬ PC n K L g h (v + 1) (rs && decide (w = start)) (va_up f v w) f2) : ∀ f2, PC n K L g h v rs f f2 → w + 1 ≤ f2 v := fun f2 h2 => by
  rcases Nat.lt_or_eq_of_le (hinv f2 h2) with q | q
  · exact q
  · exact absurd (h2.down hs q.symm) (hno f2)
/-- the bits of t are f's first v images -/
def tkn (t : Nat) (f : Nat → Nat) (v : Nat) : Prop := t < 2 ^ 9 ∧ ∀ w, t.testBit w = true ↔ ∃ j, j < v ∧ f j = w
theorem tkn.step {t : Nat} {f : Nat → Nat} {v w : Nat} (h : tkn t f v) (hw : w < 9) : tkn (t ||| 2 ^ w) (va_up f v w) (v + 1) := by
  refine ⟨Nat.or_lt_two_pow h.1 (Nat.pow_lt_pow_right (by decide) hw), fun x => ?_⟩
  rw [Nat.testBit_or, Nat.testBit_two_pow, Bool.or_eq_true, h.2 x, decide_eq_true_iff]
  constructor
  · rintro (⟨j, hj, e⟩ | e)
    · exact ⟨j, by omega, by rw [va_up_ne _ _ (by omega)]; exact e⟩
    · exact ⟨v, by omega, by rw [va_up_self]; exact e⟩
  · rintro ⟨j, hj, e⟩
    by_cases q : j = v
    · subst q
      rw [va_up_self] at e
      exact Or.inr e
    · rw [va_up_ne _ _ q] at e
      exact Or.inl ⟨j, by omega, e⟩
