/-! ===== the least vertices of orbits, as they are joined; the product ===== -/
noncomputable def dc (P : Prop) : Bool := @decide P (Classical.propDecidable P)
theorem dc_t {P : Prop} : dc P = true ↔ P := by
  unfold dc
  exact @decide_eq_true_iff P (Classical.propDecidable P)
theorem dc_f {P : Prop} (h : ¬ P) : dc P = false := by
  cases hh : dc P with
  | false => rfl
  | true => exact absurd (dc_t.mp hh) h
theorem CV.of2 {I I' : SI} {n : Nat} {T : Nat → Nat → Nat} {L : Nat → Nat → Nat → Nat} (h : CV I n T L) (h2 : ∀ g, I' 2 g 0 = I 2 g 0) (h3 : I' 3 = I 3) (h5 : I' 5 = I 5) : CV I' n T L :=
  ⟨h.1, fun g hg => by rw [h2, h3, h5]; exact h.2 g hg⟩
theorem up2_up2 {α : Type} (F : Nat → Nat → α) (r i : Nat) (x y : α) : up2 (up2 F r i x) r i y = up2 F r i y := by
  funext r' i'
  rw [up2_at, up2_at, up2_at]
  split <;> rfl
theorem sk3a {α : Type} (I : Nat → α) {a b c : Nat} (h1 : a ≠ b) (h2 : a ≠ c) (A A' B D : α) : sK (sK (sK (sK I a A) b B) c D) a A' = sK (sK (sK I a A') b B) c D := by
  rw [sK_swap _ (Ne.symm h2), sK_swap _ (Ne.symm h1), sK_sK]
theorem sk3b {α : Type} (I : Nat → α) {b c : Nat} (h : b ≠ c) (B B' D : α) : sK (sK (sK I b B) c D) b B' = sK (sK I b B') c D := by
  rw [sK_swap _ (Ne.symm h), sK_sK]
/-- o names of each vertex one that is no greater and names itself -/
def LO (n : Nat) (o : Nat → Nat) : Prop := ∀ i, i < n → o i ≤ i ∧ o (o i) = o i
/-- a relation among vertices -/
def EQV (n : Nat) (R : Nat → Nat → Prop) : Prop := (∀ i, i < n → R i i) ∧ (∀ i j, i < n → j < n → R i j → R j i) ∧ ∀ i j k, i < n → j < n → k < n → R i j → R j k → R i k
/-- o' joins what o does, and x with f x for x < v -/
def JO (n : Nat) (f o o' : Nat → Nat) (v : Nat) : Prop := LO n o' ∧ (∀ i j, i < n → j < n → o i = o j → o' i = o' j) ∧ (∀ x, x < v → o' x = o' (f x)) ∧ ∀ R, EQV n R → (∀ i, i < n → R i (o i)) → (∀ x, x < n → R x (f x)) → ∀ i, i < n → R i (o' i)
theorem JO.z {n : Nat} {f o : Nat → Nat} (h : LO n o) : JO n f o o 0 := ⟨h, fun _ _ _ _ e => e, fun x hx => absurd hx (Nat.not_lt_zero x), fun _ _ h1 _ => h1⟩
theorem JO.same {n : Nat} {f o o' : Nat → Nat} {v : Nat} (h : JO n f o o' v) (e : o' v = o' (f v)) : JO n f o o' (v + 1) :=
  ⟨h.1, h.2.1, fun x hx => (Nat.lt_or_eq_of_le (Nat.le_of_lt_succ hx)).elim (h.2.2.1 x) (fun q => by rw [q]; exact e), h.2.2.2⟩
/-- every M becomes m -/
def rpl (o : Nat → Nat) (M m : Nat) : Nat → Nat := fun i => if o i = M then m else o i
theorem JO.join {n : Nat} {f o o' : Nat → Nat} {v : Nat} (hv : v < n) (hf : ∀ x, x < n → f x < n) (h : JO n f o o' v) (e : o' v ≠ o' (f v)) : JO n f o (rpl o' (max (o' v) (o' (f v))) (min (o' v) (o' (f v)))) (v + 1) := by
  obtain ⟨h1, h2, h3, h4⟩ := h
  have hfv := hf v hv
  obtain ⟨a1, a2⟩ := h1 v hv
  obtain ⟨b1, b2⟩ := h1 (f v) hfv
  generalize ha : o' v = a at *
  generalize hb : o' (f v) = b at *
  have hM : o' (max a b) = max a b := by
    rcases Nat.le_total a b with q | q
    · rw [Nat.max_eq_right q]; exact b2
    · rw [Nat.max_eq_left q]; exact a2
  have hm : o' (min a b) = min a b := by
    rcases Nat.le_total a b with q | q
    · rw [Nat.min_eq_left q]; exact a2
    · rw [Nat.min_eq_right q]; exact b2
  have hlt : min a b < max a b := by omega
  have hne : ∀ i, o' i = max a b → rpl o' (max a b) (min a b) i = min a b := fun i q => if_pos q
  have hno : ∀ i, o' i ≠ max a b → rpl o' (max a b) (min a b) i = o' i := fun i q => if_neg q
  refine ⟨fun i hi => ?_, fun i j hi hj q => ?_, fun x hx => ?_, fun R hR r1 r2 i hi => ?_⟩
  · by_cases q : o' i = max a b
    · rw [hne i q, hno _ (by rw [hm]; omega), hm]
      exact ⟨by have := (h1 i hi).1; omega, rfl⟩
    · rw [hno i q, hno _ (by rw [(h1 i hi).2]; exact q)]
      exact h1 i hi
  · have q2 := h2 i j hi hj q
    unfold rpl
    rw [q2]
  · rcases Nat.lt_or_eq_of_le (Nat.le_of_lt_succ hx) with q | q
    · unfold rpl
      rw [h3 x q]
    · subst q
      unfold rpl
      rw [ha, hb]
      rcases Nat.le_total a b with q | q
      · rw [Nat.max_eq_right q, Nat.min_eq_left q, if_pos rfl, if_neg e]
      · rw [Nat.max_eq_left q, Nat.min_eq_right q, if_pos rfl, if_neg (Ne.symm e)]
  · have ri := h4 R hR r1 r2 i hi
    by_cases q : o' i = max a b
    · rw [hne i q]
      rw [q] at ri
      have rv := h4 R hR r1 r2 v hv
      have rf := h4 R hR r1 r2 (f v) hfv
      rw [ha] at rv
      rw [hb] at rf
      have an : a < n := by omega
      have bn : b < n := by omega
      have rab : R a b := hR.2.2 a v b an hv bn (hR.2.1 v a hv an rv) (hR.2.2 v (f v) b hv hfv bn (r2 v hv) rf)
      rcases Nat.le_total a b with q2 | q2
      · rw [Nat.max_eq_right q2] at ri
        rw [Nat.min_eq_left q2]
        exact hR.2.2 i b a hi bn an ri (hR.2.1 a b an bn rab)
      · rw [Nat.max_eq_left q2] at ri
        rw [Nat.min_eq_right q2]
        exact hR.2.2 i a b hi an bn ri rab
    · rw [hno i q]
      exact ri
/-- the number of symmetries, as a product -/
noncomputable def sn (n : Nat) (K : Nat → Nat → Nat) (L : Nat → Nat → Nat → Nat) (g : Nat) : Nat → Nat
  | 0 => 1
  | v + 1 => sn n K L g v * (1 + ct (fun w => dc (v < w ∧ ∃ f, syn n K L g v w f)) n)
theorem ct_none {p : Nat → Bool} : ∀ m, (∀ i, i < m → p i = false) → ct p m = 0
  | 0, _ => rfl
  | m + 1, h => by
    show ct p m + _ = 0
    rw [ct_none m (fun i hi => h i (by omega)), h m (by omega)]
    rfl
theorem ct_lt {p : Nat → Bool} {n i : Nat} (hi : i < n) (h : p i = false) : ct p n < n := by
  induction n with
  | zero => omega
  | succ n ih =>
    show ct p n + (if p n then 1 else 0) < n + 1
    by_cases e : i = n
    · subst e
      rw [h]
      have := ct_le p i
      simp
      omega
    · have := ih (by omega)
      split <;> omega
theorem sn_le {n : Nat} {K : Nat → Nat → Nat} {L : Nat → Nat → Nat → Nat} {g : Nat} (hn : n ≤ 9) : ∀ v, v ≤ n → sn n K L g v ≤ 9 ^ v
  | 0, _ => Nat.le_refl 1
  | v + 1, hv => by
    have h1 := sn_le (K := K) (L := L) (g := g) hn v (by omega)
    have h2 := ct_lt (p := fun w => dc (v < w ∧ ∃ f, syn n K L g v w f)) (n := n) (i := v) (by omega) (dc_f (fun q => by omega))
    show sn n K L g v * _ ≤ 9 ^ (v + 1)
    rw [Nat.pow_succ]
    exact Nat.mul_le_mul h1 (by omega)
/-- what the least vertices say: found symmetries join, and nothing else does -/
def OR (n : Nat) (K : Nat → Nat → Nat) (L : Nat → Nat → Nat → Nat) (g : Nat) (o : Nat → Nat) (D : Nat → Nat → Prop) : Prop :=
  LO n o ∧ (∀ v w, D v w → v < w → w < n → (∃ f, syn n K L g v w f) → ∃ f, syn n K L g v w f ∧ ∀ x, x < n → o x = o (f x)) ∧ ∀ R, EQV n R → (∀ f, tr n K L g g f n → ∀ x, x < n → R x (f x)) → ∀ i, i < n → R i (o i)
theorem OR.z (n : Nat) (K : Nat → Nat → Nat) (L : Nat → Nat → Nat → Nat) (g : Nat) {o : Nat → Nat} (ho : ∀ i, i < n → o i = i) : OR n K L g o (fun _ _ => False) :=
  ⟨fun i hi => by rw [ho i hi, ho i hi]; exact ⟨Nat.le_refl i, rfl⟩, fun _ _ h => h.elim, fun R hR _ i hi => by rw [ho i hi]; exact hR.1 i hi⟩
theorem OR.mono {n : Nat} {K : Nat → Nat → Nat} {L : Nat → Nat → Nat → Nat} {g : Nat} {o : Nat → Nat} {D D' : Nat → Nat → Prop} (h : OR n K L g o D) (hd : ∀ v w, v < w → w < n → D' v w → (∃ f, syn n K L g v w f) → D v w) : OR n K L g o D' :=
  ⟨h.1, fun v w h1 h2 h3 h4 => h.2.1 v w (hd v w h2 h3 h1 h4) h2 h3 h4, h.2.2⟩
theorem OR.join {n : Nat} {K : Nat → Nat → Nat} {L : Nat → Nat → Nat → Nat} {g : Nat} {o o' : Nat → Nat} {D D' : Nat → Nat → Prop} {v w : Nat} {f : Nat → Nat} (h : OR n K L g o D) (hs : syn n K L g v w f) (hj : JO n f o o' n) (hd : ∀ a b, a < b → b < n → D' a b → (∃ f, syn n K L g a b f) → D a b ∨ (a = v ∧ b = w)) : OR n K L g o' D' := by
  refine ⟨hj.1, fun a b h1 h2 h3 h4 => ?_, fun R hR r1 i hi => hj.2.2.2 R hR (h.2.2 R hR r1) (r1 f hs.1) i hi⟩
  rcases hd a b h2 h3 h1 h4 with q | ⟨rfl, rfl⟩
  · obtain ⟨f2, e1, e2⟩ := h.2.1 a b q h2 h3 h4
    exact ⟨f2, e1, fun x hx => hj.2.1 x (f2 x) hx (e1.1 x hx).1 (e2 x hx)⟩
  · exact ⟨f, hs, hj.2.2.1⟩
