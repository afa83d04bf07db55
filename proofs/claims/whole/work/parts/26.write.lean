/-! ===== write: what it keeps, what it finds ===== -/
theorem ct_img {n : Nat} : ∀ (d : Nat) (f : Nat → Nat) (p : Nat → Bool), (∀ i j, i < d → j < d → f i = f j → i = j) → (∀ i, i < d → f i < n) → (∀ a, a < n → (p a = true ↔ ∃ j, j < d ∧ f j = a)) → ct p n = d := by
  intro d
  induction d with
  | zero =>
    intro f p _ _ h
    refine ct_none n (fun a ha => ?_)
    cases hp : p a with
    | false => rfl
    | true => obtain ⟨j, hj, -⟩ := (h a ha).mp hp; omega
  | succ d ih =>
    intro f p hi hl h
    have h1 := ih f (fun a => p a && decide (a ≠ f d)) (fun i j a b => hi i j (by omega) (by omega)) (fun i hi => hl i (by omega)) (fun a ha => by
      rw [Bool.and_eq_true, h a ha, decide_eq_true_iff]
      constructor
      · rintro ⟨⟨j, hj, e⟩, hne⟩
        exact ⟨j, by have : j ≠ d := fun q => hne (by rw [← e, q]); omega, e⟩
      · rintro ⟨j, hj, e⟩
        exact ⟨⟨j, by omega, e⟩, fun q => by have := hi j d (by omega) (by omega) (by rw [e, q]); omega⟩)
    have h2 := ct_upd (p := p) (q := fun a => p a && decide (a ≠ f d)) (k := f d) (fun i hne => by show p i = (p i && decide (i ≠ f d)); rw [decide_eq_true hne, Bool.and_true]) n (hl d (by omega))
    have h3 : p (f d) = true := (h (f d) (hl d (by omega))).mpr ⟨d, by omega, rfl⟩
    have h4 : decide (f d ≠ f d) = false := decide_eq_false (fun q => q rfl)
    rw [h1] at h2
    simp only [h3, h4, Bool.and_false] at h2
    simpa using h2
theorem sel_ct {n d tk v : Nat} {f : Nat → Nat} (hf : ∀ i, i < d → f i < n) (hi : ∀ i j, i < d → j < d → f i = f j → i = j) (htk : ∀ w, tk.testBit w = true ↔ ∃ j, j < d ∧ f j = w) (hv : v < n) (hvt : tk.testBit v = false) : ct (sel tk v) n + (d + 1) = n := by
  have hno : ∀ j, j < d → f j ≠ v := fun j hj e => by
    have := (htk v).mpr ⟨j, hj, e⟩
    rw [hvt] at this
    exact absurd this (by decide)
  have h1 : ct (fun a => !sel tk v a) n = d + 1 := ct_img (d + 1) (va_up f d v) _ (fun i j h1 h2 e => by
      by_cases a : i = d <;> by_cases b : j = d
      · omega
      · subst a; rw [va_up_self, va_up_ne _ _ b] at e; exact absurd e.symm (hno j (by omega))
      · subst b; rw [va_up_self, va_up_ne _ _ a] at e; exact absurd e (hno i (by omega))
      · rw [va_up_ne _ _ a, va_up_ne _ _ b] at e; exact hi i j (by omega) (by omega) e) (fun i h1 => by
      by_cases a : i = d
      · subst a; rw [va_up_self]; exact hv
      · rw [va_up_ne _ _ a]; exact hf i (by omega)) (fun a ha => by
      constructor
      · intro h
        by_cases e : a = v
        · exact ⟨d, by omega, by rw [va_up_self]; exact e.symm⟩
        · cases ht : tk.testBit a with
          | false => rw [sel_t e ht] at h; exact absurd h (by decide)
          | true =>
            obtain ⟨j, hj, e2⟩ := (htk a).mp ht
            exact ⟨j, by omega, by rw [va_up_ne _ _ (by omega)]; exact e2⟩
      · rintro ⟨j, hj, e⟩
        by_cases q : j = d
        · subst q; rw [va_up_self] at e; rw [sel_v e.symm]; rfl
        · rw [va_up_ne _ _ q] at e; rw [sel_f ((htk a).mpr ⟨j, by omega, e⟩)]; rfl)
  have h2 := ct_not (sel tk v) n
  omega
/-- the longs that write changes -/
def CH (J : SJ) (A R C D : Nat → Nat → Int64) : SJ := sK (sK (sK (sK J 9 A) 22 R) 23 C) 25 D
theorem ch_id (J : SJ) : CH J (J 9) (J 22) (J 23) (J 25) = J := by
  unfold CH
  rw [sK_id]
  have : sK J 22 (J 22) = J := sK_id J 22
  rw [this]
  have : sK J 23 (J 23) = J := sK_id J 23
  rw [this]
  exact sK_id J 25
theorem ch9 (J : SJ) (A R C D A' : Nat → Nat → Int64) : sK (CH J A R C D) 9 A' = CH J A' R C D := by
  unfold CH
  rw [sK_swap _ (by decide : (25 : Nat) ≠ 9), sK_swap _ (by decide : (23 : Nat) ≠ 9), sK_swap _ (by decide : (22 : Nat) ≠ 9), sK_sK]
theorem ch22 (J : SJ) (A R C D R' : Nat → Nat → Int64) : sK (CH J A R C D) 22 R' = CH J A R' C D := by
  unfold CH
  rw [sK_swap _ (by decide : (25 : Nat) ≠ 22), sK_swap _ (by decide : (23 : Nat) ≠ 22), sK_sK]
theorem ch23 (J : SJ) (A R C D C' : Nat → Nat → Int64) : sK (CH J A R C D) 23 C' = CH J A R C' D := by
  unfold CH
  rw [sK_swap _ (by decide : (25 : Nat) ≠ 23), sK_sK]
theorem ch25 (J : SJ) (A R C D D' : Nat → Nat → Int64) : sK (CH J A R C D) 25 D' = CH J A R C D' := by
  unfold CH
  rw [sK_sK]
theorem ch_9 (J : SJ) (A R C D : Nat → Nat → Int64) : CH J A R C D 9 = A := (sK_ne (by decide)).trans ((sK_ne (by decide)).trans ((sK_ne (by decide)).trans (sK_self _ _ _)))
theorem ch_22 (J : SJ) (A R C D : Nat → Nat → Int64) : CH J A R C D 22 = R := (sK_ne (by decide)).trans ((sK_ne (by decide)).trans (sK_self _ _ _))
theorem ch_23 (J : SJ) (A R C D : Nat → Nat → Int64) : CH J A R C D 23 = C := (sK_ne (by decide)).trans (sK_self _ _ _)
theorem ch_25 (J : SJ) (A R C D : Nat → Nat → Int64) : CH J A R C D 25 = D := sK_self _ _ _
theorem ch_ch (J : SJ) (A R C D A' R' C' D' : Nat → Nat → Int64) : CH (CH J A R C D) A' R' C' D' = CH J A' R' C' D' := by
  show sK (sK (sK (sK (CH J A R C D) 9 A') 22 R') 23 C') 25 D' = _
  rw [ch9, ch22, ch23, ch25]
/-- B' is the least of B and all that begins as f's first d do -/
def MB (n : Nat) (T : Nat → Nat → Nat) (L : Nat → Nat → Nat → Nat) (g : Nat) (f : Nat → Nat) (d : Nat) (B B' : Nat → Nat) : Prop :=
  lxe n B' B ∧ (∀ f', nmg n f' → (∀ i, i < d → f' i = f i) → lxe n B' (Rq T L g f')) ∧ ((∀ i, i < n → B' i = B i) ∨ ∃ f', nmg n f' ∧ (∀ i, i < d → f' i = f i) ∧ ∀ i, i < n → B' i = Rq T L g f' i)
/-- of the candidates fd those that are no longer open are done -/
def WI (n : Nat) (T : Nat → Nat → Nat) (L : Nat → Nat → Nat → Nat) (g : Nat) (f : Nat → Nat) (d fd op : Nat) (B B' : Nat → Nat) : Prop :=
  lxe n B' B ∧ (∀ f', nmg n f' → (∀ i, i < d → f' i = f i) → fd.testBit (f' d) = true → op.testBit (f' d) = false → lxe n B' (Rq T L g f')) ∧ ((∀ i, i < n → B' i = B i) ∨ ∃ f', nmg n f' ∧ (∀ i, i < d → f' i = f i) ∧ ∀ i, i < n → B' i = Rq T L g f' i)
theorem WI.step {n : Nat} {T : Nat → Nat → Nat} {L : Nat → Nat → Nat → Nat} {g d fd op v : Nat} {f B B1 B2 : Nat → Nat} (h : WI n T L g f d fd op B B1) (hm : MB n T L g (va_up f d v) (d + 1) B1 B2) : WI n T L g f d fd (wo op (2 ^ v)) B B2 := by
  refine ⟨lxe_tr hm.1 h.1, fun f' h1 h2 h3 h4 => ?_, ?_⟩
  · by_cases e : f' d = v
    · exact hm.2.1 f' h1 (fun i hi => by
        rcases Nat.lt_or_eq_of_le (Nat.le_of_lt_succ hi) with q | q
        · rw [va_up_ne _ _ (by omega)]; exact h2 i q
        · subst q; rw [va_up_self]; exact e)
    · refine lxe_tr hm.1 (h.2.1 f' h1 h2 h3 ?_)
      rw [wo_bit, Nat.testBit_two_pow, decide_eq_false (Ne.symm e)] at h4
      simpa using h4
  · rcases hm.2.2 with q | ⟨f', h1, h2, h3⟩
    · rcases h.2.2 with q2 | ⟨f', h1, h2, h3⟩
      · exact Or.inl (fun i hi => (q i hi).trans (q2 i hi))
      · exact Or.inr ⟨f', h1, h2, fun i hi => (q i hi).trans (h3 i hi)⟩
    · exact Or.inr ⟨f', h1, fun i hi => by rw [h2 i (by omega), va_up_ne _ _ (by omega)], h3⟩
/-- bu is a bound of what has u at place d -/
def bnd (n : Nat) (T : Nat → Nat → Nat) (L : Nat → Nat → Nat → Nat) (g : Nat) (f : Nat → Nat) (d u : Nat) (bu : Nat → Nat) : Prop :=
  (∀ i, i < n → bu i < 2 ^ 60) ∧ (∀ f', nmg n f' → (∀ i, i < d → f' i = f i) → f' d = u → lxe n bu (Rq T L g f')) ∧ (d + 1 = n → ∀ i, i < n → bu i = Rq T L g (va_up f d u) i)
theorem p16 {d : Nat} (h : d ≤ 8) : 16 ^ d ≤ 4294967296 := Nat.le_trans (Nat.pow_le_pow_right (by decide) h) (by decide)
theorem bnd.mk {n : Nat} {T : Nat → Nat → Nat} {L : Nat → Nat → Nat → Nat} {g d tk v le : Nat} {f s : Nat → Nat} (hn9 : n ≤ 9) (hd : d < n) (h4 : sm4 n T L g) (hfn : ∀ i, i < d → f i < n) (htk : ∀ w, tk.testBit w = true ↔ ∃ j, j < d ∧ f j = w) (hle : le = rv T L g f d v) (hvn : v < n)
    (hS : bS tk v (fun a => rv T L g f d a * 16 + pr L g a v) (4 * 16 ^ (d + 1)) n (ct (sel tk v) n) s) (hm : ct (sel tk v) n + (d + 1) = n) : bnd n T L g f d v (fun i => if i < d then Rq T L g f i else if i = d then le else s (i - (d + 1)) * 16 ^ (i - (d + 1))) := by
  have hlt := rv_lt (f := f) h4 hvn d hfn
  have hp := p16 (show d ≤ 8 by omega)
  refine ⟨fun i hi => ?_, fun f' h1 h2 h3 => ?_, fun e i hi => ?_⟩
  · show (if i < d then Rq T L g f i else if i = d then le else s (i - (d + 1)) * 16 ^ (i - (d + 1))) < 2 ^ 60
    have e60 : (2 : Nat) ^ 60 = 1152921504606846976 := by decide
    split
    · rename_i q
      have := rv_lt (f := f) h4 (hfn i q) i (fun j hj => hfn j (by omega))
      have := p16 (show i ≤ 8 by omega)
      unfold Rq
      omega
    · split
      · omega
      · rename_i q1 q2
        have h5 := hS.2.2.1 (i - (d + 1)) (by omega)
        have h6 := p16 (show d + 1 + (i - (d + 1)) ≤ 8 by omega)
        have h7 : s (i - (d + 1)) * 16 ^ (i - (d + 1)) ≤ 4 * 16 ^ (d + 1) * 16 ^ (i - (d + 1)) := Nat.mul_le_mul (Nat.le_of_lt h5) (Nat.le_refl _)
        rw [Nat.mul_assoc, ← Nat.pow_add] at h7
        omega
  · refine bound_le (b := fun i => if i < d then Rq T L g f i else if i = d then le else s (i - (d + 1)) * 16 ^ (i - (d + 1))) h4 htk (fun i hi => if_pos hi) ?_ (fun j hj => ?_) hS (by omega) h1 h2 h3
    · show (if d < d then _ else if d = d then le else _) = _
      rw [if_neg (Nat.lt_irrefl d), if_pos rfl, hle]
    · show (if d + 1 + j < d then _ else if d + 1 + j = d then le else s (d + 1 + j - (d + 1)) * 16 ^ (d + 1 + j - (d + 1))) = _
      rw [if_neg (by omega), if_neg (by omega), show d + 1 + j - (d + 1) = j by omega]
  · show (if i < d then Rq T L g f i else if i = d then le else s (i - (d + 1)) * 16 ^ (i - (d + 1))) = _
    by_cases q : i < d
    · rw [if_pos q]
      exact Rq_congr (fun j hj => by rw [va_up_ne _ _ (by omega)])
    · have q2 : i = d := by omega
      subst q2
      rw [if_neg q, if_pos rfl, hle]
      unfold Rq
      rw [va_up_self]
      exact rv_congr i v (fun j hj => by rw [va_up_ne _ _ (by omega)])
/-- when no open one promises less, all candidates are done -/
theorem WI.fin {n : Nat} {T : Nat → Nat → Nat} {L : Nat → Nat → Nat → Nat} {g d tk fd le op : Nat} {f lk B B1 : Nat → Nat} (hn9 : n ≤ 9) (hd : d < n) (h4 : sm4 n T L g) (hfn : ∀ i, i < d → f i < n) (htk : ∀ w, tk.testBit w = true ↔ ∃ j, j < d ∧ f j = w) (hlk : ∀ v, v < n → lks n T L g v v (lk v)) (hc : cnd tk lk (rv T L g f d) n fd le) (h : WI n T L g f d fd op B B1)
    (ho : ∀ f', nmg n f' → (∀ i, i < d → f' i = f i) → op.testBit (f' d) = true → lxe n B1 (Rq T L g f')) : MB n T L g f d B B1 :=
  ⟨h.1, cand_enough hn9 hd h4 hfn htk hlk hc (fun f' h1 h2 h3 => by
    cases hb : op.testBit (f' d) with
    | true => exact ho f' h1 h2 hb
    | false => exact h.2.1 f' h1 h2 h3 hb), h.2.2⟩
