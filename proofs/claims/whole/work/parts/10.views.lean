/-! ===== small numbers; what the class's cells say ===== -/
theorem inc1 (a : Nat) : nI a + Int32.ofInt 1 = nI (a + 1) := nI_1 a
theorem dec1 {a : Nat} (h : 0 < a) : nI a + Int32.ofInt (-1) = nI (a - 1) := sb_m1 h
theorem nar_b (p : Bool) : narrow .boolean (.int (bI p)) = .int (bI p) := by cases p <;> decide
theorem fit_b (p : Bool) : fits .boolean (.int (bI p)) = true := by cases p <;> decide
/-- how many i < n have p -/
def ct (p : Nat → Bool) : Nat → Nat
  | 0 => 0
  | n + 1 => ct p n + (if p n then 1 else 0)
/-- the sum of f i for i < n -/
def sm (f : Nat → Nat) : Nat → Nat
  | 0 => 0
  | n + 1 => sm f n + f n
theorem ct_le (p : Nat → Bool) : ∀ n, ct p n ≤ n
  | 0 => Nat.le_refl 0
  | n + 1 => by
    have h := ct_le p n
    show ct p n + (if p n then 1 else 0) ≤ n + 1
    split <;> omega
theorem sm_le {f : Nat → Nat} {b : Nat} (h : ∀ i, f i ≤ b) : ∀ n, sm f n ≤ b * n
  | 0 => Nat.le_refl 0
  | n + 1 => by
    have h1 := sm_le h n
    have h2 := h n
    show sm f n + f n ≤ b * (n + 1)
    rw [Nat.mul_add]
    omega
/-- the graphs in the class's cells: n vertices, tints T g v, labels L g u v -/
def CV (I : SI) (n : Nat) (T : Nat → Nat → Nat) (L : Nat → Nat → Nat → Nat) : Prop :=
  (1 ≤ n ∧ n ≤ 9) ∧ ∀ g, g < 2 → I 2 g 0 = nI n ∧ (∀ v, v < n → I 3 g v = nI (T g v) ∧ T g v < 4) ∧ ∀ u v, u < n → v < n → I 5 (9 * g + u) v = nI (L g u v) ∧ L g u v < 4
theorem CV.sz {I : SI} {n : Nat} {T : Nat → Nat → Nat} {L : Nat → Nat → Nat → Nat} (h : CV I n T L) {g : Nat} (hg : g < 2) : I 2 g 0 = nI n := (h.2 g hg).1
theorem CV.t {I : SI} {n : Nat} {T : Nat → Nat → Nat} {L : Nat → Nat → Nat → Nat} (h : CV I n T L) {g v : Nat} (hg : g < 2) (hv : v < n) : I 3 g v = nI (T g v) := ((h.2 g hg).2.1 v hv).1
theorem CV.t4 {I : SI} {n : Nat} {T : Nat → Nat → Nat} {L : Nat → Nat → Nat → Nat} (h : CV I n T L) {g v : Nat} (hg : g < 2) (hv : v < n) : T g v < 4 := ((h.2 g hg).2.1 v hv).2
theorem CV.l {I : SI} {n : Nat} {T : Nat → Nat → Nat} {L : Nat → Nat → Nat → Nat} (h : CV I n T L) {g u v : Nat} (hg : g < 2) (hu : u < n) (hv : v < n) : I 5 (9 * g + u) v = nI (L g u v) := ((h.2 g hg).2.2 u v hu hv).1
theorem CV.l4 {I : SI} {n : Nat} {T : Nat → Nat → Nat} {L : Nat → Nat → Nat → Nat} (h : CV I n T L) {g u v : Nat} (hg : g < 2) (hu : u < n) (hv : v < n) : L g u v < 4 := ((h.2 g hg).2.2 u v hu hv).2
/-- both labels between two vertices in one number -/
def pr (L : Nat → Nat → Nat → Nat) (g u v : Nat) : Nat := 4 * L g u v + L g v u
/-- the number of edges -/
def ed (n : Nat) (L : Nat → Nat → Nat → Nat) (g : Nat) : Nat := sm (fun u => ct (fun v => decide (0 < L g u v)) n) n
def isG (g : Int32) : Bool := decide (g = 0 ∨ g = 1)
def isM (x : Int32) : Bool := decide (0 ≤ x ∧ x ≤ 3)
def isV (n : Nat) (g v : Int32) : Bool := isG g && decide (0 ≤ v ∧ v < nI n)
theorem isG_t {g : Int32} (h : isG g = true) : ∃ k : Nat, k < 2 ∧ g = nI k := by
  rcases of_decide_eq_true h with e | e
  · exact ⟨0, by decide, e⟩
  · exact ⟨1, by decide, e⟩
theorem ge0_of {x : Int32} (h : 0 ≤ x) : ∃ j : Nat, j < 2 ^ 31 ∧ x = nI j := nI_of (Int32.not_lt.mpr h)
theorem isM_t {x : Int32} (h : isM x = true) : ∃ k : Nat, k < 4 ∧ x = nI k := by
  obtain ⟨h1, h2⟩ := of_decide_eq_true h
  obtain ⟨j, hj, rfl⟩ := ge0_of h1
  exact ⟨j, Nat.lt_succ_of_le ((nI_leI (b := 3) hj (by decide)).mp h2), rfl⟩
theorem isV_t {n : Nat} {g v : Int32} (hn : n < 2 ^ 31) (h : isV n g v = true) : ∃ a b : Nat, a < 2 ∧ b < n ∧ g = nI a ∧ v = nI b := by
  obtain ⟨h1, h2⟩ := Bool.and_eq_true_iff.mp h
  obtain ⟨a, ha, rfl⟩ := isG_t h1
  obtain ⟨h3, h4⟩ := of_decide_eq_true h2
  obtain ⟨b, hb, rfl⟩ := ge0_of h3
  exact ⟨a, b, ha, (nI_ltI hb hn).mp h4, rfl, rfl⟩
theorem ret1 {p : Bool} (h : p = true) : some (Value.int (nI 1)) = some (.int (bI p)) := by rw [h]; rfl
theorem ret0 {p : Bool} (h : p = false) : some (Value.int (nI 0)) = some (.int (bI p)) := by rw [h]; rfl
