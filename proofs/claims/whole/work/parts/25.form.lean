/-! ===== forms: rows of a written graph, bounds, what is enough to try ===== -/
theorem ct_upd {p q : Nat → Bool} {k : Nat} (he : ∀ i, i ≠ k → p i = q i) : ∀ n, k < n → ct p n + (if q k then 1 else 0) = ct q n + (if p k then 1 else 0) := by
  intro n
  induction n with
  | zero => intro h; omega
  | succ n ih =>
    intro h
    rw [ct_s, ct_s]
    by_cases e : k = n
    · subst e
      rw [ct_congr (p := p) (q := q) k (fun i hi => he i (by omega))]
      omega
    · have := ih (by omega)
      rw [he n (Ne.symm e)]
      omega
theorem ct_pos {p : Nat → Bool} {n : Nat} (h : 0 < ct p n) : ∃ i, i < n ∧ p i = true := by
  induction n with
  | zero => exact absurd h (by show ¬ 0 < 0; omega)
  | succ n ih =>
    cases e : p n with
    | true => exact ⟨n, by omega, e⟩
    | false =>
      rw [ct_f e] at h
      obtain ⟨i, a, b⟩ := ih h
      exact ⟨i, by omega, b⟩
theorem ct_in {p : Nat → Bool} {n i : Nat} (hi : i < n) (h : p i = true) : 0 < ct p n := by
  have h1 := ct_mono p (show i + 1 ≤ n by omega)
  rw [ct_t h] at h1
  omega
theorem ct_one {m n : Nat} (h : m < n) : ct (fun i => decide (i = m)) n = 1 := by
  have h1 := ct_upd (p := fun _ => false) (q := fun i => decide (i = m)) (k := m) (fun i hi => (decide_eq_false hi).symm) n h
  rw [ct_none n (fun _ _ => rfl)] at h1
  simp at h1
  omega
theorem ct_add (p : Nat → Bool) (a : Nat) : ∀ t, ct p (a + t) = ct p a + ct (fun i => p (a + i)) t
  | 0 => rfl
  | t + 1 => by
    rw [← Nat.add_assoc, ct_s, ct_add p a t, ct_s]
    omega
theorem ct_all {p : Nat → Bool} : ∀ n, (∀ i, i < n → p i = true) → ct p n = n
  | 0, _ => rfl
  | n + 1, h => by rw [ct_t (h n (by omega)), ct_all n (fun i hi => h i (by omega))]
theorem ct_not (p : Nat → Bool) : ∀ n, ct (fun i => !p i) n + ct p n = n
  | 0 => rfl
  | n + 1 => by
    have := ct_not p n
    rw [ct_s, ct_s]
    cases p n <;> simp <;> omega
/-- a naming: all vertices, each once -/
def nmg (n : Nat) (f : Nat → Nat) : Prop := (∀ i, i < n → f i < n) ∧ ∀ i j, i < n → j < n → f i = f j → i = j
theorem ct_perm : ∀ (n : Nat) (f : Nat → Nat) (p : Nat → Bool), nmg n f → ct (fun i => p (f i)) n = ct p n := by
  intro n
  induction n with
  | zero => intro f p _; rfl
  | succ n ih =>
    intro f p h
    by_cases e : f n = n
    · have h1 : nmg n f := ⟨fun i hi => by have := h.1 i (by omega); have : f i ≠ n := fun q => absurd (h.2 i n (by omega) (by omega) (by rw [q, e])) (by omega); omega, fun i j hi hj q => h.2 i j (by omega) (by omega) q⟩
      rw [ct_s, ct_s, ih f p h1]
      show _ + (if p (f n) then 1 else 0) = _
      rw [e]
    · have hm : f n < n := by have := h.1 n (by omega); omega
      by_cases hk : ∃ k, k < n ∧ f k = n
      · obtain ⟨k, hk, ek⟩ := hk
        have h1 : nmg n (va_up f k (f n)) := by
          refine ⟨fun i hi => ?_, fun i j hi hj q => ?_⟩
          · by_cases q : i = k
            · subst q; rw [va_up_self]; exact hm
            · rw [va_up_ne _ _ q]
              have := h.1 i (by omega)
              have : f i ≠ n := fun z => q (h.2 i k (by omega) (by omega) (by rw [z, ek]))
              omega
          · by_cases qi : i = k <;> by_cases qj : j = k
            · omega
            · subst qi; rw [va_up_self, va_up_ne _ _ qj] at q
              exact absurd (h.2 n j (by omega) (by omega) q) (by omega)
            · subst qj; rw [va_up_self, va_up_ne _ _ qi] at q
              exact absurd (h.2 i n (by omega) (by omega) q) (by omega)
            · rw [va_up_ne _ _ qi, va_up_ne _ _ qj] at q
              exact h.2 i j (by omega) (by omega) q
        have h2 := ct_upd (p := fun i => p (f i)) (q := fun i => p (va_up f k (f n) i)) (k := k) (fun i hi => by show p (f i) = p (va_up f k (f n) i); rw [va_up_ne _ _ hi]) n hk
        rw [ih _ p h1] at h2
        have h3 : p (va_up f k (f n) k) = p (f n) := by rw [va_up_self]
        simp only [h3, ek] at h2
        rw [ct_s, ct_s]
        exact h2
      · exfalso
        have h1 : nmg n f := ⟨fun i hi => by have := h.1 i (by omega); have : f i ≠ n := fun q => hk ⟨i, hi, q⟩; omega, fun i j hi hj q => h.2 i j (by omega) (by omega) q⟩
        have h2 := ih f (fun w => decide (w = f n)) h1
        rw [ct_one hm] at h2
        obtain ⟨i, hi, q⟩ := ct_pos (show 0 < ct (fun i => decide (f i = f n)) n by rw [h2]; decide)
        exact absurd (h.2 i n (by omega) (by omega) (of_decide_eq_true q)) (by omega)
theorem nmg_sur {n : Nat} {f : Nat → Nat} (h : nmg n f) {w : Nat} (hw : w < n) : ∃ i, i < n ∧ f i = w := by
  have h1 := ct_perm n f (fun a => decide (a = w)) h
  rw [ct_one hw] at h1
  obtain ⟨i, hi, q⟩ := ct_pos (show 0 < ct (fun i => decide (f i = w)) n by rw [h1]; decide)
  exact ⟨i, hi, of_decide_eq_true q⟩
/-- the row of w, as far as f's first d vertices tell it -/
def rv (T : Nat → Nat → Nat) (L : Nat → Nat → Nat → Nat) (g : Nat) (f : Nat → Nat) : Nat → Nat → Nat
  | 0, w => T g w
  | d + 1, w => rv T L g f d w * 16 + pr L g w (f d)
/-- row i of the graph as f writes it -/
def Rq (T : Nat → Nat → Nat) (L : Nat → Nat → Nat → Nat) (g : Nat) (f : Nat → Nat) (i : Nat) : Nat := rv T L g f i (f i)
theorem rv_congr {T : Nat → Nat → Nat} {L : Nat → Nat → Nat → Nat} {g : Nat} {f f' : Nat → Nat} : ∀ d w, (∀ i, i < d → f i = f' i) → rv T L g f d w = rv T L g f' d w
  | 0, _, _ => rfl
  | d + 1, w, h => by
    show rv T L g f d w * 16 + pr L g w (f d) = rv T L g f' d w * 16 + pr L g w (f' d)
    rw [rv_congr d w (fun i hi => h i (by omega)), h d (by omega)]
theorem Rq_congr {T : Nat → Nat → Nat} {L : Nat → Nat → Nat → Nat} {g : Nat} {f f' : Nat → Nat} {i : Nat} (h : ∀ j, j ≤ i → f j = f' j) : Rq T L g f i = Rq T L g f' i := by
  unfold Rq
  rw [h i (Nat.le_refl i)]
  exact rv_congr i _ (fun j hj => h j (by omega))
/-- tints and labels are below 4 -/
def sm4 (n : Nat) (T : Nat → Nat → Nat) (L : Nat → Nat → Nat → Nat) (g : Nat) : Prop := (∀ v, v < n → T g v < 4) ∧ ∀ u v, u < n → v < n → L g u v < 4
theorem pr16 {n : Nat} {T : Nat → Nat → Nat} {L : Nat → Nat → Nat → Nat} {g u v : Nat} (h : sm4 n T L g) (hu : u < n) (hv : v < n) : pr L g u v < 16 := by
  have := h.2 u v hu hv
  have := h.2 v u hv hu
  unfold pr
  omega
theorem rv_lt {n : Nat} {T : Nat → Nat → Nat} {L : Nat → Nat → Nat → Nat} {g : Nat} {f : Nat → Nat} (h : sm4 n T L g) {w : Nat} (hw : w < n) : ∀ d, (∀ i, i < d → f i < n) → rv T L g f d w < 4 * 16 ^ d
  | 0, _ => by
    have := h.1 w hw
    show T g w < 4 * 16 ^ 0
    omega
  | d + 1, hf => by
    have h1 := rv_lt h hw d (fun i hi => hf i (by omega))
    have h2 := pr16 h hw (hf d (by omega))
    show rv T L g f d w * 16 + pr L g w (f d) < 4 * 16 ^ (d + 1)
    rw [Nat.pow_succ]
    omega
theorem rv_up {n : Nat} {T : Nat → Nat → Nat} {L : Nat → Nat → Nat → Nat} {g : Nat} {f : Nat → Nat} (h : sm4 n T L g) {w : Nat} (hw : w < n) (d : Nat) : ∀ j, (∀ i, i < d + j → f i < n) → rv T L g f d w * 16 ^ j ≤ rv T L g f (d + j) w ∧ rv T L g f (d + j) w < (rv T L g f d w + 1) * 16 ^ j
  | 0, _ => by simp
  | j + 1, hf => by
    have h1 := rv_up h hw d j (fun i hi => hf i (by omega))
    have h2 := pr16 h hw (hf (d + j) (by omega))
    have e : rv T L g f (d + (j + 1)) w = rv T L g f (d + j) w * 16 + pr L g w (f (d + j)) := rfl
    rw [e, Nat.pow_succ, ← Nat.mul_assoc, ← Nat.mul_assoc]
    omega
/-- the bound of what stands behind v: no written graph that begins so is less -/
theorem bound_le {n : Nat} {T : Nat → Nat → Nat} {L : Nat → Nat → Nat → Nat} {g d tk v YB m : Nat} {f s b : Nat → Nat} (h4 : sm4 n T L g) (htk : ∀ w, tk.testBit w = true ↔ ∃ j, j < d ∧ f j = w)
    (hb0 : ∀ i, i < d → b i = Rq T L g f i) (hb1 : b d = rv T L g f d v) (hb2 : ∀ j, j < m → b (d + 1 + j) = s j * 16 ^ j) (hS : bS tk v (fun a => rv T L g f d a * 16 + pr L g a v) YB n m s) (hm : d + 1 + m = n) {f' : Nat → Nat} (hf : nmg n f') (he : ∀ i, i < d → f' i = f i) (hv : f' d = v) : lxe n b (Rq T L g f') := by
  refine lxe_of (fun hlx => ?_)
  obtain ⟨k, hk, h1, h2⟩ := hlx
  have ey : ∀ i, rv T L g f' (d + 1) (f' i) = rv T L g f d (f' i) * 16 + pr L g (f' i) v := fun i => by
    show rv T L g f' d (f' i) * 16 + pr L g (f' i) (f' d) = _
    rw [rv_congr d (f' i) he, hv]
  have key : ∀ j, j < m → rv T L g f d (f' (d + 1 + j)) * 16 + pr L g (f' (d + 1 + j)) v = rv T L g f' (d + 1) (f' (d + 1 + j)) := fun j _ => (ey _).symm
  rcases Nat.lt_trichotomy k d with q | q | q
  · rw [hb0 k q] at h2
    have : Rq T L g f' k = Rq T L g f k := Rq_congr (fun j hj => he j (by omega))
    omega
  · subst q
    rw [hb1] at h2
    have : Rq T L g f' k = rv T L g f k v := by
      unfold Rq
      rw [hv]
      exact rv_congr k v he
    omega
  · obtain ⟨j, rfl⟩ : ∃ j, k = d + 1 + j := ⟨k - (d + 1), by omega⟩
    have hj : j < m := by omega
    rw [hb2 j hj] at h2
    have hfl : ∀ i, i < n → f' i < n := hf.1
    have up : ∀ i, i < m → rv T L g f' (d + 1) (f' (d + 1 + i)) * 16 ^ i ≤ Rq T L g f' (d + 1 + i) ∧ Rq T L g f' (d + 1 + i) < (rv T L g f' (d + 1) (f' (d + 1 + i)) + 1) * 16 ^ i := fun i hi => rv_up h4 (hfl _ (by omega)) (d + 1) i (fun a ha => hfl a (by omega))
    have pos : ∀ i, 0 < 16 ^ i := fun i => Nat.pow_pos (by decide)
    have lo : ∀ i, i < j → rv T L g f' (d + 1) (f' (d + 1 + i)) = s i := fun i hi => by
      have e := h1 (d + 1 + i) (by omega)
      rw [hb2 i (by omega)] at e
      obtain ⟨u1, u2⟩ := up i (by omega)
      rw [e] at u1 u2
      have a1 := Nat.le_of_mul_le_mul_right u1 (pos i)
      have a2 := Nat.lt_of_mul_lt_mul_right u2
      omega
    have hi' : rv T L g f' (d + 1) (f' (d + 1 + j)) < s j := Nat.lt_of_mul_lt_mul_right (Nat.lt_of_le_of_lt (up j hj).1 h2)
    -- counting
    have hct := hS.2.2.2 (fun t => decide (t < s j))
    rw [← ct_perm n f' _ hf] at hct
    have hl : ct (fun i => decide (s i < s j)) m = ct (fun i => decide (s i < s j)) j := by
      rw [show m = j + (m - j) by omega, ct_add, ct_none (m - j) (fun i hi => decide_eq_false (by have := srt_le hS.2.1 (j + i) j (by omega) (by omega); omega))]
      rfl
    have hsel : ∀ i, d < i → i < n → sel tk v (f' i) = true := fun i h3 h5 => by
      refine sel_t (fun e => absurd (hf.2 i d h5 (by omega) (by rw [e, hv])) (by omega)) ?_
      cases hb : tk.testBit (f' i) with
      | false => rfl
      | true =>
        obtain ⟨a, ha, e⟩ := (htk _).mp hb
        exact absurd (hf.2 a i (by omega) h5 (by rw [he a ha, e])) (by omega)
    have hr1 : ct (fun i => sel tk v (f' i) && decide (rv T L g f d (f' i) * 16 + pr L g (f' i) v < s j)) (d + 1 + j + 1) = ct (fun i => sel tk v (f' i) && decide (rv T L g f d (f' i) * 16 + pr L g (f' i) v < s j)) (d + 1 + j) + 1 := ct_t (by
      rw [hsel (d + 1 + j) (by omega) (by omega), key j hj, decide_eq_true hi']
      rfl)
    have hr2 := ct_add (fun i => sel tk v (f' i) && decide (rv T L g f d (f' i) * 16 + pr L g (f' i) v < s j)) (d + 1) j
    have hr3 : ct (fun i => (fun i => sel tk v (f' i) && decide (rv T L g f d (f' i) * 16 + pr L g (f' i) v < s j)) (d + 1 + i)) j = ct (fun i => decide (s i < s j)) j := ct_congr j (fun i hi => by
      show (sel tk v (f' (d + 1 + i)) && decide (rv T L g f d (f' (d + 1 + i)) * 16 + pr L g (f' (d + 1 + i)) v < s j)) = decide (s i < s j)
      rw [hsel (d + 1 + i) (by omega) (by omega), key i (by omega), lo i hi]
      rfl)
    have hr4 := ct_mono (fun i => sel tk v (f' i) && decide (rv T L g f d (f' i) * 16 + pr L g (f' i) v < s j)) (show d + 1 + j + 1 ≤ n by omega)
    rw [hl] at hct
    dsimp only at hr1 hr2 hr3 hr4 hct
    omega
/-- u and x are exchanged -/
def swp (u x w : Nat) : Nat := if w = u then x else if w = x then u else w
theorem swp_l (u x : Nat) : swp u x u = x := if_pos rfl
theorem swp_r (u x : Nat) : swp u x x = u := by
  unfold swp
  by_cases h : x = u
  · rw [if_pos h, h]
  · rw [if_neg h, if_pos rfl]
theorem swp_o {u x w : Nat} (h1 : w ≠ u) (h2 : w ≠ x) : swp u x w = w := by unfold swp; rw [if_neg h1, if_neg h2]
theorem swp_lt {n u x w : Nat} (hu : u < n) (hx : x < n) (hw : w < n) : swp u x w < n := by
  unfold swp
  split
  · exact hx
  · split
    · exact hu
    · exact hw
theorem swp_inv (u x w : Nat) : swp u x (swp u x w) = w := by
  by_cases h1 : w = u
  · subst h1; rw [swp_l, swp_r]
  · by_cases h2 : w = x
    · subst h2; rw [swp_r, swp_l]
    · rw [swp_o h1 h2, swp_o h1 h2]
theorem swp_nmg {n u x : Nat} {f : Nat → Nat} (hu : u < n) (hx : x < n) (h : nmg n f) : nmg n (fun i => swp u x (f i)) :=
  ⟨fun i hi => swp_lt hu hx (h.1 i hi), fun i j hi hj e => h.2 i j hi hj (by have := congrArg (swp u x) e; rw [swp_inv, swp_inv] at this; exact this)⟩
theorem alk_t {n : Nat} {T : Nat → Nat → Nat} {L : Nat → Nat → Nat → Nat} {g u x : Nat} (h : alk n T L g u x) (w : Nat) : T g (swp u x w) = T g w := by
  by_cases h1 : w = u
  · subst h1; rw [swp_l]; exact h.1.symm
  · by_cases h2 : w = x
    · subst h2; rw [swp_r]; exact h.1
    · rw [swp_o h1 h2]
theorem alk_l {n : Nat} {T : Nat → Nat → Nat} {L : Nat → Nat → Nat → Nat} {g u x : Nat} (h4 : sm4 n T L g) (h : alk n T L g u x) (hu : u < n) (hx : x < n) {a b : Nat} (ha : a < n) (hb : b < n) (hab : a ≠ b) : L g (swp u x a) (swp u x b) = L g a b := by
  have one : ∀ w, w < n → w ≠ u → w ≠ x → L g u w = L g x w ∧ L g w u = L g w x := fun w hw h1 h2 => by
    have e := h.2.2 w hw h1 h2
    unfold pr at e
    have := h4.2 u w hu hw
    have := h4.2 w u hw hu
    have := h4.2 x w hx hw
    have := h4.2 w x hw hx
    omega
  by_cases a1 : a = u
  · subst a1
    rw [swp_l]
    by_cases b1 : b = x
    · subst b1; rw [swp_r]; exact h.2.1.symm
    · rw [swp_o (Ne.symm hab) b1]; exact (one b hb (Ne.symm hab) b1).1.symm
  · by_cases a2 : a = x
    · subst a2
      rw [swp_r]
      by_cases b1 : b = u
      · subst b1; rw [swp_l]; exact h.2.1
      · rw [swp_o b1 (Ne.symm hab)]; exact (one b hb b1 (Ne.symm hab)).1
    · rw [swp_o a1 a2]
      by_cases b1 : b = u
      · subst b1; rw [swp_l]; exact (one a ha a1 a2).2.symm
      · by_cases b2 : b = x
        · subst b2; rw [swp_r]; exact (one a ha a1 a2).2
        · rw [swp_o b1 b2]
theorem alk_rv {n : Nat} {T : Nat → Nat → Nat} {L : Nat → Nat → Nat → Nat} {g u x : Nat} (h4 : sm4 n T L g) (h : alk n T L g u x) (hu : u < n) (hx : x < n) {f : Nat → Nat} {w : Nat} (hw : w < n) : ∀ d, (∀ i, i < d → f i < n ∧ f i ≠ w) → rv T L g (fun i => swp u x (f i)) d (swp u x w) = rv T L g f d w
  | 0, _ => alk_t h w
  | d + 1, hf => by
    have h1 := alk_rv h4 h hu hx hw d (fun i hi => hf i (by omega))
    obtain ⟨h2, h3⟩ := hf d (by omega)
    show rv T L g (fun i => swp u x (f i)) d (swp u x w) * 16 + pr L g (swp u x w) (swp u x (f d)) = rv T L g f d w * 16 + pr L g w (f d)
    rw [h1]
    unfold pr
    rw [alk_l h4 h hu hx hw h2 (Ne.symm h3), alk_l h4 h hu hx h2 hw h3]
theorem alk_Rq {n : Nat} {T : Nat → Nat → Nat} {L : Nat → Nat → Nat → Nat} {g u x : Nat} (h4 : sm4 n T L g) (h : alk n T L g u x) (hu : u < n) (hx : x < n) {f : Nat → Nat} (hf : nmg n f) {i : Nat} (hi : i < n) : Rq T L g (fun i => swp u x (f i)) i = Rq T L g f i :=
  alk_rv h4 h hu hx (hf.1 i hi) i (fun j hj => ⟨hf.1 j (by omega), fun e => absurd (hf.2 j i (by omega) hi e) (by omega)⟩)
/-- the candidates are enough: if B is no greater than what begins with one of them, it is no greater than anything -/
theorem cand_enough {n : Nat} {T : Nat → Nat → Nat} {L : Nat → Nat → Nat → Nat} {g d tk fd le : Nat} {f lk B : Nat → Nat} (hn9 : n ≤ 9) (hd : d < n) (h4 : sm4 n T L g) (hfn : ∀ i, i < d → f i < n) (htk : ∀ w, tk.testBit w = true ↔ ∃ j, j < d ∧ f j = w) (hlk : ∀ v, v < n → lks n T L g v v (lk v)) (hc : cnd tk lk (rv T L g f d) n fd le)
    (h : ∀ f', nmg n f' → (∀ i, i < d → f' i = f i) → fd.testBit (f' d) = true → lxe n B (Rq T L g f')) : ∀ f', nmg n f' → (∀ i, i < d → f' i = f i) → lxe n B (Rq T L g f') := by
  have main : ∀ N x, x < N → ∀ f', nmg n f' → (∀ i, i < d → f' i = f i) → f' d = x → lxe n B (Rq T L g f') := by
    intro N
    induction N with
    | zero => intro x hx; exact absurd hx (by omega)
    | succ N ih =>
      intro x hxN f' hf he hx
      have hxn : x < n := by rw [← hx]; exact hf.1 d hd
      have hxt : tk.testBit x = false := by
        cases hb : tk.testBit x with
        | false => rfl
        | true =>
          obtain ⟨j, hj, e⟩ := (htk x).mp hb
          exact absurd (hf.2 j d (by omega) hd (by rw [he j hj, e, hx])) (by omega)
      have swap : ∀ u, u < n → tk.testBit u = false → nmg n (fun i => swp u x (f' i)) ∧ (∀ i, i < d → swp u x (f' i) = f i) ∧ swp u x (f' d) = u := fun u hu hut => by
        refine ⟨swp_nmg hu hxn hf, fun i hi => ?_, by rw [hx, swp_r]⟩
        rw [he i hi]
        refine swp_o (fun e => ?_) (fun e => ?_)
        · have := (htk u).mpr ⟨i, hi, e⟩
          rw [hut] at this
          exact absurd this (by decide)
        · have := (htk x).mpr ⟨i, hi, e⟩
          rw [hxt] at this
          exact absurd this (by decide)
      by_cases ho : opn tk lk x
      · by_cases er : rv T L g f d x = le
        · exact h f' hf he (by rw [hx]; exact (hc.2.2.1 x).mpr ⟨hxn, ho, er⟩)
        · have hle := hc.2.2.2.1 x hxn ho
          have hlt := rv_lt (f := f) h4 hxn d hfn
          have hp : 16 ^ d ≤ 16 ^ 8 := Nat.pow_le_pow_right (by decide) (by omega)
          rcases hc.2.2.2.2 with q | ⟨u, hu, ou, eu⟩
          · exfalso
            have : (16 : Nat) ^ 8 = 4294967296 := by decide
            have : (2 : Nat) ^ 40 = 1099511627776 := by decide
            omega
          · obtain ⟨s1, s2, s3⟩ := swap u hu ou.1
            have hB := h _ s1 s2 (by show fd.testBit (swp u x (f' d)) = true; rw [s3]; exact (hc.2.2.1 u).mpr ⟨hu, ou, eu⟩)
            refine lxe_tr hB (Or.inl ⟨d, hd, fun j hj => Rq_congr (fun i hi => by show swp u x (f' i) = f' i; rw [s2 i (by omega), he i (by omega)]), ?_⟩)
            show rv T L g (fun i => swp u x (f' i)) d (swp u x (f' d)) < rv T L g f' d (f' d)
            rw [s3, hx, rv_congr d u (f' := f) (fun i hi => s2 i hi), rv_congr d x (f' := f) he, eu]
            omega
      · have hex : ∃ u, (lk x).testBit u = true ∧ tk.testBit u = false := by
          cases hdc : dc (∃ u, (lk x).testBit u = true ∧ tk.testBit u = false) with
          | true => exact dc_t.mp hdc
          | false =>
            refine absurd ⟨hxt, fun u hu => ?_⟩ ho
            cases hb : tk.testBit u with
            | true => rfl
            | false => rw [dc_t.mpr ⟨u, hu, hb⟩] at hdc; exact absurd hdc (by decide)
        obtain ⟨u, hu1, hu2⟩ := hex
        obtain ⟨hux, hal⟩ := ((hlk x hxn).2 u).mp hu1
        obtain ⟨s1, s2, s3⟩ := swap u (by omega) hu2
        have hB := ih u (by omega) _ s1 s2 s3
        exact lxe_tr hB (Or.inr (fun i hi => alk_Rq h4 hal (by omega) hxn hf hi))
  intro f' hf he
  exact main (f' d + 1) (f' d) (by omega) f' hf he rfl
