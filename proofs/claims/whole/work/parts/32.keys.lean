/-! ===== a round of colouring, by counts; the same by ordered keys ===== -/
/-- the key of vertex w, seen from spot sp -/
def ky1 (L : Nat → Nat → Nat → Nat) (c : Nat → Nat) (sp w : Nat) : Nat := pr L (sp / 9) (sp % 9) w * 18 + c (9 * (sp / 9) + w)
/-- how many others have key x -/
def kn (n : Nat) (L : Nat → Nat → Nat → Nat) (c : Nat → Nat) (sp x : Nat) : Nat := ct (fun w => sel 0 (sp % 9) w && decide (ky1 L c sp w = x)) n
/-- the order of a round -/
def slt (n : Nat) (L : Nat → Nat → Nat → Nat) (c : Nat → Nat) (a b : Nat) : Prop := c a < c b ∨ (c a = c b ∧ ∃ x, (∀ y, y < x → kn n L c a y = kn n L c b y) ∧ kn n L c b x < kn n L c a x)
/-- the order of the start -/
def tlt (T : Nat → Nat → Nat) (a b : Nat) : Prop := T (a / 9) (a % 9) < T (b / 9) (b % 9)
theorem RK_congr {n : Nat} {lt lt' : Nat → Nat → Prop} (h : ∀ a b, thr n a → thr n b → (lt a b ↔ lt' a b)) {s : Nat} (hs : thr n s) : RK n lt s = RK n lt' s :=
  ct_congr 18 (fun y _ => dc_congr ⟨fun q => ⟨q.1, (h y s q.1 hs).mp q.2.1, fun z hz ht => (q.2.2 z hz ht).imp (h z y ht q.1).mp (h y z q.1 ht).mp⟩, fun q => ⟨q.1, (h y s q.1 hs).mpr q.2.1, fun z hz ht => (q.2.2 z hz ht).imp (h z y ht q.1).mpr (h y z q.1 ht).mpr⟩⟩)
theorem CN_congr {n : Nat} {lt lt' : Nat → Nat → Prop} (h : ∀ a b, thr n a → thr n b → (lt a b ↔ lt' a b)) : CN n lt = CN n lt' :=
  ct_congr 18 (fun y _ => dc_congr ⟨fun q => ⟨q.1, fun z hz ht => (q.2 z hz ht).imp (h z y ht q.1).mp (h y z q.1 ht).mp⟩, fun q => ⟨q.1, fun z hz ht => (q.2 z hz ht).imp (h z y ht q.1).mpr (h y z q.1 ht).mpr⟩⟩)
theorem ct_cut {p q : Nat → Bool} {i m : Nat} (hi : i ≤ m) (h1 : ∀ j, j < i → p j = q j) (h2 : ∀ j, i ≤ j → j < m → p j = false) (h3 : ∀ j, i ≤ j → j < m → q j = false) : ct p m = ct q m := ct_congr m (fun j hj => by
  rcases Nat.lt_or_ge j i with e | e
  · exact h1 j e
  · rw [h2 j e hj, h3 j e hj])
theorem key_lt {m : Nat} {s s' : Nat → Nat} (hs : srt s m) (hs' : srt s' m) (h : lx m s s') : ∃ x, (∀ y, y < x → ct (fun j => decide (s j = y)) m = ct (fun j => decide (s' j = y)) m) ∧ ct (fun j => decide (s' j = x)) m < ct (fun j => decide (s j = x)) m := by
  obtain ⟨i, hi, h1, h2⟩ := h
  refine ⟨s i, fun y hy => ct_cut (Nat.le_of_lt hi) (fun j hj => by rw [h1 j hj]) (fun j hj hm => decide_eq_false (by have := srt_le hs j i hj hm; omega)) (fun j hj hm => decide_eq_false (by have := srt_le hs' j i hj hm; omega)), ?_⟩
  have a1 : ct (fun j => decide (s' j = s i)) m = ct (fun j => decide (s' j = s i)) i := by
    rw [show m = i + (m - i) by omega, ct_add, ct_none (m - i) (fun j hj => decide_eq_false (by have := srt_le hs' (i + j) i (by omega) (by omega); omega))]
    rfl
  have a2 : ct (fun j => decide (s j = s i)) (i + 1) = ct (fun j => decide (s j = s i)) i + 1 := ct_t (decide_eq_true rfl)
  have a3 := ct_mono (fun j => decide (s j = s i)) (show i + 1 ≤ m by omega)
  have a4 : ct (fun j => decide (s j = s i)) i = ct (fun j => decide (s' j = s i)) i := ct_congr i (fun j hj => by rw [h1 j hj])
  rw [a1]
  omega
theorem key_iff {m : Nat} {s s' : Nat → Nat} (hs : srt s m) (hs' : srt s' m) : lx m s s' ↔ ∃ x, (∀ y, y < x → ct (fun j => decide (s j = y)) m = ct (fun j => decide (s' j = y)) m) ∧ ct (fun j => decide (s' j = x)) m < ct (fun j => decide (s j = x)) m := by
  refine ⟨key_lt hs hs', fun ⟨x, h1, h2⟩ => ?_⟩
  rcases lx_tot m s s' with q | q | q
  · exact q
  · exfalso
    have : ct (fun j => decide (s j = x)) m = ct (fun j => decide (s' j = x)) m := ct_congr m (fun j hj => by rw [q j hj])
    omega
  · exfalso
    obtain ⟨x', g1, g2⟩ := key_lt hs' hs q
    rcases Nat.lt_trichotomy x x' with z | z | z
    · have := g1 x z; omega
    · subst z; omega
    · have := h1 x' z; omega
/-- the keys of all spots, each spot's in order -/
def gK (n : Nat) (L : Nat → Nat → Nat → Nat) (c : Nat → Nat) (ky : Nat → Nat → Nat) (sp : Nat) : Prop := bS 0 (sp % 9) (ky1 L c sp) 400 n (n - 1) (ky sp)
theorem slt_iff {n : Nat} {L : Nat → Nat → Nat → Nat} {c : Nat → Nat} {ky : Nat → Nat → Nat} {a b : Nat} (ha : gK n L c ky a) (hb : gK n L c ky b) : lx (n - 1 + 1) (Qs c ky a) (Qs c ky b) ↔ slt n L c a b := by
  have hk : ∀ sp, gK n L c ky sp → ∀ x, ct (fun j => decide (ky sp j = x)) (n - 1) = kn n L c sp x := fun sp h x => h.2.2.2 (fun t => decide (t = x))
  have h1 : lx (n - 1) (ky a) (ky b) ↔ ∃ x, (∀ y, y < x → kn n L c a y = kn n L c b y) ∧ kn n L c b x < kn n L c a x := by
    rw [key_iff ha.2.1 hb.2.1]
    constructor
    · rintro ⟨x, q1, q2⟩
      exact ⟨x, fun y hy => by rw [← hk a ha, ← hk b hb]; exact q1 y hy, by rw [← hk a ha, ← hk b hb]; exact q2⟩
    · rintro ⟨x, q1, q2⟩
      exact ⟨x, fun y hy => by rw [hk a ha, hk b hb]; exact q1 y hy, by rw [hk a ha, hk b hb]; exact q2⟩
  constructor
  · rintro ⟨i, hi, q1, q2⟩
    cases i with
    | zero => exact Or.inl q2
    | succ i => exact Or.inr ⟨q1 0 (by omega), h1.mp ⟨i, by omega, fun j hj => q1 (j + 1) (by omega), q2⟩⟩
  · rintro (q | ⟨e, q⟩)
    · exact Qs_c q
    · obtain ⟨i, hi, q1, q2⟩ := h1.mpr q
      exact Qs_k hi e q1 q2
/-- the colours behind k rounds, and how many there are -/
noncomputable def cs (n : Nat) (T : Nat → Nat → Nat) (L : Nat → Nat → Nat → Nat) : Nat → Nat → Nat
  | 0 => RK n (tlt T)
  | k + 1 => RK n (slt n L (cs n T L k))
noncomputable def ms (n : Nat) (T : Nat → Nat → Nat) (L : Nat → Nat → Nat → Nat) : Nat → Nat
  | 0 => CN n (tlt T)
  | k + 1 => CN n (slt n L (cs n T L k))
theorem WO_tlt (T : Nat → Nat → Nat) : WO (tlt T) := ⟨fun _ => Nat.lt_irrefl _, fun _ _ _ => Nat.lt_trans, fun _ _ _ h1 h2 => by unfold tlt at *; omega⟩
theorem WO_slt (n : Nat) (L : Nat → Nat → Nat → Nat) (c : Nat → Nat) : WO (slt n L c) := by
  refine ⟨fun a h => ?_, fun a b d h1 h2 => ?_, fun a b d h1 h2 h3 => ?_⟩
  · rcases h with h | ⟨_, x, _, h⟩
    · omega
    · omega
  · rcases h1 with h1 | ⟨e1, x, x1, x2⟩
    · rcases h2 with h2 | ⟨e2, _⟩
      · exact Or.inl (by omega)
      · exact Or.inl (by omega)
    · rcases h2 with h2 | ⟨e2, y, y1, y2⟩
      · exact Or.inl (by omega)
      · refine Or.inr ⟨e1.trans e2, ?_⟩
        rcases Nat.lt_trichotomy x y with q | q | q
        · exact ⟨x, fun z hz => (x1 z hz).trans (y1 z (by omega)), by rw [← y1 x q]; exact x2⟩
        · subst q; exact ⟨x, fun z hz => (x1 z hz).trans (y1 z hz), by omega⟩
        · exact ⟨y, fun z hz => (x1 z (by omega)).trans (y1 z hz), by rw [x1 y q]; exact y2⟩
  · have c1 : ¬ c a < c b := fun q => h1 (Or.inl q)
    have c2 : ¬ c b < c d := fun q => h2 (Or.inl q)
    rcases h3 with h3 | ⟨e, x, x1, x2⟩
    · omega
    · have e1 : c a = c b := by omega
      have e2 : c b = c d := by omega
      -- the least place where a and b differ, if below or at x
      have key : ∀ N, N ≤ x + 1 → (∀ y, y < N → kn n L c a y = kn n L c b y) ∨ ∃ y, y < N ∧ (∀ z, z < y → kn n L c a z = kn n L c b z) ∧ kn n L c a y < kn n L c b y := by
        intro N
        induction N with
        | zero => intro _; exact Or.inl (fun y hy => absurd hy (by omega))
        | succ N ih =>
          intro hN
          rcases ih (by omega) with q | ⟨y, y1, y2⟩
          · rcases Nat.lt_trichotomy (kn n L c a N) (kn n L c b N) with z | z | z
            · exact Or.inr ⟨N, by omega, q, z⟩
            · exact Or.inl (fun y hy => (Nat.lt_or_eq_of_le (Nat.le_of_lt_succ hy)).elim (q y) (fun w => by rw [w]; exact z))
            · exact absurd (Or.inr ⟨e1, N, q, z⟩) h1
          · exact Or.inr ⟨y, by omega, y2⟩
      rcases key (x + 1) (Nat.le_refl _) with q | ⟨y, y1, y2, y3⟩
      · exact h2 (Or.inr ⟨e2, x, fun z hz => by rw [← q z (by omega)]; exact x1 z hz, by rw [← q x (by omega)]; exact x2⟩)
      · refine h2 (Or.inr ⟨e2, y, fun z hz => by rw [← y2 z hz]; exact x1 z (by omega), ?_⟩)
        rcases Nat.lt_or_eq_of_le (Nat.le_of_lt_succ y1) with w | w
        · rw [← x1 y w]; exact y3
        · subst w; omega
theorem cs_lt {n : Nat} {T : Nat → Nat → Nat} {L : Nat → Nat → Nat → Nat} (k : Nat) {s : Nat} (hs : thr n s) : cs n T L k s < 18 := by
  cases k with
  | zero => exact RK_lt (WO_tlt T) hs
  | succ k => exact RK_lt (WO_slt n L _) hs
