/-! ===== class and reference meet: the answers fix each other ===== -/
theorem Tw_un {n : Nat} {T : Nat → Nat → Nat} {L : Nat → Nat → Nat → Nat} {g h : Nat} {rs b b' : Bool} {f f1 f2 : Nat → Nat} (h1 : Tw n T L g h rs f b f1) (h2 : Tw n T L g h rs f b' f2) : b = b' ∧ (b = true → ∀ i, i < n → f1 i = f2 i) := by
  cases b with
  | true =>
    cases b' with
    | true => exact ⟨rfl, fun _ => lxe_as ((h1.1 rfl).2.2 f2 (h2.1 rfl).1 (h2.1 rfl).2.1) ((h2.1 rfl).2.2 f1 (h1.1 rfl).1 (h1.1 rfl).2.1)⟩
    | false => exact absurd (h1.1 rfl).2.1 (h2.2 rfl f1 (h1.1 rfl).1)
  | false =>
    cases b' with
    | true => exact absurd (h2.1 rfl).2.1 (h1.2 rfl f2 (h2.1 rfl).1)
    | false => exact ⟨rfl, fun q => absurd q (by decide)⟩
theorem MI.nm {I : SI} {n : Nat} {T : Nat → Nat → Nat} {L : Nat → Nat → Nat → Nat} {ah : Bool} {nm nm' : Nat → Nat} (h : MI I n T L ah nm) (e : ah = true → ∀ i, i < n → nm i = nm' i) : MI I n T L ah nm' :=
  ⟨h.1, h.2.1, fun q i hi => by rw [h.2.2.1 q i hi, e q i hi], h.2.2.2⟩
/-- f changes nothing of graph g -/
def Sy (n : Nat) (T : Nat → Nat → Nat) (L : Nat → Nat → Nat → Nat) (g : Nat) (f : Nat → Nat) : Prop := nmg n f ∧ (∀ i, i < n → T g i = T g (f i)) ∧ ∀ i j, i < n → j < n → i ≠ j → L g i j = L g (f i) (f j)
theorem sy_iff {n : Nat} {T : Nat → Nat → Nat} {L : Nat → Nat → Nat → Nat} {g : Nat} {f : Nat → Nat} : tr n T L g g f n ↔ Sy n T L g f :=
  ⟨fun h => ⟨tr_nmg h, fun i hi => (h i hi).2.2.1, fun i j hi hj hne => tr_l h hi hj hne⟩, fun h i hi => ⟨h.1.1 i hi, fun j hj e => absurd (h.1.2 j i (by omega) hi e) (by omega), h.2.1 i hi, fun u hu => ⟨h.2.2 i u hi (by omega) (by omega), h.2.2 u i (by omega) hi (by omega)⟩⟩⟩
theorem Sy.comp {n : Nat} {T : Nat → Nat → Nat} {L : Nat → Nat → Nat → Nat} {g : Nat} {f k : Nat → Nat} (hf : Sy n T L g f) (hk : Sy n T L g k) : Sy n T L g (fun i => f (k i)) :=
  ⟨⟨fun i hi => hf.1.1 _ (hk.1.1 i hi), fun i j hi hj e => hk.1.2 i j hi hj (hf.1.2 _ _ (hk.1.1 i hi) (hk.1.1 j hj) e)⟩, fun i hi => (hk.2.1 i hi).trans (hf.2.1 _ (hk.1.1 i hi)), fun i j hi hj hne => (hk.2.2 i j hi hj hne).trans (hf.2.2 _ _ (hk.1.1 i hi) (hk.1.1 j hj) (fun e => hne (hk.1.2 i j hi hj e)))⟩
theorem Sy.id (n : Nat) (T : Nat → Nat → Nat) (L : Nat → Nat → Nat → Nat) (g : Nat) : Sy n T L g (fun i => i) := ⟨⟨fun _ hi => hi, fun _ _ _ _ e => e⟩, fun _ _ => rfl, fun _ _ _ _ _ => rfl⟩
theorem nmg_inv {n : Nat} {f : Nat → Nat} (h : nmg n f) : ∃ k : Nat → Nat, (∀ i, i < n → k i < n) ∧ (∀ i, i < n → f (k i) = i) ∧ ∀ i, i < n → k (f i) = i := by
  have hs : ∀ i, ∃ j, i < n → j < n ∧ f j = i := fun i => by
    by_cases hi : i < n
    · obtain ⟨j, h1, h2⟩ := nmg_sur h hi
      exact ⟨j, fun _ => ⟨h1, h2⟩⟩
    · exact ⟨0, fun q => absurd q hi⟩
  refine ⟨fun i => Classical.choose (hs i), fun i hi => (Classical.choose_spec (hs i) hi).1, fun i hi => (Classical.choose_spec (hs i) hi).2, fun i hi => ?_⟩
  have := Classical.choose_spec (hs (f i)) (h.1 i hi)
  exact h.2 _ i this.1 hi this.2
theorem Sy.inv {n : Nat} {T : Nat → Nat → Nat} {L : Nat → Nat → Nat → Nat} {g : Nat} {f : Nat → Nat} (hf : Sy n T L g f) : ∃ k, Sy n T L g k ∧ (∀ i, i < n → f (k i) = i) ∧ ∀ i, i < n → k (f i) = i := by
  obtain ⟨k, k1, k2, k3⟩ := nmg_inv hf.1
  have hkn : nmg n k := ⟨k1, fun i j hi hj e => by rw [← k2 i hi, ← k2 j hj, e]⟩
  refine ⟨k, ⟨hkn, fun i hi => ?_, fun i j hi hj hne => ?_⟩, k2, k3⟩
  · rw [hf.2.1 (k i) (k1 i hi), k2 i hi]
  · rw [hf.2.2 (k i) (k j) (k1 i hi) (k1 j hj) (fun e => hne (hkn.2 i j hi hj e)), k2 i hi, k2 j hj]
/-- of these, what leaves each vertex before v -/
def St (n : Nat) (T : Nat → Nat → Nat) (L : Nat → Nat → Nat → Nat) (g v : Nat) (f : Nat → Nat) : Prop := Sy n T L g f ∧ ∀ i, i < v → f i = i
theorem syn_iff {n : Nat} {T : Nat → Nat → Nat} {L : Nat → Nat → Nat → Nat} {g v w : Nat} {f : Nat → Nat} : syn n T L g v w f ↔ St n T L g v f ∧ f v = w := by
  unfold syn St
  rw [sy_iff, and_assoc]
theorem St.ge {n : Nat} {T : Nat → Nat → Nat} {L : Nat → Nat → Nat → Nat} {g v : Nat} {f : Nat → Nat} (h : St n T L g v f) (hv : v < n) : v ≤ f v := by
  rcases Nat.lt_or_ge (f v) v with q | q
  · have := h.2 (f v) q
    have := h.1.1.2 (f v) v (by omega) hv this
    omega
  · exact q
/-- what leads v where f0 does is f0 behind what leaves v too -/
theorem St.quo {n : Nat} {T : Nat → Nat → Nat} {L : Nat → Nat → Nat → Nat} {g v : Nat} {f f0 : Nat → Nat} (hv : v < n) (h0 : St n T L g v f0) (h : St n T L g v f) (e : f v = f0 v) : ∃ f1, St n T L g (v + 1) f1 ∧ ∀ i, i < n → f0 (f1 i) = f i := by
  obtain ⟨k, k1, k2, k3⟩ := h0.1.inv
  refine ⟨fun i => k (f i), ⟨k1.comp h.1, fun i hi => ?_⟩, fun i hi => k2 _ (h.1.1.1 i hi)⟩
  show k (f i) = i
  rcases Nat.lt_or_eq_of_le (Nat.le_of_lt_succ hi) with q | q
  · rw [h.2 i q]
    have := k3 i (by omega)
    rw [h0.2 i q] at this
    exact this
  · rw [q, e]
    exact k3 v hv
/-! ===== how many ===== -/
theorem nd_len {α : Type} [DecidableEq α] : ∀ (l l' : List α), l.Nodup → (∀ x, x ∈ l → x ∈ l') → l.length ≤ l'.length
  | [], _, _, _ => Nat.zero_le _
  | a :: t, l', h, hs => by
    obtain ⟨h1, h2⟩ := List.nodup_cons.mp h
    have ha : a ∈ l' := hs a (List.mem_cons_self ..)
    have := nd_len t (l'.erase a) h2 (fun x hx => (List.mem_erase_of_ne (fun e => h1 (by rw [← e]; exact hx))).mpr (hs x (List.mem_cons_of_mem a hx)))
    rw [List.length_erase_of_mem ha] at this
    have hp := List.length_pos_of_mem ha
    rw [List.length_cons]
    omega
theorem crd_un {n : Nat} {P : (Nat → Nat) → Prop} {m m' : Nat} (h : crd n P m) (h' : crd n P m') : m = m' := by
  obtain ⟨l, a1, a2, a3⟩ := h
  obtain ⟨l', b1, b2, b3⟩ := h'
  have q1 := nd_len l l' a1 (fun x hx => (b3 x).mpr ((a3 x).mp hx))
  have q2 := nd_len l' l b1 (fun x hx => (a3 x).mpr ((b3 x).mp hx))
  omega
theorem crd_congr {n : Nat} {P P' : (Nat → Nat) → Prop} {m : Nat} (h : crd n P m) (e : ∀ f, P f ↔ P' f) : crd n P' m := by
  obtain ⟨l, a1, a2, a3⟩ := h
  exact ⟨l, a1, a2, fun x => (a3 x).trans ⟨fun ⟨f, q1, q2⟩ => ⟨f, (e f).mp q1, q2⟩, fun ⟨f, q1, q2⟩ => ⟨f, (e f).mpr q1, q2⟩⟩⟩
theorem nd_map {α β : Type} (F : α → β) : ∀ l : List α, l.Nodup → (∀ x y, x ∈ l → y ∈ l → F x = F y → x = y) → (l.map F).Nodup
  | [], _, _ => List.nodup_nil
  | a :: t, h, hi => by
    obtain ⟨h1, h2⟩ := List.nodup_cons.mp h
    rw [List.map_cons]
    refine List.nodup_cons.mpr ⟨fun q => ?_, nd_map F t h2 (fun x y hx hy => hi x y (List.mem_cons_of_mem a hx) (List.mem_cons_of_mem a hy))⟩
    obtain ⟨y, hy, e⟩ := List.mem_map.mp q
    have := hi y a (List.mem_cons_of_mem a hy) (List.mem_cons_self ..) e
    exact h1 (by rw [← this]; exact hy)
theorem nd_app {α : Type} : ∀ l l' : List α, l.Nodup → l'.Nodup → (∀ x, x ∈ l → x ∉ l') → (l ++ l').Nodup
  | [], _, _, h2, _ => h2
  | a :: t, l', h1, h2, h => by
    obtain ⟨a1, a2⟩ := List.nodup_cons.mp h1
    rw [List.cons_append]
    refine List.nodup_cons.mpr ⟨fun q => ?_, nd_app t l' a2 h2 (fun x hx => h x (List.mem_cons_of_mem a hx))⟩
    rcases List.mem_append.mp q with z | z
    · exact a1 z
    · exact h a (List.mem_cons_self ..) z
theorem enc_map (f0 f : Nat → Nat) : ∀ n, (enc f n).map f0 = enc (fun i => f0 (f i)) n
  | 0 => rfl
  | n + 1 => by
    show f0 (f n) :: (enc f n).map f0 = _
    rw [enc_map f0 f n]
    rfl
theorem crd_k {n : Nat} {T : Nat → Nat → Nat} {L : Nat → Nat → Nat → Nat} {g v m : Nat} (hv : v < n) (h : crd n (St n T L g (v + 1)) m) : ∀ k, crd n (fun f => St n T L g v f ∧ f v < k) (ct (fun w => dc (∃ f, St n T L g v f ∧ f v = w)) k * m) := by
  intro k
  induction k with
  | zero => exact ⟨[], List.nodup_nil, by show 0 = 0 * m; omega, fun x => ⟨fun q => absurd q List.not_mem_nil, fun ⟨f, q, _⟩ => absurd q.2 (Nat.not_lt_zero _)⟩⟩
  | succ k ih =>
    cases hd : dc (∃ f, St n T L g v f ∧ f v = k) with
    | false =>
      rw [ct_f hd]
      refine crd_congr ih (fun f => ⟨fun q => ⟨q.1, by omega⟩, fun q => ⟨q.1, ?_⟩⟩)
      have : f v ≠ k := fun e => by rw [dc_t.mpr ⟨f, q.1, e⟩] at hd; exact absurd hd (by decide)
      omega
    | true =>
      obtain ⟨f0, h0, e0⟩ := dc_t.mp hd
      rw [ct_t hd, Nat.add_mul, Nat.one_mul]
      obtain ⟨l1, a1, a2, a3⟩ := ih
      obtain ⟨l, b1, b2, b3⟩ := h
      have hmem : ∀ x, x ∈ l.map (fun y => y.map f0) ↔ ∃ f, (St n T L g v f ∧ f v = k) ∧ enc f n = x := fun x => by
        rw [List.mem_map]
        constructor
        · rintro ⟨y, hy, e⟩
          obtain ⟨f, q1, q2⟩ := (b3 y).mp hy
          refine ⟨fun i => f0 (f i), ⟨⟨h0.1.comp q1.1, fun i hi => ?_⟩, ?_⟩, ?_⟩
          · show f0 (f i) = i
            rw [q1.2 i (by omega), h0.2 i hi]
          · show f0 (f v) = k
            rw [q1.2 v (by omega), e0]
          · rw [← enc_map, q2]; exact e
        · rintro ⟨f, ⟨q1, q2⟩, q3⟩
          obtain ⟨f1, c1, c2⟩ := St.quo hv h0 q1 (q2.trans e0.symm)
          refine ⟨enc f1 n, (b3 _).mpr ⟨f1, c1, rfl⟩, ?_⟩
          rw [enc_map, ← q3]
          exact (enc_eq n).mpr c2
      refine ⟨l1 ++ l.map (fun y => y.map f0), nd_app _ _ a1 (nd_map _ l b1 (fun x y hx hy e => ?_)) (fun x hx hx2 => ?_), ?_, fun x => ?_⟩
      · obtain ⟨f, q1, q2⟩ := (b3 x).mp hx
        obtain ⟨f', q3, q4⟩ := (b3 y).mp hy
        rw [← q2, ← q4, enc_map, enc_map] at e
        rw [← q2, ← q4]
        exact (enc_eq n).mpr (fun i hi => h0.1.1.2 _ _ (q1.1.1.1 i hi) (q3.1.1.1 i hi) ((enc_eq n).mp e i hi))
      · obtain ⟨f, q1, q2⟩ := (a3 x).mp hx
        obtain ⟨f', q3, q4⟩ := (hmem x).mp hx2
        have := (enc_eq n).mp (q2.trans q4.symm) v hv
        have := q1.2
        have := q3.2
        omega
      · rw [List.length_append, List.length_map, a2, b2]
      · rw [List.mem_append, a3, hmem]
        constructor
        · rintro (⟨f, q1, q2⟩ | ⟨f, q1, q2⟩)
          · exact ⟨f, ⟨q1.1, by have := q1.2; omega⟩, q2⟩
          · exact ⟨f, ⟨q1.1, by have := q1.2; omega⟩, q2⟩
        · rintro ⟨f, q1, q2⟩
          rcases Nat.lt_or_eq_of_le (Nat.le_of_lt_succ q1.2) with z | z
          · exact Or.inl ⟨f, ⟨q1.1, z⟩, q2⟩
          · exact Or.inr ⟨f, ⟨q1.1, z⟩, q2⟩
theorem crd_v {n : Nat} {T : Nat → Nat → Nat} {L : Nat → Nat → Nat → Nat} {g v m : Nat} (hv : v < n) (h : crd n (St n T L g (v + 1)) m) : crd n (St n T L g v) ((1 + ct (fun w => dc (v < w ∧ ∃ f, syn n T L g v w f)) n) * m) := by
  have h1 := crd_k hv h n
  have h2 := ct_upd (p := fun w => dc (∃ f, St n T L g v f ∧ f v = w)) (q := fun w => dc (v < w ∧ ∃ f, syn n T L g v w f)) (k := v) (fun w hw => dc_congr ⟨fun ⟨f, q1, q2⟩ => ⟨by have := q1.ge hv; omega, f, syn_iff.mpr ⟨q1, q2⟩⟩, fun ⟨_, f, q⟩ => ⟨f, syn_iff.mp q⟩⟩) n hv
  have e1 : dc (v < v ∧ ∃ f, syn n T L g v v f) = false := dc_f (fun q => Nat.lt_irrefl v q.1)
  have e2 : dc (∃ f, St n T L g v f ∧ f v = v) = true := dc_t.mpr ⟨fun i => i, ⟨Sy.id n T L g, fun _ _ => rfl⟩, rfl⟩
  rw [e1, e2] at h2
  have h3 : ct (fun w => dc (∃ f, St n T L g v f ∧ f v = w)) n = 1 + ct (fun w => dc (v < w ∧ ∃ f, syn n T L g v w f)) n := by simpa [Nat.add_comm] using h2
  rw [h3] at h1
  exact crd_congr h1 (fun f => ⟨fun q => q.1, fun q => ⟨q, q.1.1.1 v hv⟩⟩)
theorem crd_sn {n : Nat} {T : Nat → Nat → Nat} {L : Nat → Nat → Nat → Nat} {g : Nat} : ∀ d v, v + d = n → ∃ m, crd n (St n T L g v) m ∧ sn n T L g n = sn n T L g v * m
  | 0, v, h => by
    have e : v = n := h
    subst e
    refine ⟨1, ⟨[enc (fun i => i) v], List.nodup_cons.mpr ⟨List.not_mem_nil, List.nodup_nil⟩, rfl, fun x => ?_⟩, (Nat.mul_one _).symm⟩
    rw [List.mem_singleton]
    constructor
    · intro q
      exact ⟨fun i => i, ⟨Sy.id v T L g, fun _ _ => rfl⟩, q.symm⟩
    · rintro ⟨f, q1, q2⟩
      rw [← q2]
      exact (enc_eq v).mpr q1.2
  | d + 1, v, h => by
    obtain ⟨m, h1, h2⟩ := crd_sn (n := n) (T := T) (L := L) (g := g) d (v + 1) (by omega)
    refine ⟨_, crd_v (by omega) h1, ?_⟩
    rw [h2]
    show sn n T L g v * (1 + ct (fun w => dc (v < w ∧ ∃ f, syn n T L g v w f)) n) * m = _
    rw [Nat.mul_assoc]
/-- the product is the number that the reference counts -/
theorem sn_crd {n : Nat} {T : Nat → Nat → Nat} {L : Nat → Nat → Nat → Nat} {g m : Nat} (h : crd n (fun f => tr n T L g g f n) m) : m = sn n T L g n := by
  obtain ⟨m', h1, h2⟩ := crd_sn (n := n) (T := T) (L := L) (g := g) n 0 (by omega)
  have e : sn n T L g n = m' := by rw [h2]; exact Nat.one_mul m'
  rw [e]
  exact crd_un h (crd_congr h1 (fun f => ⟨fun q => sy_iff.mpr q.1, fun q => ⟨sy_iff.mp q, fun i hi => absurd hi (Nat.not_lt_zero i)⟩⟩))
/-! ===== orbits ===== -/
theorem OR_all {n : Nat} {T : Nat → Nat → Nat} {L : Nat → Nat → Nat → Nat} {g : Nat} {o : Nat → Nat} (h : OR n T L g o (fun _ _ => True)) : ∀ d v, v + d = n → ∀ f, St n T L g v f → ∀ x, x < n → o x = o (f x)
  | 0, v, hd, f, hf, x, hx => by rw [hf.2 x (by omega)]
  | d + 1, v, hd, f, hf, x, hx => by
    have hv : v < n := by omega
    rcases Nat.lt_or_eq_of_le (hf.ge hv) with q | q
    · obtain ⟨f0, h0, h1⟩ := h.2.1 v (f v) trivial q (hf.1.1.1 v hv) ⟨f, syn_iff.mpr ⟨hf, rfl⟩⟩
      obtain ⟨k1, k2⟩ := syn_iff.mp h0
      obtain ⟨f1, c1, c2⟩ := St.quo hv k1 hf k2.symm
      have := OR_all h d (v + 1) (by omega) f1 c1 x hx
      rw [this, h1 (f1 x) (c1.1.1.1 x hx), c2 x hx]
    · exact OR_all h d (v + 1) (by omega) f ⟨hf.1, fun i hi => (Nat.lt_or_eq_of_le (Nat.le_of_lt_succ hi)).elim (hf.2 i) (fun e => by rw [e]; exact q.symm)⟩ x hx
theorem ob_eq {n : Nat} {T : Nat → Nat → Nat} {L : Nat → Nat → Nat → Nat} {g b r : Nat} {o : Nat → Nat} (h : OR n T L g o (fun _ _ => True)) (hl : lob n T L g b r) (hb : b < n) : o b = r := by
  obtain ⟨⟨f, f1, f2⟩, hl2⟩ := hl
  have a1 : o b ≤ r := by
    have := OR_all h n 0 (by omega) f ⟨sy_iff.mp f1, fun i hi => absurd hi (Nat.not_lt_zero i)⟩ b hb
    rw [this, f2]
    exact (h.1 r (by rw [← f2]; exact (f1 b hb).1)).1
  obtain ⟨k, k1, k2⟩ := h.2.2 (fun x y => ∃ f, Sy n T L g f ∧ f x = y) ⟨fun i _ => ⟨fun i => i, Sy.id n T L g, rfl⟩, fun i j hi hj ⟨f, q1, q2⟩ => by
    obtain ⟨k, k1, k2, k3⟩ := q1.inv
    exact ⟨k, k1, by rw [← q2]; exact k3 i hi⟩, fun i j k hi hj hk ⟨f, q1, q2⟩ ⟨f', q3, q4⟩ => ⟨fun x => f' (f x), q3.comp q1, by show f' (f i) = k; rw [q2, q4]⟩⟩ (fun f hf x hx => ⟨f, sy_iff.mp hf, rfl⟩) b hb
  have := hl2 k (sy_iff.mpr k1)
  omega
/-! ===== forms ===== -/
def dw (T : Nat → Nat → Nat) (L : Nat → Nat → Nat → Nat) (g : Nat) (f : Nat → Nat) (w m : Nat) : Nat := if m = 0 then T g w else if m % 2 = 1 then L g w (f ((m - 1) / 2)) else L g (f ((m - 2) / 2)) w
theorem rv_dw {n : Nat} {T : Nat → Nat → Nat} {L : Nat → Nat → Nat → Nat} {g : Nat} {f : Nat → Nat} {w : Nat} (h4 : sm4 n T L g) (hw : w < n) : ∀ d, (∀ i, i < d → f i < n) → ∀ m, m ≤ 2 * d → rv T L g f d w / 4 ^ (2 * d - m) % 4 = dw T L g f w m
  | 0, _, m, hm => by
    have e : m = 0 := by omega
    subst e
    show T g w / 4 ^ 0 % 4 = T g w
    have := h4.1 w hw
    rw [Nat.pow_zero, Nat.div_one, Nat.mod_eq_of_lt this]
  | d + 1, hf, m, hm => by
    have hfd := hf d (by omega)
    have l1 := h4.2 w (f d) hw hfd
    have l2 := h4.2 (f d) w hfd hw
    show (rv T L g f d w * 16 + pr L g w (f d)) / 4 ^ (2 * (d + 1) - m) % 4 = _
    unfold pr
    rcases Nat.lt_or_ge (2 * d) m with q | q
    · rcases Nat.lt_or_eq_of_le q with z | z
      · have e : m = 2 + 2 * d := by omega
        subst e
        rw [show 2 * (d + 1) - (2 + 2 * d) = 0 by omega, Nat.pow_zero, Nat.div_one]
        unfold dw
        rw [if_neg (by omega), if_neg (by omega), show (2 + 2 * d - 2) / 2 = d by omega]
        omega
      · have e : m = 1 + 2 * d := by omega
        subst e
        rw [show 2 * (d + 1) - (1 + 2 * d) = 1 by omega, Nat.pow_one]
        unfold dw
        rw [if_neg (by omega), if_pos (by omega), show (1 + 2 * d - 1) / 2 = d by omega]
        omega
    · rw [← rv_dw h4 hw d (fun i hi => hf i (by omega)) m q, show 2 * (d + 1) - m = 2 + (2 * d - m) by omega, Nat.pow_add, ← Nat.div_div_eq_div_mul]
      congr 2
      show (rv T L g f d w * 16 + (4 * L g w (f d) + L g (f d) w)) / 16 = _
      omega
theorem Rq_dg {n : Nat} {T : Nat → Nat → Nat} {L : Nat → Nat → Nat → Nat} {g : Nat} {f : Nat → Nat} (h4 : sm4 n T L g) (hf : ∀ i, i < n → f i < n) {i m : Nat} (hi : i < n) (hm : m ≤ 2 * i) : Rq T L g f i / 4 ^ (2 * i - m) % 4 = dg T L g f i m := rv_dw h4 (hf i hi) i (fun j hj => hf j (by omega)) m hm
theorem dig_lt : ∀ (len a b : Nat), a < b → a < 4 ^ len → b < 4 ^ len → ∃ m, m < len ∧ (∀ j, j < m → a / 4 ^ (len - 1 - j) % 4 = b / 4 ^ (len - 1 - j) % 4) ∧ a / 4 ^ (len - 1 - m) % 4 < b / 4 ^ (len - 1 - m) % 4
  | 0, a, b, h, ha, hb => absurd hb (by rw [Nat.pow_zero]; omega)
  | len + 1, a, b, h, ha, hb => by
    have sh : ∀ x j, j < len → x / 4 ^ (len + 1 - 1 - j) = x / 4 / 4 ^ (len - 1 - j) := fun x j hj => by
      rw [show len + 1 - 1 - j = 1 + (len - 1 - j) by omega, Nat.pow_add, ← Nat.div_div_eq_div_mul, Nat.pow_one]
    rw [Nat.pow_succ] at ha hb
    rcases Nat.lt_or_ge (a / 4) (b / 4) with q | q
    · obtain ⟨m, m1, m2, m3⟩ := dig_lt len (a / 4) (b / 4) q (by omega) (by omega)
      exact ⟨m, by omega, fun j hj => by rw [sh a j (by omega), sh b j (by omega)]; exact m2 j hj, by rw [sh a m m1, sh b m m1]; exact m3⟩
    · have e : a / 4 = b / 4 := by omega
      refine ⟨len, by omega, fun j hj => by rw [sh a j hj, sh b j hj, e], ?_⟩
      rw [show len + 1 - 1 - len = 0 by omega, Nat.pow_zero, Nat.div_one, Nat.div_one]
      omega
theorem Rq_lt {n : Nat} {T : Nat → Nat → Nat} {L : Nat → Nat → Nat → Nat} {g : Nat} {f : Nat → Nat} (h4 : sm4 n T L g) (hf : ∀ i, i < n → f i < n) {i : Nat} (hi : i < n) : Rq T L g f i < 4 ^ (2 * i + 1) := by
  have := rv_lt (f := f) h4 (hf i hi) i (fun j hj => hf j (by omega))
  rw [Nat.pow_succ, Nat.pow_mul, Nat.mul_comm]
  exact this
theorem Df_Rq {n : Nat} {T : Nat → Nat → Nat} {L : Nat → Nat → Nat → Nat} {g h : Nat} {f f' : Nat → Nat} (h4 : sm4 n T L g) (h4' : sm4 n T L h) (hf : ∀ i, i < n → f i < n) (hf' : ∀ i, i < n → f' i < n) {k : Nat} (hk : k < n * n) (e : Rq T L g f (isq k) = Rq T L h f' (isq k)) : Df T L g f k = Df T L h f' k := by
  have hi := isq_lt hk
  unfold Df
  rw [← Rq_dg h4 hf hi isq_m.1, ← Rq_dg h4' hf' hi isq_m.1, e]
/-- rows compare as their numbers do -/
theorem lx_rows {n : Nat} {T : Nat → Nat → Nat} {L : Nat → Nat → Nat → Nat} {g h : Nat} {f f' : Nat → Nat} (h4 : sm4 n T L g) (h4' : sm4 n T L h) (hf : ∀ i, i < n → f i < n) (hf' : ∀ i, i < n → f' i < n) (hl : lx n (Rq T L g f) (Rq T L h f')) : lx (n * n) (Df T L g f) (Df T L h f') := by
  obtain ⟨r, r1, r2, r3⟩ := hl
  obtain ⟨m, m1, m2, m3⟩ := dig_lt (2 * r + 1) _ _ r3 (Rq_lt h4 hf r1) (Rq_lt h4' hf' r1)
  have hsq : (r + 1) * (r + 1) ≤ n * n := Nat.mul_le_mul (by omega) (by omega)
  rw [Nat.add_mul, Nat.mul_add] at hsq
  refine ⟨r * r + m, by omega, fun k hk => ?_, ?_⟩
  · have hkn : k < n * n := by omega
    rcases Nat.lt_or_ge k (r * r) with q | q
    · exact Df_Rq h4 h4' hf hf' hkn (r2 _ (isq_lt q))
    · obtain ⟨j, rfl⟩ : ∃ j, k = r * r + j := ⟨k - r * r, by omega⟩
      rw [Df_at (by omega), Df_at (by omega), ← Rq_dg h4 hf r1 (by omega), ← Rq_dg h4' hf' r1 (by omega)]
      exact m2 j (by omega)
  · rw [Df_at (by omega), Df_at (by omega), ← Rq_dg h4 hf r1 (by omega), ← Rq_dg h4' hf' r1 (by omega)]
    exact m3
theorem frm_mfr {n : Nat} {T : Nat → Nat → Nat} {L : Nat → Nat → Nat → Nat} {g : Nat} {B R : Nat → Nat} (h4 : sm4 n T L g) (h1 : frm n T L g B) (h2 : mfr n T L g R) : ∃ f, (∀ i, i < n → f i < n) ∧ (∀ i, i < n → B i = Rq T L g f i) ∧ ∀ k, k < n * n → R k = Df T L g f k := by
  obtain ⟨⟨f, f1, f2⟩, f3⟩ := h1
  obtain ⟨⟨f', g1, g2⟩, g3⟩ := h2
  refine ⟨f', g1.1, ?_, g2⟩
  rcases f3 f' g1 with q | q
  · exfalso
    have q2 := lx_rows h4 h4 f1.1 g1.1 (lx_l q f2)
    exact lxe_no (g3 f f1) (lx_r q2 (fun k hk => (g2 k hk).symm))
  · exact q
theorem form_eq {n : Nat} {T : Nat → Nat → Nat} {L : Nat → Nat → Nat → Nat} {g : Nat} {B R : Nat → Nat} (h4 : sm4 n T L g) (h1 : frm n T L g B) (h2 : mfr n T L g R) {row ki : Nat} (hr : row < n) (hk : ki < n * n) (k1 : row * row ≤ ki) (k2 : ki < (row + 1) * (row + 1)) : B row / 2 ^ (2 * (row * row + 2 * row - ki)) % 4 = R ki := by
  obtain ⟨f, a1, a2, a3⟩ := frm_mfr h4 h1 h2
  rw [Nat.add_mul, Nat.mul_add] at k2
  obtain ⟨m, rfl⟩ : ∃ m, ki = row * row + m := ⟨ki - row * row, by omega⟩
  rw [a3 _ hk, Df_at (by omega), ← Rq_dg h4 a1 hr (show m ≤ 2 * row by omega), a2 row hr, Nat.pow_mul, show row * row + 2 * row - (row * row + m) = 2 * row - m by omega]
theorem comp_eq {n : Nat} {T : Nat → Nat → Nat} {L : Nat → Nat → Nat → Nat} {g h : Nat} {B B2 R R2 : Nat → Nat} {c c' : Int32} (h4 : sm4 n T L g) (h4' : sm4 n T L h) (h1 : frm n T L g B) (h2 : mfr n T L g R) (h3 : frm n T L h B2) (h5 : mfr n T L h R2) (hc : (c = -1 ∧ lx n B B2) ∨ (c = 0 ∧ ∀ i, i < n → B i = B2 i) ∨ (c = 1 ∧ lx n B2 B)) (hc' : (c' = -1 ∧ lx (n * n) R R2) ∨ (c' = 0 ∧ ∀ k, k < n * n → R k = R2 k) ∨ (c' = 1 ∧ lx (n * n) R2 R)) : c = c' := by
  obtain ⟨f, a1, a2, a3⟩ := frm_mfr h4 h1 h2
  obtain ⟨f', b1, b2, b3⟩ := frm_mfr h4' h3 h5
  have l1 : lx n B B2 → lx (n * n) R R2 := fun q => lx_l (lx_r (lx_rows h4 h4' a1 b1 (lx_l (lx_r q b2) a2)) (fun k hk => (b3 k hk).symm)) (fun k hk => (a3 k hk).symm)
  have l2 : lx n B2 B → lx (n * n) R2 R := fun q => lx_l (lx_r (lx_rows h4' h4 b1 a1 (lx_l (lx_r q a2) b2)) (fun k hk => (a3 k hk).symm)) (fun k hk => (b3 k hk).symm)
  have l3 : (∀ i, i < n → B i = B2 i) → ∀ k, k < n * n → R k = R2 k := fun q k hk => by
    rw [a3 k hk, b3 k hk]
    exact Df_Rq h4 h4' a1 b1 hk (by rw [← a2 _ (isq_lt hk), ← b2 _ (isq_lt hk)]; exact q _ (isq_lt hk))
  rcases hc with ⟨e, q⟩ | ⟨e, q⟩ | ⟨e, q⟩ <;> rcases hc' with ⟨e', q'⟩ | ⟨e', q'⟩ | ⟨e', q'⟩
  · rw [e, e']
  · exact absurd (lx_l (l1 q) q') lx_irr
  · exact absurd (lx_tr (l1 q) q') lx_irr
  · exact absurd (lx_l q' (l3 q)) lx_irr
  · rw [e, e']
  · exact absurd (lx_r q' (l3 q)) lx_irr
  · exact absurd (lx_tr (l2 q) q') lx_irr
  · exact absurd (lx_r (l2 q) q') lx_irr
  · rw [e, e']
