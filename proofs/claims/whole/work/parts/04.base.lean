/-! ===== one world of cells, by kind and row: every cell of the class's object and of the reference's ===== -/
abbrev SI : Type := Nat → Nat → Nat → Int32
abbrev SJ : Type := Nat → Nat → Nat → Int64
def rfs (n : Nat) (f : Nat → Nat) : Nat → Option Nat := fun i => if i < n then some (f i) else none
theorem rfs_at {n : Nat} {f : Nat → Nat} {i : Nat} (h : i < n) : rfs n f i = some (f i) := if_pos h
abbrev aI (ca : Nat → ClassId) (n : Nat) (f : Nat → Int32) : va_E := .inl (ca 0, n, .inl f)
abbrev aJ (ca : Nat → ClassId) (n : Nat) (g : Nat → Int64) : va_E := .inl (ca 1, n, .inr (.inl g))
abbrev aR (c : ClassId) (n : Nat) (h : Nat → Nat) : va_E := .inl (c, n, .inr (.inr (.inr (.inr (rfs n h)))))
/-- what the cell of kind k, row r is: f its ints (fields or places), g its longs -/
def SSr (ca : Nat → ClassId) (ad : Nat → Nat → Nat) (k r : Nat) (f : Nat → Int32) (g : Nat → Int64) : va_E := match k with
  | 0 => .inr (5, [.ref (ad 1 0), .ref (ad 10 0), .ref (ad 17 0), .ref (ad 19 0), .ref (ad 20 0), .int (f 5), .int (f 6)])
  | 1 => aR (ca 2) 2 (fun i => ad 2 i)
  | 2 => .inr (1, [.int (f 0), .ref (ad 3 r), .ref (ad 4 r), .ref (ad 7 r), .ref (ad 8 r), .int (f 5), .int (f 6), .ref (ad 9 r), .int (f 8)])
  | 3 => aI ca 9 f
  | 4 => aR (ca 3) 9 (fun i => ad 5 (9 * r + i))
  | 5 => aI ca 9 f
  | 7 => aI ca 9 f
  | 8 => aI ca 9 f
  | 9 => aJ ca 9 g
  | 10 => .inr (3, [.int (f 0), .ref (ad 11 0), .ref (ad 12 0), .ref (ad 13 0), .ref (ad 14 0), .ref (ad 15 0)])
  | 11 => aI ca 18 f
  | 12 => aI ca 18 f
  | 13 => aI ca 18 f
  | 14 => aI ca 18 f
  | 15 => aR (ca 3) 18 (fun i => ad 16 i)
  | 16 => aI ca 9 f
  | 17 => .inr (2, [.ref (ad 18 r)])
  | 18 => aI ca 9 f
  | 19 => .inr (4, [.ref (ad 17 1)])
  | 20 => .inr (0, [.ref (ad 21 0), .ref (ad 23 0), .ref (ad 24 0), .ref (ad 26 0)])
  | 21 => aR (ca 4) 9 (fun i => ad 22 i)
  | 22 => aJ ca 9 g
  | 23 => aJ ca 9 g
  | 24 => aR (ca 4) 81 (fun i => ad 25 i)
  | 25 => aJ ca 9 g
  | 26 => aI ca 9 f
  | 27 => .inr (6, [.int (f 0), .ref (ad 28 0), .ref (ad 29 0), .int (f 3), .ref (ad 30 0), .ref (ad 31 0), .ref (ad 32 0), .ref (ad 33 0), .ref (ad 34 0), .ref (ad 35 0), .int (f 10), .ref (ad 36 0), .ref (ad 37 0), .int (f 13)])
  | 28 => aI ca 162 f
  | 29 => aI ca 18 f
  | 30 => aI ca 9 f
  | 31 => aI ca 9 f
  | 32 => aI ca 9 f
  | 33 => .inl (ca 5, 2, .inl f)
  | 34 => aI ca 162 f
  | 35 => aI ca 81 f
  | 36 => aI ca 18 f
  | 37 => aI ca 18 f
  | _ => .inr (0, [])
/-- how many rows a kind has -/
def cnt (k : Nat) : Nat := match k with
  | 2 => 2 | 3 => 2 | 4 => 2 | 5 => 18 | 6 => 0 | 7 => 2 | 8 => 2 | 9 => 2 | 16 => 18 | 17 => 2 | 18 => 2 | 22 => 9 | 25 => 81 | _ => 1
def ks : List (Nat × Nat) := (List.range 38).flatMap (fun k => (List.range (cnt k)).map (fun r => (k, r)))
theorem ks_mem {k r : Nat} (hk : k < 38) (hr : r < cnt k) : (k, r) ∈ ks :=
  List.mem_flatMap.mpr ⟨k, List.mem_range.mpr hk, List.mem_map.mpr ⟨r, List.mem_range.mpr hr, rfl⟩⟩
set_option maxRecDepth 100000 in
theorem ks_nodup : ks.Nodup := by decide +kernel
theorem ks_inj {i j : Nat} {q : Nat × Nat} (hi : ks[i]? = some q) (hj : ks[j]? = some q) : i = j := by
  obtain ⟨a, ha⟩ := List.getElem?_eq_some_iff.mp hi
  obtain ⟨b, hb⟩ := List.getElem?_eq_some_iff.mp hj
  have hp := List.pairwise_iff_getElem.mp ks_nodup
  rcases Nat.lt_trichotomy i j with h | h | h
  · exact absurd (ha.trans hb.symm) (hp i j a b h)
  · exact h
  · exact absurd (hb.trans ha.symm) (hp j i b a h)
def wl (ca : Nat → ClassId) (ad : Nat → Nat → Nat) (I : SI) (J : SJ) : va_W := ks.map (fun q => (ad q.1 q.2, SSr ca ad q.1 q.2 (I q.1 q.2) (J q.1 q.2)))
theorem wl_at {ca : Nat → ClassId} {ad : Nat → Nat → Nat} {I : SI} {J : SJ} {i : Nat} {q : Nat × Nat} (h : ks[i]? = some q) : (wl ca ad I J)[i]? = some (ad q.1 q.2, SSr ca ad q.1 q.2 (I q.1 q.2) (J q.1 q.2)) := by
  unfold wl
  rw [List.getElem?_map, h]
  rfl
theorem wl_of {ca : Nat → ClassId} {ad : Nat → Nat → Nat} {I : SI} {J : SJ} {i : Nat} {x : Nat × va_E} (h : (wl ca ad I J)[i]? = some x) : ∃ q, ks[i]? = some q ∧ x = (ad q.1 q.2, SSr ca ad q.1 q.2 (I q.1 q.2) (J q.1 q.2)) := by
  unfold wl at h
  rw [List.getElem?_map] at h
  cases hq : ks[i]? with
  | none => rw [hq] at h; cases h
  | some q => rw [hq] at h; exact ⟨q, rfl, (Option.some.inj h).symm⟩
theorem wl_get {k r : Nat} (hk : k < 38) (hr : r < cnt k) : ∃ i : Nat, ks[i]? = some (k, r) := List.getElem?_of_mem (ks_mem hk hr)
theorem wl_set {ca : Nat → ClassId} {ad : Nat → Nat → Nat} {I I' : SI} {J J' : SJ} {i k r : Nat} (hi : ks[i]? = some (k, r)) (hI : ∀ k' r', ¬ (k' = k ∧ r' = r) → I' k' r' = I k' r') (hJ : ∀ k' r', ¬ (k' = k ∧ r' = r) → J' k' r' = J k' r') : (wl ca ad I J).set i (ad k r, SSr ca ad k r (I' k r) (J' k r)) = wl ca ad I' J' := by
  apply List.ext_getElem?
  intro j
  by_cases e : i = j
  · subst e
    have h1 := wl_at (ca := ca) (ad := ad) (I := I) (J := J) hi
    have h2 := wl_at (ca := ca) (ad := ad) (I := I') (J := J') hi
    have hl := (List.getElem?_eq_some_iff.mp h1).1
    rw [List.getElem?_set_self hl, h2]
  · rw [List.getElem?_set_ne e]
    unfold wl
    rw [List.getElem?_map, List.getElem?_map]
    cases hq : ks[j]? with
    | none => rfl
    | some q =>
      have hne : ¬ (q.1 = k ∧ q.2 = r) := fun h => e (ks_inj hi (hq.trans (congrArg some (Prod.ext h.1 h.2))))
      simp only [Option.map_some]
      rw [hI _ _ hne, hJ _ _ hne]
/-- the addresses are apart -/
def AJ (ad : Nat → Nat → Nat) : Prop := ∀ (p q : Nat × Nat), p ∈ ks → q ∈ ks → ad p.1 p.2 = ad q.1 q.2 → p = q
/-- which cells a method may change -/
def AA (ad : Nat → Nat → Nat) (sz : Nat) : Nat → Prop := fun q => (∃ p ∈ ks, ad p.1 p.2 = q) ∨ sz ≤ q
def AD (A : Nat → Prop) (ad : Nat → Nat → Nat) : Prop := AJ ad ∧ ∀ q ∈ ks, A (ad q.1 q.2)
theorem AD.toD {A : Nat → Prop} {ad : Nat → Nat → Nat} (h : AD A ad) (ca : Nat → ClassId) (I : SI) (J : SJ) : va_D A (wl ca ad I J) := by
  refine ⟨fun i j x y hi hj hxy => ?_, fun i x hi => ?_⟩
  · obtain ⟨p, hp, rfl⟩ := wl_of hi
    obtain ⟨q, hq, rfl⟩ := wl_of hj
    have := h.1 p q (List.mem_of_getElem? hp) (List.mem_of_getElem? hq) hxy
    subst this
    exact ks_inj hp hq
  · obtain ⟨p, hp, rfl⟩ := wl_of hi
    exact h.2 p (List.mem_of_getElem? hp)
theorem AD.ofAA {ad : Nat → Nat → Nat} (h : AJ ad) (sz : Nat) : AD (AA ad sz) ad := ⟨h, fun q hq => Or.inl ⟨q, hq, rfl⟩⟩
/-! the state: ints by kind, row, place; a kind's rows are replaced as a whole -/
def sK {α : Type} (I : Nat → α) (k : Nat) (F : α) : Nat → α := fun k' => if k' = k then F else I k'
theorem sK_self {α : Type} (I : Nat → α) (k : Nat) (F : α) : sK I k F k = F := if_pos rfl
theorem sK_ne {α : Type} {I : Nat → α} {k k' : Nat} {F : α} (h : k' ≠ k) : sK I k F k' = I k' := if_neg h
theorem sK_sK {α : Type} (I : Nat → α) (k : Nat) (F F' : α) : sK (sK I k F) k F' = sK I k F' := by
  funext j
  by_cases h : j = k
  · subst h; rw [sK_self, sK_self]
  · rw [sK_ne h, sK_ne h, sK_ne h]
theorem sK_swap {α : Type} (I : Nat → α) {a b : Nat} (h : a ≠ b) (F G : α) : sK (sK I a F) b G = sK (sK I b G) a F := by
  funext j
  by_cases h1 : j = a
  · subst h1; rw [sK_ne h, sK_self, sK_self]
  · by_cases h2 : j = b
    · subst h2; rw [sK_self, sK_ne h1, sK_self]
    · rw [sK_ne h2, sK_ne h1, sK_ne h1, sK_ne h2]
theorem sK_id {α : Type} (I : Nat → α) (k : Nat) : sK I k (I k) = I := by
  funext j
  by_cases h : j = k
  · subst h; rw [sK_self]
  · rw [sK_ne h]
/-- a place of a row is replaced -/
def up2 {α : Type} (F : Nat → Nat → α) (r i : Nat) (x : α) : Nat → Nat → α := va_up F r (va_up (F r) i x)
theorem up2_self {α : Type} {F : Nat → Nat → α} {r i : Nat} {x : α} : up2 F r i x r i = x := by unfold up2; rw [va_up_self, va_up_self]
theorem up2_row {α : Type} {F : Nat → Nat → α} {r r' i : Nat} {x : α} (h : r' ≠ r) : up2 F r i x r' = F r' := by unfold up2; rw [va_up_ne _ _ h]
theorem up2_ne {α : Type} {F : Nat → Nat → α} {r i i' : Nat} {x : α} (h : i' ≠ i) : up2 F r i x r i' = F r i' := by unfold up2; rw [va_up_self, va_up_ne _ _ h]
theorem up2_at {α : Type} (F : Nat → Nat → α) (r i r' i' : Nat) (x : α) : up2 F r i x r' i' = if r' = r ∧ i' = i then x else F r' i' := by
  by_cases h : r' = r
  · subst h
    by_cases h2 : i' = i
    · subst h2; rw [up2_self, if_pos ⟨rfl, rfl⟩]
    · rw [up2_ne h2, if_neg (fun q => h2 q.2)]
  · rw [up2_row h, if_neg (fun q => h q.1)]
theorem upd_va (f : Nat → Int32) (k : Nat) (x : Int32) : upd f k x = va_up f k x := rfl
theorem updL_va (f : Nat → Int64) (k : Nat) (x : Int64) : vp_updL f k x = va_up f k x := rfl
theorem wl_setI {ca : Nat → ClassId} {ad : Nat → Nat → Nat} {I : SI} {J : SJ} {i k r j : Nat} {x : Int32} (hi : ks[i]? = some (k, r)) : (wl ca ad I J).set i (ad k r, SSr ca ad k r (va_up (I k r) j x) (J k r)) = wl ca ad (sK I k (up2 (I k) r j x)) J := by
  have e : (sK I k (up2 (I k) r j x)) k r = va_up (I k r) j x := by rw [sK_self]; unfold up2; rw [va_up_self]
  rw [← e]
  refine wl_set hi (fun k' r' h => ?_) (fun _ _ _ => rfl)
  by_cases hk : k' = k
  · subst hk
    rw [sK_self, up2_row (fun q => h ⟨rfl, q⟩)]
  · rw [sK_ne hk]
theorem wl_setJ {ca : Nat → ClassId} {ad : Nat → Nat → Nat} {I : SI} {J : SJ} {i k r j : Nat} {x : Int64} (hi : ks[i]? = some (k, r)) : (wl ca ad I J).set i (ad k r, SSr ca ad k r (I k r) (va_up (J k r) j x)) = wl ca ad I (sK J k (up2 (J k) r j x)) := by
  have e : (sK J k (up2 (J k) r j x)) k r = va_up (J k r) j x := by rw [sK_self]; unfold up2; rw [va_up_self]
  rw [← e]
  refine wl_set hi (fun _ _ _ => rfl) (fun k' r' h => ?_)
  by_cases hk : k' = k
  · subst hk
    rw [sK_self, up2_row (fun q => h ⟨rfl, q⟩)]
  · rw [sK_ne hk]
/-! the words that every method has: those of the tables that stay -/
def wsC : List Cond := lw_tbl.filter goodWord
theorem wsC_of {w : Cond} (h : w ∈ lw_tbl) (hg : goodWord w = true) : w ∈ wsC := List.mem_filter.mpr ⟨h, hg⟩
theorem wsC_good {c : Cond} {ws : List Cond} (hs : ∀ w ∈ wsC, w ∈ ws) (h : ∀ w ∈ [c], w ∈ wsC) : GoodIn ws (c :: wsC) := fun w hw => by
  have h2 : w ∈ wsC := (List.mem_cons.mp hw).elim (fun e => by rw [e]; exact h c (List.mem_singleton.mpr rfl)) id
  exact ⟨hs w h2, good_of_word (List.mem_filter.mp h2).2⟩
def tysC (ca : Nat → ClassId) : List (ClassId × FieldType) := [(ca 0, .int), (ca 1, .long), (ca 2, .object "GraphTwins$Graph"), (ca 3, .array .int), (ca 4, .array .long), (ca 5, .boolean)]
def KK (D : va_G) (ca : Nat → ClassId) (U : State) : Prop := va_K D vwCl (tysC ca) U ∧ va_Nw (.methodLinkNest RX0 96 yX5_compareRows RX5) U
theorem KK.warm {D : va_G} {ca : Nat → ClassId} {s U : State} (h : KK D ca s) (hW : s.WarmedH U.vm) : KK D ca U := ⟨va_K.moved hW.alike h.1, va_Nw.warmM hW h.2⟩
