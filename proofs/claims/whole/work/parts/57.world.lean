/-! ===== the world that both constructors leave ===== -/
def I0 : SI := fun k => match k with
  | 2 => fun _ i => match i with
    | 0 => nI 1
    | _ => 0
  | 27 => fun _ i => match i with
    | 0 => nI 1
    | _ => 0
  | _ => fun _ => zI
def J0 : SJ := fun _ _ => zJ
def adW (h5 : Nat) (u : S5) (h6 : Nat) (a : Nat → Nat) : Nat → Nat → Nat := fun k r => match k with
  | 0 => h5
  | 1 => u.1 0
  | 2 => match r with
    | 0 => u.1 5
    | _ => u.1 6
  | 3 => match r with
    | 0 => u.2.2.2.2.2.1.1 0
    | _ => u.2.2.2.2.2.2.1 0
  | 4 => match r with
    | 0 => u.2.2.2.2.2.1.1 1
    | _ => u.2.2.2.2.2.2.1 1
  | 5 => if r < 9 then u.2.2.2.2.2.1.2 r else u.2.2.2.2.2.2.2 (r - 9)
  | 7 => match r with
    | 0 => u.2.2.2.2.2.1.1 2
    | _ => u.2.2.2.2.2.2.1 2
  | 8 => match r with
    | 0 => u.2.2.2.2.2.1.1 3
    | _ => u.2.2.2.2.2.2.1 3
  | 9 => match r with
    | 0 => u.2.2.2.2.2.1.1 4
    | _ => u.2.2.2.2.2.2.1 4
  | 10 => u.1 1
  | 11 => u.2.1.1 0
  | 12 => u.2.1.1 1
  | 13 => u.2.1.1 2
  | 14 => u.2.1.1 3
  | 15 => u.2.1.1 4
  | 16 => u.2.1.2 r
  | 17 => match r with
    | 0 => u.1 2
    | _ => u.2.2.2.1.1
  | 18 => match r with
    | 0 => u.2.2.1 0
    | _ => u.2.2.2.1.2 0
  | 19 => u.1 3
  | 20 => u.1 4
  | 21 => u.2.2.2.2.1.1 0
  | 22 => u.2.2.2.2.1.2.1 r
  | 23 => u.2.2.2.2.1.1 1
  | 24 => u.2.2.2.2.1.1 2
  | 25 => u.2.2.2.2.1.2.2 r
  | 26 => u.2.2.2.2.1.1 3
  | 27 => h6
  | 28 => a 0
  | 29 => a 1
  | 30 => a 2
  | 31 => a 3
  | 32 => a 4
  | 33 => a 5
  | 34 => a 6
  | 35 => a 7
  | 36 => a 8
  | 37 => a 9
  | _ => 0
def ksL : List (Nat × Nat) := [(0, 0), (1, 0), (2, 0), (2, 1), (3, 0), (3, 1), (4, 0), (4, 1), (5, 0), (5, 1), (5, 2), (5, 3), (5, 4), (5, 5), (5, 6), (5, 7), (5, 8), (5, 9), (5, 10), (5, 11), (5, 12), (5, 13), (5, 14), (5, 15), (5, 16), (5, 17), (7, 0), (7, 1), (8, 0), (8, 1), (9, 0), (9, 1), (10, 0), (11, 0), (12, 0), (13, 0), (14, 0), (15, 0), (16, 0), (16, 1), (16, 2), (16, 3), (16, 4), (16, 5), (16, 6), (16, 7), (16, 8), (16, 9), (16, 10), (16, 11), (16, 12), (16, 13), (16, 14), (16, 15), (16, 16), (16, 17), (17, 0), (17, 1), (18, 0), (18, 1), (19, 0), (20, 0), (21, 0), (22, 0), (22, 1), (22, 2), (22, 3), (22, 4), (22, 5), (22, 6), (22, 7), (22, 8), (23, 0), (24, 0), (25, 0), (25, 1), (25, 2), (25, 3), (25, 4), (25, 5), (25, 6), (25, 7), (25, 8), (25, 9), (25, 10), (25, 11), (25, 12), (25, 13), (25, 14), (25, 15), (25, 16), (25, 17), (25, 18), (25, 19), (25, 20), (25, 21), (25, 22), (25, 23), (25, 24), (25, 25), (25, 26), (25, 27), (25, 28), (25, 29), (25, 30), (25, 31), (25, 32), (25, 33), (25, 34), (25, 35), (25, 36), (25, 37), (25, 38), (25, 39), (25, 40), (25, 41), (25, 42), (25, 43), (25, 44), (25, 45), (25, 46), (25, 47), (25, 48), (25, 49), (25, 50), (25, 51), (25, 52), (25, 53), (25, 54), (25, 55), (25, 56), (25, 57), (25, 58), (25, 59), (25, 60), (25, 61), (25, 62), (25, 63), (25, 64), (25, 65), (25, 66), (25, 67), (25, 68), (25, 69), (25, 70), (25, 71), (25, 72), (25, 73), (25, 74), (25, 75), (25, 76), (25, 77), (25, 78), (25, 79), (25, 80), (26, 0), (27, 0), (28, 0), (29, 0), (30, 0), (31, 0), (32, 0), (33, 0), (34, 0), (35, 0), (36, 0), (37, 0)]
def ixL : List Nat := [0, 1, 126, 141, 127, 142, 128, 143, 129, 130, 131, 132, 133, 134, 135, 136, 137, 144, 145, 146, 147, 148, 149, 150, 151, 152, 138, 153, 139, 154, 140, 155, 2, 3, 4, 5, 6, 7, 8, 9, 10, 11, 12, 13, 14, 15, 16, 17, 18, 19, 20, 21, 22, 23, 24, 25, 26, 29, 27, 30, 28, 31, 32, 33, 34, 35, 36, 37, 38, 39, 40, 41, 42, 43, 44, 45, 46, 47, 48, 49, 50, 51, 52, 53, 54, 55, 56, 57, 58, 59, 60, 61, 62, 63, 64, 65, 66, 67, 68, 69, 70, 71, 72, 73, 74, 75, 76, 77, 78, 79, 80, 81, 82, 83, 84, 85, 86, 87, 88, 89, 90, 91, 92, 93, 94, 95, 96, 97, 98, 99, 100, 101, 102, 103, 104, 105, 106, 107, 108, 109, 110, 111, 112, 113, 114, 115, 116, 117, 118, 119, 120, 121, 122, 123, 124, 125, 156, 157, 158, 159, 160, 161, 162, 163, 164, 165, 166]
set_option maxRecDepth 100000 in
theorem ks_eq : ks = ksL := by decide +kernel
theorem sub_of {ws ws' : va_W} {is : List Nat} (h : is.map (fun i => ws[i]?) = ws'.map some) : is.filterMap (fun i => ws[i]?) = ws' := by
  have e : (is.map (fun i => ws[i]?)).filterMap id = ws' := by
    rw [h, List.filterMap_map]
    exact List.filterMap_some
  rw [List.filterMap_map] at e
  exact e
theorem AD_of {A : Nat → Prop} {ca : Nat → ClassId} {ad : Nat → Nat → Nat} {I : SI} {J : SJ} (h : va_D A (wl ca ad I J)) : AD A ad := by
  refine ⟨fun p q hp hq e => ?_, fun q hq => ?_⟩
  · obtain ⟨i, hi⟩ := List.getElem?_of_mem hp
    obtain ⟨j, hj⟩ := List.getElem?_of_mem hq
    have := h.1 i j _ _ (wl_at hi) (wl_at hj) e
    subst this
    exact Option.some.inj (hi.symm.trans hj)
  · obtain ⟨i, hi⟩ := List.getElem?_of_mem hq
    exact h.2 i _ (wl_at hi)
theorem BX1_congr (ca : Nat → ClassId) (h0 : Nat) (x f g : Nat → Nat) (h : ∀ i, i < 9 → f i = g i) : BX1 ca h0 (x, f) = BX1 ca h0 (x, g) := by
  have e1 : rfs 9 f = rfs 9 g := by
    funext i
    unfold rfs
    by_cases hi : i < 9
    · rw [if_pos hi, if_pos hi, h i hi]
    · rw [if_neg hi, if_neg hi]
  have e2 : (List.range 9).map (fun i => (f i, bI9 ca 9)) = (List.range 9).map (fun i => (g i, bI9 ca 9)) := List.map_congr_left (fun i hi => by rw [h i (List.mem_range.mp hi)])
  unfold BX1
  dsimp only
  unfold aR
  rw [e1, e2]
theorem ga_eq (h5 : Nat) (u : S5) (h6 : Nat) (a : Nat → Nat) : (va_up (va_up (fun _ => none) 0 (some (u.1 5))) 1 (some (u.1 6)) : Nat → Option Nat) = rfs 2 (fun i => adW h5 u h6 a 2 i) := by
  funext i
  match i with
  | 0 => rfl
  | 1 => rfl
  | i + 2 =>
    rw [va_up_ne _ _ (by omega), va_up_ne _ _ (by omega)]
    unfold rfs
    rw [if_neg (by omega)]
def BXW (ca : Nat → ClassId) (h5 : Nat) (u : S5) (h6 : Nat) (a : Nat → Nat) : va_W := (h5, .inr (5, [.ref (u.1 0), .ref (u.1 1), .ref (u.1 2), .ref (u.1 3), .ref (u.1 4), .int 0, .int 0])) :: (u.1 0, aR (ca 2) 2 (fun i => adW h5 u h6 a 2 i)) :: (((((BX3 ca (u.1 1) u.2.1 ++ BX2 ca (u.1 2) u.2.2.1) ++ BX4 ca (u.1 3) u.2.2.2.1) ++ BX0 ca (u.1 4) u.2.2.2.2.1) ++ BX1 ca (u.1 5) (u.2.2.2.2.2.1.1, fun i => adW h5 u h6 a 5 (9 * 0 + i))) ++ BX1 ca (u.1 6) (u.2.2.2.2.2.2.1, fun i => adW h5 u h6 a 5 (9 * 1 + i)))
theorem B5_eq (ca : Nat → ClassId) (h5 : Nat) (u : S5) (h6 : Nat) (a : Nat → Nat) : BX5 ca h5 u = BXW ca h5 u h6 a := by
  have e1 : BX1 ca (u.1 5) u.2.2.2.2.2.1 = BX1 ca (u.1 5) (u.2.2.2.2.2.1.1, fun i => adW h5 u h6 a 5 (9 * 0 + i)) := BX1_congr ca _ _ _ _ (fun i hi => by
    show _ = if 9 * 0 + i < 9 then _ else _
    rw [if_pos (by omega), show 9 * 0 + i = i by omega])
  have e2 : BX1 ca (u.1 6) u.2.2.2.2.2.2 = BX1 ca (u.1 6) (u.2.2.2.2.2.2.1, fun i => adW h5 u h6 a 5 (9 * 1 + i)) := BX1_congr ca _ _ _ _ (fun i hi => by
    show _ = if 9 * 1 + i < 9 then _ else _
    rw [if_neg (by omega), show 9 * 1 + i - 9 = i by omega])
  unfold BX5 BXW aR
  rw [e1, e2, ga_eq h5 u h6 a]
set_option maxRecDepth 1000000 in
set_option maxHeartbeats 8000000 in
theorem wl_ix (ca : Nat → ClassId) (h5 : Nat) (u : S5) (h6 : Nat) (a : Nat → Nat) : ixL.map (fun i => (BXW ca h5 u h6 a ++ BX6 ca h6 a)[i]?) = (wl ca (adW h5 u h6 a) I0 J0).map some := by
  unfold wl
  rw [ks_eq]
  rfl
set_option maxRecDepth 100000 in
theorem ix_nd : va_nd ixL = true := by decide +kernel
theorem world_of {D : va_G} {ca : Nat → ClassId} {A : Nat → Prop} {H : Heap} {h5 : Nat} {u : S5} {h6 : Nat} {a : Nat → Nat} (hP : va_P D vwCl (BX5 ca h5 u ++ BX6 ca h6 a) H) (hD : va_D A (BX5 ca h5 u ++ BX6 ca h6 a)) : va_P D vwCl (wl ca (adW h5 u h6 a) I0 J0) H ∧ AD A (adW h5 u h6 a) := by
  rw [B5_eq ca h5 u h6 a] at hP hD
  have e := wl_ix ca h5 u h6 a
  exact ⟨hP.sub ixL (sub_of e), AD_of (hD.sub ixL ix_nd e)⟩
theorem n00 : (0 : Int32) = nI 0 := by decide
theorem b00 : (0 : Int32) = bI false := by decide
theorem RS0 : RS I0 J0 := by
  refine ⟨1, fun _ _ => 0, fun _ _ _ => 0, false, fun i => i, ⟨⟨⟨by decide, by decide⟩, fun g _ => ⟨rfl, fun _ _ => ⟨n00, Nat.zero_lt_succ 3⟩, fun _ _ _ _ => ⟨n00, Nat.zero_lt_succ 3⟩⟩⟩, fun _ _ _ _ => rfl, ⟨false, by decide, fun h => by cases h⟩, by decide, (fun h => by cases h), fun g _ => ⟨⟨false, b00, fun h => by cases h⟩, false, b00, fun h => by cases h⟩⟩, ⟨⟨⟨by decide, by decide⟩, by decide, fun _ _ _ _ => ⟨n00, Nat.zero_lt_succ 3⟩, fun _ _ _ _ _ _ => ⟨n00, Nat.zero_lt_succ 3⟩⟩, by decide, (fun h => by cases h), ⟨false, by decide, fun h => by cases h⟩, fun _ _ => ⟨false, b00, fun h => by cases h⟩⟩⟩
