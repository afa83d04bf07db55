/-! ===== the walk over that world: G, a row an instruction ===== -/
abbrev Pk : Type := Program × Launch × Env × Room × State × MethodId × Array Value × List Frame × Method × Code
abbrev Zk : Type := va_G × (Nat → ClassId) × (Nat → Nat → Nat) × (Nat → Prop)
abbrev xR (X : Pk) : Room := X.2.2.2.1
abbrev xS (X : Pk) : State := X.2.2.2.2.1
abbrev xM (X : Pk) : MethodId := X.2.2.2.2.2.1
abbrev xA (X : Pk) : Array Value := X.2.2.2.2.2.2.1
abbrev xB (X : Pk) : List Frame := X.2.2.2.2.2.2.2.1
abbrev xE (X : Pk) : Method := X.2.2.2.2.2.2.2.2.1
abbrev xC (X : Pk) : Code := X.2.2.2.2.2.2.2.2.2
abbrev WX (X : Pk) (H : Heap) (locs : List Loc) (Q : State → Prop) (g : JFrame) : Prop := W X.1 X.2.1 X.2.2.1 (xR X) (xS X) (xM X) (xA X) (xB X) (xE X) (xC X) H locs 0 0 Q g
/-- from here the goal is come to: the world holds (I, J), the locals hold lv, the stack is st -/
def G (X : Pk) (nL : Nat) (Z : Zk) (Q : State → Prop) (I : SI) (J : SJ) (pc : Nat) (lv : List (Nat × Value)) (st : List Value) : Prop :=
  ∀ (H : Heap) (locs : List Loc) (ls : Array Slot), va_P Z.1 vwCl (wl Z.2.1 Z.2.2.1 I J) H → va_S Z.2.2.2 (xS X).heap H locs → lv_has ls nL lv → WX X H locs Q (F0 (xM X) pc ls st)
/-- what stands fast in a method -/
def Cx (X : Pk) (cc : ByteArray) (nL : Nat) (own : String) (Z : Zk) (fr lo : Nat) : Prop :=
  X.1.tables.exec = Jvm.exec ∧ (xC X).code = cc ∧ (xC X).maxLocals = nL ∧ (xS X).vm.findClass own = some (xM X).cls ∧ (∀ w ∈ wsC, w.before (xA X) (xS X) = true) ∧ KK Z.1 Z.2.1 (xS X) ∧ AD Z.2.2.2 Z.2.2.1 ∧ (∀ q, (xS X).heap.size ≤ q → Z.2.2.2 q) ∧ (xE X).locks = false ∧ (xR X).frames = fr ∧ (xR X).locals = lo
def lk (lv : List (Nat × Value)) (i : Nat) : Option Value := (lv.find? (fun q => q.1 == i)).map (fun q => q.2)
theorem lk_at {lv : List (Nat × Value)} {i nL : Nat} {v : Value} {ls : Array Slot} (h : lk lv i = some v) (hl : lv_has ls nL lv) : ls[i]? = some (.val v) := by
  unfold lk at h
  cases hf : lv.find? (fun q => q.1 == i) with
  | none => rw [hf] at h; cases h
  | some q =>
    rw [hf] at h
    have h1 := List.mem_of_find?_eq_some hf
    have h2 := List.find?_some hf
    have e : q.1 = i := by simpa using h2
    cases h
    rw [← e]
    exact hl.2.2 q h1
section GR
variable {X : Pk} {cc : ByteArray} {nL : Nat} {own : String} {Z : Zk} {fr lo : Nat} {Q : State → Prop} {I : SI} {J : SJ} {pc : Nat} {lv lv' : List (Nat × Value)} {st : List Value}
theorem g_iconst (C : Cx X cc nL own Z fr lo) {n : Int} (v : Int32) (d : decode cc pc = .ok (.iconst n, 1)) (hv : Int32.ofInt n = v) (k : G X nL Z Q I J (pc + 1) lv (.int v :: st)) : G X nL Z Q I J pc lv st :=
  fun H locs ls hP hS hl => lv_iconst C.1 C.2.1 d hv (k H locs ls hP hS hl)
theorem g_bipush (C : Cx X cc nL own Z fr lo) {n : Int} (v : Int32) (d : decode cc pc = .ok (.bipush n, 2)) (hv : (Int8.ofInt n).toInt32 = v) (k : G X nL Z Q I J (pc + 2) lv (.int v :: st)) : G X nL Z Q I J pc lv st :=
  fun H locs ls hP hS hl => lv_bipush C.1 C.2.1 d hv (k H locs ls hP hS hl)
theorem g_sipush (C : Cx X cc nL own Z fr lo) {n : Int} (v : Int32) (d : decode cc pc = .ok (.sipush n, 3)) (hv : (Int16.ofInt n).toInt32 = v) (k : G X nL Z Q I J (pc + 3) lv (.int v :: st)) : G X nL Z Q I J pc lv st :=
  fun H locs ls hP hS hl => lv_sipush C.1 C.2.1 d hv (k H locs ls hP hS hl)
theorem g_lconst (C : Cx X cc nL own Z fr lo) {n : Fin 2} (v : Int64) (d : decode cc pc = .ok (.lconst n, 1)) (hv : Int64.ofNat (n : Nat) = v) (k : G X nL Z Q I J (pc + 1) lv (.long v :: st)) : G X nL Z Q I J pc lv st :=
  fun H locs ls hP hS hl => lv_lconst C.1 C.2.1 d hv (k H locs ls hP hS hl)
theorem g_ildn (C : Cx X cc nL own Z fr lo) {i : Fin 4} {x : Int32} (d : decode cc pc = .ok (.iload_n i, 1)) (h : lk lv (i : Nat) = some (.int x)) (k : G X nL Z Q I J (pc + 1) lv (.int x :: st)) : G X nL Z Q I J pc lv st :=
  fun H locs ls hP hS hl => lv_iload_n C.1 C.2.1 d rfl (lk_at h hl) (k H locs ls hP hS hl)
theorem g_ild (C : Cx X cc nL own Z fr lo) {i : Nat} {x : Int32} (d : decode cc pc = .ok (.iload i, 2)) (h : lk lv i = some (.int x)) (k : G X nL Z Q I J (pc + 2) lv (.int x :: st)) : G X nL Z Q I J pc lv st :=
  fun H locs ls hP hS hl => lv_iload C.1 C.2.1 d (lk_at h hl) (k H locs ls hP hS hl)
theorem g_lldn (C : Cx X cc nL own Z fr lo) {i : Fin 4} {x : Int64} (d : decode cc pc = .ok (.lload_n i, 1)) (h : lk lv (i : Nat) = some (.long x)) (k : G X nL Z Q I J (pc + 1) lv (.long x :: st)) : G X nL Z Q I J pc lv st :=
  fun H locs ls hP hS hl => lv_lload_n C.1 C.2.1 d rfl (lk_at h hl) (k H locs ls hP hS hl)
theorem g_lld (C : Cx X cc nL own Z fr lo) {i : Nat} {x : Int64} (d : decode cc pc = .ok (.lload i, 2)) (h : lk lv i = some (.long x)) (k : G X nL Z Q I J (pc + 2) lv (.long x :: st)) : G X nL Z Q I J pc lv st :=
  fun H locs ls hP hS hl => lv_lload C.1 C.2.1 d (lk_at h hl) (k H locs ls hP hS hl)
theorem g_aldn (C : Cx X cc nL own Z fr lo) {i : Fin 4} {x : Nat} (d : decode cc pc = .ok (.aload_n i, 1)) (h : lk lv (i : Nat) = some (.ref x)) (k : G X nL Z Q I J (pc + 1) lv (.ref x :: st)) : G X nL Z Q I J pc lv st :=
  fun H locs ls hP hS hl => lv_aload_n C.1 C.2.1 d rfl (lk_at h hl) (k H locs ls hP hS hl)
theorem g_ald (C : Cx X cc nL own Z fr lo) {i : Nat} {x : Nat} (d : decode cc pc = .ok (.aload i, 2)) (h : lk lv i = some (.ref x)) (k : G X nL Z Q I J (pc + 2) lv (.ref x :: st)) : G X nL Z Q I J pc lv st :=
  fun H locs ls hP hS hl => lv_aload C.1 C.2.1 d (lk_at h hl) (k H locs ls hP hS hl)
theorem g_istn (C : Cx X cc nL own Z fr lo) {i : Fin 4} {x : Int32} (d : decode cc pc = .ok (.istore_n i, 1)) (hn : Nat.blt i nL = true) (hl' : ((i : Nat), Value.int x) :: lv.filter (fun q => !(q.1 == (i : Nat)) && !(q.1 + 1 == (i : Nat) && q.2.category == 2)) = lv') (k : G X nL Z Q I J (pc + 1) lv' st) : G X nL Z Q I J pc lv (.int x :: st) :=
  fun H locs _ hP hS hl => lv_istore_n C.1 C.2.1 d rfl hl (Nat.blt_eq.mp hn) hl' (fun ls2 hl2 => k H locs ls2 hP hS hl2)
theorem g_ist (C : Cx X cc nL own Z fr lo) {i : Nat} {x : Int32} (d : decode cc pc = .ok (.istore i, 2)) (hn : Nat.blt i nL = true) (hl' : (i, Value.int x) :: lv.filter (fun q => !(q.1 == i) && !(q.1 + 1 == i && q.2.category == 2)) = lv') (k : G X nL Z Q I J (pc + 2) lv' st) : G X nL Z Q I J pc lv (.int x :: st) :=
  fun H locs _ hP hS hl => lv_istore C.1 C.2.1 d hl (Nat.blt_eq.mp hn) hl' (fun ls2 hl2 => k H locs ls2 hP hS hl2)
theorem g_lstn (C : Cx X cc nL own Z fr lo) {i : Fin 4} {x : Int64} (d : decode cc pc = .ok (.lstore_n i, 1)) (hn : Nat.blt (i + 1) nL = true) (hl' : ((i : Nat), Value.long x) :: lv.filter (fun q => !(q.1 == (i : Nat)) && (!(q.1 == (i : Nat) + 1) && !(q.1 + 1 == (i : Nat) && q.2.category == 2))) = lv') (k : G X nL Z Q I J (pc + 1) lv' st) : G X nL Z Q I J pc lv (.long x :: st) :=
  fun H locs _ hP hS hl => lv_lstore_n C.1 C.2.1 d rfl hl (Nat.blt_eq.mp hn) hl' (fun ls2 hl2 => k H locs ls2 hP hS hl2)
theorem g_lst (C : Cx X cc nL own Z fr lo) {i : Nat} {x : Int64} (d : decode cc pc = .ok (.lstore i, 2)) (hn : Nat.blt (i + 1) nL = true) (hl' : (i, Value.long x) :: lv.filter (fun q => !(q.1 == i) && (!(q.1 == i + 1) && !(q.1 + 1 == i && q.2.category == 2))) = lv') (k : G X nL Z Q I J (pc + 2) lv' st) : G X nL Z Q I J pc lv (.long x :: st) :=
  fun H locs _ hP hS hl => lv_lstore C.1 C.2.1 d hl (Nat.blt_eq.mp hn) hl' (fun ls2 hl2 => k H locs ls2 hP hS hl2)
theorem g_astn (C : Cx X cc nL own Z fr lo) {i : Fin 4} {x : Nat} (d : decode cc pc = .ok (.astore_n i, 1)) (hn : Nat.blt i nL = true) (hl' : ((i : Nat), Value.ref x) :: lv.filter (fun q => !(q.1 == (i : Nat)) && !(q.1 + 1 == (i : Nat) && q.2.category == 2)) = lv') (k : G X nL Z Q I J (pc + 1) lv' st) : G X nL Z Q I J pc lv (.ref x :: st) :=
  fun H locs _ hP hS hl => lv_astore_n C.1 C.2.1 d rfl hl (Nat.blt_eq.mp hn) hl' (fun ls2 hl2 => k H locs ls2 hP hS hl2)
theorem g_ast (C : Cx X cc nL own Z fr lo) {i : Nat} {x : Nat} (d : decode cc pc = .ok (.astore i, 2)) (hn : Nat.blt i nL = true) (hl' : (i, Value.ref x) :: lv.filter (fun q => !(q.1 == i) && !(q.1 + 1 == i && q.2.category == 2)) = lv') (k : G X nL Z Q I J (pc + 2) lv' st) : G X nL Z Q I J pc lv (.ref x :: st) :=
  fun H locs _ hP hS hl => lv_astore C.1 C.2.1 d hl (Nat.blt_eq.mp hn) hl' (fun ls2 hl2 => k H locs ls2 hP hS hl2)
theorem lk_mem {i : Nat} {v : Value} (h : lk lv i = some v) : ∃ k : Nat, lv[k]? = some (i, v) := by
  unfold lk at h
  cases hf : lv.find? (fun q => q.1 == i) with
  | none => rw [hf] at h; cases h
  | some q =>
    rw [hf] at h
    have h1 := List.mem_of_find?_eq_some hf
    have h2 := List.find?_some hf
    have e : q.1 = i := by simpa using h2
    cases h
    obtain ⟨k, hk⟩ := List.getElem?_of_mem h1
    exact ⟨k, by rw [hk, ← e]⟩
theorem g_iinc (C : Cx X cc nL own Z fr lo) {i : Nat} {n : Int} {x : Int32} (v : Int32) (d : decode cc pc = .ok (.iinc i n, 3)) (h : lk lv i = some (.int x)) (hv : x + Int32.ofInt n = v) (hn : Nat.blt i nL = true) (hl' : (i, Value.int v) :: lv.filter (fun q => !(q.1 == i) && !(q.1 + 1 == i && q.2.category == 2)) = lv') (k : G X nL Z Q I J (pc + 3) lv' st) : G X nL Z Q I J pc lv st :=
  fun H locs _ hP hS hl => (lk_mem h).elim fun _ h2 => lv_iinc C.1 C.2.1 d hl h2 hv (Nat.blt_eq.mp hn) hl' (fun ls2 hl2 => k H locs ls2 hP hS hl2)
end GR
