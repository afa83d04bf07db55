/-! ===== constructors: the walk over a growing list of cells ===== -/
def KI (D : va_G) (ca : Nat → ClassId) (U : State) : Prop := va_K D vwCl (tysC ca) U ∧ (va_AO RX1 U ∧ va_AOA .int U ∧ va_AOA .long U) ∧ (va_Nw (.methodLinkNest RX5 17 yX3_init RX5) U ∧ va_Nw (.methodLinkNest RX5 24 yX2_init RX5) U ∧ va_Nw (.methodLinkNest RX5 31 yX4_init RX5) U ∧ va_Nw (.methodLinkNest RX5 38 yX0_init RX5) U ∧ va_Nw (.methodLinkNest RX5 43 yX1_init RX5) U ∧ va_Nw (.methodLinkNest RX4 9 yX2_init RX5) U) ∧ va_Nw (.methodLinkNest RX0 96 yX5_compareRows RX5) U
theorem KI.warm {D : va_G} {ca : Nat → ClassId} {s U : State} (h : KI D ca s) (hW : s.WarmedH U.vm) : KI D ca U := by
  obtain ⟨h1, ⟨h2, h3, h4⟩, ⟨h5, h6, h7, h8, h9, h10⟩, h11⟩ := h
  exact ⟨va_K.moved hW.alike h1, ⟨h2.moved hW.alike, h3.moved hW.alike, h4.moved hW.alike⟩, ⟨va_Nw.warmM hW h5, va_Nw.warmM hW h6, va_Nw.warmM hW h7, va_Nw.warmM hW h8, va_Nw.warmM hW h9, va_Nw.warmM hW h10⟩, va_Nw.warmM hW h11⟩
def CK (X : Pk) (cc : ByteArray) (nL : Nat) (own : String) (D : va_G) (ca : Nat → ClassId) (A : Nat → Prop) (R : Room) : Prop :=
  X.1.tables.exec = Jvm.exec ∧ (xC X).code = cc ∧ (xC X).maxLocals = nL ∧ (xS X).vm.findClass own = some (xM X).cls ∧ (∀ w ∈ wsC, w.before (xA X) (xS X) = true) ∧ KI D ca (xS X) ∧ (∀ q, (xS X).heap.size ≤ q → A q) ∧ (xE X).locks = false ∧ xR X = R
def GK (X : Pk) (nL : Nat) (D : va_G) (A : Nat → Prop) (Q : State → Prop) (c s : Nat) (ws : va_W) (pc : Nat) (lv : List (Nat × Value)) (st : List Value) : Prop :=
  ∀ (H : Heap) (locs : List Loc) (ls : Array Slot), va_P D vwCl ws H → va_D A ws → va_S A (xS X).heap H locs → lv_has ls nL lv → W X.1 X.2.1 X.2.2.1 (xR X) (xS X) (xM X) (xA X) (xB X) (xE X) (xC X) H locs c s Q (F0 (xM X) pc ls st)
/-- a constructor's contract: its own cell becomes the cells B -/
def MK (l : Launch) (D : va_G) (ca : Nat → ClassId) (y : MethodName) (cc : ByteArray) (fr mc ms lo : Nat) (e0 : va_E) {S : Type} (B : Nat → S → va_W) : Prop :=
  ∀ (h0 sz : Nat), Met l y (Cond.code y cc 1 none :: wsC) { frames := fr, cells := mc, slots := ms, locals := lo } (va_Pc [.ref h0] (fun U => U.heap.size = sz ∧ va_P D vwCl [(h0, e0)] U.heap ∧ KI D ca U)) (va_Qv (fun _ : S => True) (fun u t => va_P D vwCl (B h0 u) t.heap ∧ va_D (va_A [(h0, e0)] sz) (B h0 u)) (va_A [(h0, e0)] sz)) mc ms (va_A [(h0, e0)] sz)
def QK (X : Pk) (D : va_G) (mc ms : Nat) (h0 : Nat) (e0 : va_E) {S : Type} (B : Nat → S → va_W) : State → Prop :=
  MQ (xB X) (va_Qv (fun _ : S => True) (fun u t => va_P D vwCl (B h0 u) t.heap ∧ va_D (va_A [(h0, e0)] (xS X).heap.size) (B h0 u)) (va_A [(h0, e0)] (xS X).heap.size)) (xA X) (xS X) mc ms (va_A [(h0, e0)] (xS X).heap.size)
theorem va_D.one {h0 : Nat} {e0 : va_E} : va_D (fun _ => True) [(h0, e0)] := ⟨fun i j p q hi hj _ => by
  have h1 := (List.getElem?_eq_some_iff.mp hi).1
  have h2 := (List.getElem?_eq_some_iff.mp hj).1
  simp at h1 h2
  omega, fun _ _ _ => trivial⟩
theorem MK.of {l : Launch} {D : va_G} {ca : Nat → ClassId} {y : MethodName} {cc : ByteArray} {fr mc ms lo : Nat} {e0 : va_E} {S : Type} {B : Nat → S → va_W} (hy : plainName y.cls = true) (hin : y.name = "<init>") {own : String} (ho : y.cls = own)
    (body : ∀ (X : Pk) (h0 : Nat), X.2.1 = l → CK X cc 1 own D ca (va_A [(h0, e0)] (xS X).heap.size) { frames := fr, cells := mc, slots := ms, locals := lo } → (xE X).sig.returnType = none → (xE X).name = "<init>" → GK X 1 D (va_A [(h0, e0)] (xS X).heap.size) (QK X D mc ms h0 e0 B) 0 0 [(h0, e0)] 0 [(0, .ref h0)] []) : MK l D ca y cc fr mc ms lo e0 B := by
  intro h0 sz
  subst ho
  refine Met.ofW (cc := cc) (maxL := 1) (ret := none) hy rfl ?_
  intro p e s m args below meth c s₁ B hml hv
  obtain ⟨rfl, hsz, hP, hK⟩ := hv
  subst hsz
  have hts := atoms_spec (ws := Cond.code y cc 1 none :: wsC) B.pre
  have hown : s.vm.findClass y.cls = some m.cls := findClass_of_methodNamed B.named
  have hl := lv_entry ([.ref h0]) (n := 1) (Nat.le_of_ble_eq_true rfl)
  rw [lg_entry_eq]
  generalize (lg_sl ([.ref h0]) ++ List.replicate (1 - (lg_sl ([.ref h0])).length) Slot.unset).toArray = ls at hl ⊢
  exact body (p, l, e, { frames := fr, cells := mc, slots := ms, locals := lo }, s, m, [Value.ref h0].toArray, below, meth, c) h0 rfl
    ⟨B.exec, B.bytes, hml, hown, fun w hw => hts w (List.mem_cons_of_mem _ hw), hK, fun q h => Or.inr h, B.notSynchronized, rfl⟩ B.returns ((name_of_methodNamed B.named B.method).1.trans hin) s.heap [] ls hP va_D.one.self va_S.rf hl
section GKS
variable {X : Pk} {cc : ByteArray} {nL : Nat} {own : String} {D : va_G} {ca : Nat → ClassId} {A : Nat → Prop} {R : Room} {Q : State → Prop} {c s : Nat} {ws : va_W} {pc : Nat} {lv : List (Nat × Value)} {st : List Value}
theorem k_aldn (C : CK X cc nL own D ca A R) {i : Fin 4} {x : Nat} (d : decode cc pc = .ok (.aload_n i, 1)) (h : lk lv (i : Nat) = some (.ref x)) (k : GK X nL D A Q c s ws (pc + 1) lv (.ref x :: st)) : GK X nL D A Q c s ws pc lv st :=
  fun H locs ls hP hD hS hl => lv_aload_n C.1 C.2.1 d rfl (lk_at h hl) (k H locs ls hP hD hS hl)
theorem k_iconst (C : CK X cc nL own D ca A R) {n : Int} (v : Int32) (d : decode cc pc = .ok (.iconst n, 1)) (hv : Int32.ofInt n = v) (k : GK X nL D A Q c s ws (pc + 1) lv (.int v :: st)) : GK X nL D A Q c s ws pc lv st :=
  fun H locs ls hP hD hS hl => lv_iconst C.1 C.2.1 d hv (k H locs ls hP hD hS hl)
theorem k_bipush (C : CK X cc nL own D ca A R) {n : Int} (v : Int32) (d : decode cc pc = .ok (.bipush n, 2)) (hv : (Int8.ofInt n).toInt32 = v) (k : GK X nL D A Q c s ws (pc + 2) lv (.int v :: st)) : GK X nL D A Q c s ws pc lv st :=
  fun H locs ls hP hD hS hl => lv_bipush C.1 C.2.1 d hv (k H locs ls hP hD hS hl)
theorem k_sipush (C : CK X cc nL own D ca A R) {n : Int} (v : Int32) (d : decode cc pc = .ok (.sipush n, 3)) (hv : (Int16.ofInt n).toInt32 = v) (k : GK X nL D A Q c s ws (pc + 3) lv (.int v :: st)) : GK X nL D A Q c s ws pc lv st :=
  fun H locs ls hP hD hS hl => lv_sipush C.1 C.2.1 d hv (k H locs ls hP hD hS hl)
theorem k_dup (C : CK X cc nL own D ca A R) {v : Value} (d : decode cc pc = .ok (.dup, 1)) (hv : v.category = 1) (k : GK X nL D A Q c s ws (pc + 1) lv (v :: v :: st)) : GK X nL D A Q c s ws pc lv (v :: st) :=
  fun H locs ls hP hD hS hl => lv_dup C.1 C.2.1 d hv (k H locs ls hP hD hS hl)
theorem k_astn (C : CK X cc nL own D ca A R) {lv' : List (Nat × Value)} {i : Fin 4} {x : Nat} (d : decode cc pc = .ok (.astore_n i, 1)) (hn : Nat.blt i nL = true) (hl' : ((i : Nat), Value.ref x) :: lv.filter (fun q => !(q.1 == (i : Nat)) && !(q.1 + 1 == (i : Nat) && q.2.category == 2)) = lv') (k : GK X nL D A Q c s ws (pc + 1) lv' st) : GK X nL D A Q c s ws pc lv (.ref x :: st) :=
  fun H locs _ hP hD hS hl => lv_astore_n C.1 C.2.1 d rfl hl (Nat.blt_eq.mp hn) hl' (fun ls2 hl2 => k H locs ls2 hP hD hS hl2)
theorem k_istn (C : CK X cc nL own D ca A R) {lv' : List (Nat × Value)} {i : Fin 4} {x : Int32} (d : decode cc pc = .ok (.istore_n i, 1)) (hn : Nat.blt i nL = true) (hl' : ((i : Nat), Value.int x) :: lv.filter (fun q => !(q.1 == (i : Nat)) && !(q.1 + 1 == (i : Nat) && q.2.category == 2)) = lv') (k : GK X nL D A Q c s ws (pc + 1) lv' st) : GK X nL D A Q c s ws pc lv (.int x :: st) :=
  fun H locs _ hP hD hS hl => lv_istore_n C.1 C.2.1 d rfl hl (Nat.blt_eq.mp hn) hl' (fun ls2 hl2 => k H locs ls2 hP hD hS hl2)
theorem k_obj (C : CK X cc nL own D ca A R) {idx a : Nat} (hlink : Cond.methodLink own idx objectInit ∈ wsC) (hroom : (Nat.ble 1 R.frames && Nat.ble 12 R.locals) = true) (d : decode cc pc = .ok (.invokespecial idx, 3)) (k : GK X nL D A Q c s ws (pc + 3) lv []) : GK X nL D A Q c s ws pc lv [.ref a] := fun H locs ls hP hD hS hl => by
  obtain ⟨h1, h2⟩ := Bool.and_eq_true_iff.mp hroom
  obtain ⟨hx, hb, hml, hown, hts, -, -, -, hR⟩ := C
  exact W.objInit hx hb hown (hts _ hlink) (hts _ iobjectInit) (hts _ codeObj) rfl (by rw [hml]; exact hl.1) rfl d (by rw [hR]; exact Nat.ble_eq.mp h1) (by rw [hR]; exact Nat.ble_eq.mp h2) (k H locs ls hP hD hS hl)
theorem ra_eq {U : State} {a b : ClassId} {ty : FieldType} (ha : va_RA U a ty) (hb : va_RA U b ty) : a = b := by
  cases ty with
  | object C =>
    obtain ⟨_, _, _, _, _, h1⟩ := ha
    obtain ⟨_, _, _, _, _, h2⟩ := hb
    exact Option.some.inj (h1.symm.trans h2)
  | _ => exact Option.some.inj (Eq.trans (Eq.symm ha) hb)
/-- new T[n] of numbers: tk is the place of T's array class in tysC -/
theorem k_newa (C : CK X cc nL own D ca A R) {atype : ArrayType} (tk : Nat) {ty : FieldType} {N : Nat} {a0 : vp_A} {n : Int32} (hty : newarray.typeOf atype = ty) (harr : Cond.arrayClass (newarray.typeOf atype) ∈ wsC) (htk : (tysC ca)[tk]? = some (ca tk, ty)) (ha : ∀ cA : ClassId, vp_cell cA a0 = arrV cA N (fun _ => defaultValue ty)) (hn : ¬ n < 0) (hN : n.toNatClampNeg = N) (hby : N * componentBytes ty ≤ 536870912) (hroom : (Nat.ble (c + 1) R.cells && Nat.ble (s + N) R.slots) = true) (d : decode cc pc = .ok (.newarray atype, 2))
    (k : ∀ q : Nat, GK X nL D A Q (c + 1) (s + N) (ws ++ [(q, .inl (ca tk, a0))]) (pc + 2) lv (.ref q :: st)) : GK X nL D A Q c s ws pc lv (.int n :: st) := fun H locs ls hP hD hS hl => by
  obtain ⟨h1, h2⟩ := Bool.and_eq_true_iff.mp hroom
  obtain ⟨hx, hb, hml, hown, hts, hK, hA, -, hR⟩ := C
  refine va_newa hx hb (hts _ harr) hty hK.1 hP hD hS hA ha hn hN hby (by rw [hR]; exact Nat.ble_eq.mp h1) (by rw [hR]; exact Nat.ble_eq.mp h2) d (fun q cA H1 hK1 hP1 hD1 hS1 => ?_)
  have e : cA = ca tk := ra_eq (hK1.2 (tysC ca).length _ (by rw [List.getElem?_append_right (Nat.le_refl _), Nat.sub_self]; rfl)).2 (hK.1.2 tk _ htk).2
  subst e
  exact k q H1 locs ls hP1 hD1 hS1 hl
theorem pl_up {l : List Nat} {f : Nat → va_E} {e : va_E} : va_pl l (vr_up f l e) = l.map (fun a => (a, e)) := by
  unfold va_pl
  exact List.map_congr_left (fun a ha => by rw [vr_up_in ha])
theorem k_mna (C : CK X cc nL own D ca A R) {index : Nat} (tk ti : Nat) {ty : FieldType} {N K : Nat} {z : vp_A} {n k : Int32} (hcl : Cond.classLink own index ("[" ++ (FieldType.array ty).toString) ∈ wsC) (hover : va_AOA ty (xS X)) (harr : Cond.arrayClass ty ∈ wsC) (htk : (tysC ca)[tk]? = some (ca tk, .array ty)) (hti : (tysC ca)[ti]? = some (ca ti, ty)) (hfi : va_RA (xS X) (ca ti) ty → (xS X).vm.findClass (FieldType.array ty).toString = some (ca ti)) (hn : ¬ n < 0) (hk : ¬ k < 0) (hN : n.toNatClampNeg = N) (hM : k.toNatClampNeg = K)
    (hb1 : N * 4 ≤ 536870912) (hb2 : K * componentBytes ty ≤ 536870912) (hb3 : K ≤ 536870912) (hdf : fits ty (defaultValue ty) = true) (hdd : (defaultValue ty).isDefault = true) (hroom : (Nat.ble (c + (1 + N)) R.cells && Nat.ble (s + (N + N * K)) R.slots) = true) (hz : ∀ c : ClassId, Jvm.Free.Multi.innerC c K (defaultValue ty) = vp_cell c z) (d : decode cc pc = .ok (.multianewarray index 2, 4))
    (kk : ∀ (q : Nat) (r : Nat → Nat), GK X nL D A Q (c + 1 + N) (s + N + N * K) ((ws ++ [(q, aR (ca tk) N r)]) ++ (List.range N).map (fun i => (r i, .inl (ca ti, z)))) (pc + 4) lv (.ref q :: st)) : GK X nL D A Q c s ws pc lv (.int k :: .int n :: st) := fun H locs ls hP hD hS hl => by
  obtain ⟨h1, h2⟩ := Bool.and_eq_true_iff.mp hroom
  obtain ⟨hx, hb, hml, hown, hts, hK, hA, -, hR⟩ := C
  refine va_mna (X := ws) (L := []) (f := fun _ => .inr (0, [])) hx hb hown (hts _ hcl) hover (hts _ harr) (hfi (hK.1.2 ti _ hti).2) hK.1 (by rw [show va_pl [] (fun _ => (.inr (0, []) : va_E)) = [] from rfl, List.append_nil]; exact hP) (by rw [show va_pl [] (fun _ => (.inr (0, []) : va_E)) = [] from rfl, List.append_nil]; exact hD) hS hA hn hk hN hM hb1 hb2 hb3 hdf hdd (by rw [hR]; exact Nat.ble_eq.mp h1) (by rw [hR]; exact Nat.ble_eq.mp h2) hz d (fun q r cA H1 _ _ hK1 hP1 hD1 hS1 => ?_)
  have e : cA = ca tk := ra_eq (hK1.2 (tysC ca).length _ (by rw [List.getElem?_append_right (Nat.le_refl _), Nat.sub_self]; rfl)).2 (hK.1.2 tk _ htk).2
  subst e
  rw [List.nil_append, pl_up, List.map_map] at hP1 hD1
  exact kk q r H1 locs ls hP1 hD1 hS1 hl
theorem k_newq (C : CK X cc nL own D ca A R) {index : Nat} {N : Nat} {n : Int32} (hcl : Cond.classLink own index RX1 ∈ wsC) (hn : ¬ n < 0) (hN : n.toNatClampNeg = N) (hby : N * 4 ≤ 536870912) (hroom : (Nat.ble (c + 1) R.cells && Nat.ble (s + N) R.slots) = true) (d : decode cc pc = .ok (.anewarray index, 3))
    (k : ∀ q : Nat, GK X nL D A Q (c + 1) (s + N) (ws ++ [(q, .inl (ca 2, N, .inr (.inr (.inr (.inr (fun _ => none))))))]) (pc + 3) lv (.ref q :: st)) : GK X nL D A Q c s ws pc lv (.int n :: st) := fun H locs ls hP hD hS hl => by
  obtain ⟨h1, h2⟩ := Bool.and_eq_true_iff.mp hroom
  obtain ⟨hx, hb, hml, hown, hts, hK, hA, -, hR⟩ := C
  refine va_newq hx hb hown (hts _ hcl) hK.2.1.1 hK.1 hP hD hS hA hn hN hby (by rw [hR]; exact Nat.ble_eq.mp h1) (by rw [hR]; exact Nat.ble_eq.mp h2) d (fun q cA H1 hK1 hP1 hD1 hS1 => ?_)
  have e : cA = ca 2 := ra_eq (hK1.2 (tysC ca).length _ (by rw [List.getElem?_append_right (Nat.le_refl _), Nat.sub_self]; rfl)).2 (hK.1.2 2 _ rfl).2
  subst e
  exact k q H1 locs ls hP1 hD1 hS1 hl
theorem k_new (C : CK X cc nL own D ca A R) {index ci N : Nat} {Cn : String} {T : u_T} (hin : ∀ w ∈ u_ws Cn T N, w ∈ wsC) (ty : Nat → FieldType) (hty : ∀ k, k < N → parseFieldDescriptor (T k).2.2.1 = some (ty k)) (hcl : Cond.classLink own index Cn ∈ wsC) (hinst : Cond.instantiable Cn N ∈ wsC) (hini : Cond.initialized Cn ∈ wsC) (hc : vwCl[ci]? = some (Cn, T, N)) {fs : List Value} (hfs : ∀ j, j < N → defaultValue (ty j) = vp_V fs j) (hroom : (Nat.ble (c + 1) R.cells && Nat.ble (s + N) R.slots) = true) (d : decode cc pc = .ok (.new index, 3))
    (k : ∀ q : Nat, GK X nL D A Q (c + 1) (s + N) (ws ++ [(q, .inr (ci, fs))]) (pc + 3) lv (.ref q :: st)) : GK X nL D A Q c s ws pc lv st := fun H locs ls hP hD hS hl => by
  obtain ⟨h1, h2⟩ := Bool.and_eq_true_iff.mp hroom
  obtain ⟨hx, hb, hml, hown, hts, hK, hA, -, hR⟩ := C
  exact va_new hx hb hts hin ty hty hown (hts _ hcl) (hts _ hinst) (hts _ hini) hK.1 hP hD hS hA hc hfs (by rw [hR]; exact Nat.ble_eq.mp h1) (by rw [hR]; exact Nat.ble_eq.mp h2) d (fun q H1 hP1 hD1 hS1 => k q H1 locs ls hP1 hD1 hS1 hl)
theorem k_putF (C : CK X cc nL own D ca A R) {index ci N : Nat} {Cn : String} {T : u_T} (hin : ∀ w ∈ u_ws Cn T N, w ∈ wsC) (ty0 : Nat → FieldType) (hty : ∀ k, k < N → parseFieldDescriptor (T k).2.2.1 = some (ty0 k)) (hnm : ∀ a, a < N → ∀ b, b < N → a ≠ b → (T a).2.1 ≠ (T b).2.1) (hc : vwCl[ci]? = some (Cn, T, N)) {h0 : Nat} {fs : List Value} {rest : va_W} (k : Nat) (hk : Nat.blt k N = true) (hlink : Cond.fieldLink own index (T k).1 (T k).2.1 (T k).2.2.1 ∈ wsC) (hfin : (T k).2.2.2 = true) (hin2 : (xE X).name = "<init>") (hdecl : (T k).1 = own) {ty : FieldType} {v : Value} (hd : parseFieldDescriptor (T k).2.2.1 = some ty) (hn : narrow ty v = v) (hfit : fits ty v = true) (hl0 : Nat.blt k fs.length = true) (d : decode cc pc = .ok (.putfield index, 3))
    (kk : GK X nL D A Q c s ((h0, .inr (ci, fs.set k v)) :: rest) (pc + 3) lv st) : GK X nL D A Q c s ((h0, .inr (ci, fs)) :: rest) pc lv (v :: .ref h0 :: st) := fun H locs ls hP hD hS hl => by
  obtain ⟨hx, hb, hml, hown, hts, hK, hA, -, hR⟩ := C
  exact va_putF hx hb hts hin ty0 hty hnm hown hK.1 hP hD hS 0 rfl hc k (Nat.blt_eq.mp hk) (hts _ hlink) (fun _ h9 => h9) hfin hin2 hdecl hd hn hfit (Nat.blt_eq.mp hl0) d (fun H1 locs1 hP1 hD1 hS1 => kk H1 locs1 ls hP1 hD1 hS1 hl)
theorem k_put (C : CK X cc nL own D ca A R) {index ci N : Nat} {Cn : String} {T : u_T} (hin : ∀ w ∈ u_ws Cn T N, w ∈ wsC) (ty0 : Nat → FieldType) (hty : ∀ k, k < N → parseFieldDescriptor (T k).2.2.1 = some (ty0 k)) (hnm : ∀ a, a < N → ∀ b, b < N → a ≠ b → (T a).2.1 ≠ (T b).2.1) (hc : vwCl[ci]? = some (Cn, T, N)) {h0 : Nat} {fs : List Value} {rest : va_W} (k : Nat) (hk : Nat.blt k N = true) (hlink : Cond.fieldLink own index (T k).1 (T k).2.1 (T k).2.2.1 ∈ wsC) (hfin : (T k).2.2.2 = false) {ty : FieldType} {v : Value} (hd : parseFieldDescriptor (T k).2.2.1 = some ty) (hn : narrow ty v = v) (hfit : fits ty v = true) (hl0 : Nat.blt k fs.length = true) (d : decode cc pc = .ok (.putfield index, 3))
    (kk : GK X nL D A Q c s ((h0, .inr (ci, fs.set k v)) :: rest) (pc + 3) lv st) : GK X nL D A Q c s ((h0, .inr (ci, fs)) :: rest) pc lv (v :: .ref h0 :: st) := fun H locs ls hP hD hS hl => by
  obtain ⟨hx, hb, hml, hown, hts, hK, hA, -, hR⟩ := C
  exact va_put hx hb hts hin ty0 hty hnm hown hK.1 hP hD hS 0 rfl hc k (Nat.blt_eq.mp hk) (hts _ hlink) (fun _ h9 => h9) hfin hd hn hfit (Nat.blt_eq.mp hl0) d (fun H1 locs1 hP1 hD1 hS1 => kk H1 locs1 ls hP1 hD1 hS1 hl)
theorem k_get (C : CK X cc nL own D ca A R) {index ci N : Nat} {Cn : String} {T : u_T} (hin : ∀ w ∈ u_ws Cn T N, w ∈ wsC) (hc : vwCl[ci]? = some (Cn, T, N)) {h0 : Nat} {fs : List Value} {rest : va_W} (k : Nat) (hk : Nat.blt k N = true) (hlink : Cond.fieldLink own index (T k).1 (T k).2.1 (T k).2.2.1 ∈ wsC) {v : Value} (hv : fs[k]? = some v) (d : decode cc pc = .ok (.getfield index, 3))
    (kk : GK X nL D A Q c s ((h0, .inr (ci, fs)) :: rest) (pc + 3) lv (v :: st)) : GK X nL D A Q c s ((h0, .inr (ci, fs)) :: rest) pc lv (.ref h0 :: st) := fun H locs ls hP hD hS hl => by
  obtain ⟨hx, hb, hml, hown, hts, hK, hA, -, hR⟩ := C
  exact va_get hx hb hts hin hown hK.1 hP 0 rfl hc k (Nat.blt_eq.mp hk) (hts _ hlink) (fun _ h9 => h9) hv d (kk H locs ls hP hD hS hl)
/-- a graph goes into the array of graphs, which is the second cell -/
theorem k_ast (C : CK X cc nL own D ca A R) {x0 : Nat × va_E} {ga v : Nat} {f : Nat → Option Nat} {rest : va_W} {vs : List Value} {i : Int32} (qk : Nat) (hv : (x0 :: (ga, .inl (ca 2, 2, .inr (.inr (.inr (.inr f))))) :: rest)[qk]? = some (v, .inr (1, vs))) (hin : vp_in i 2) (d : decode cc pc = .ok (.aastore, 1))
    (kk : GK X nL D A Q c s (x0 :: (ga, .inl (ca 2, 2, .inr (.inr (.inr (.inr (va_up f i.toNatClampNeg (some v))))))) :: rest) (pc + 1) lv st) : GK X nL D A Q c s (x0 :: (ga, .inl (ca 2, 2, .inr (.inr (.inr (.inr f))))) :: rest) pc lv (.ref v :: .int i :: .ref ga :: st) := fun H locs ls hP hD hS hl => by
  obtain ⟨hx, hb, hml, hown, hts, hK, hA, -, hR⟩ := C
  exact va_astq (r := (RX1, TX1, 9)) hx hb hK.1 hP hD hS 1 2 qk 1 rfl rfl hv rfl hin d (fun H1 locs1 hP1 hD1 hS1 => kk H1 locs1 ls hP1 hD1 hS1 hl)
theorem rg_map {α : Type} (w : List α) (y : List α) : (List.range w.length).map (fun i => (w ++ y)[i]?) = w.map some := by
  apply List.ext_getElem?
  intro i
  rw [List.getElem?_map, List.getElem?_map]
  by_cases h : i < w.length
  · rw [List.getElem?_range h]
    simp [List.getElem?_append_left h, List.getElem?_eq_getElem h]
  · rw [List.getElem?_eq_none (by rw [List.length_range]; omega), List.getElem?_eq_none (by omega)]
    rfl
theorem nd_of : ∀ l : List Nat, l.Nodup → va_nd l = true
  | [], _ => rfl
  | a :: l, h => by
    obtain ⟨h1, h2⟩ := List.nodup_cons.mp h
    show (decide (a ∉ l) && va_nd l) = true
    rw [nd_of l h2, decide_eq_true h1]
    rfl
theorem nd_rg (n : Nat) : va_nd (List.range n) = true := nd_of _ List.nodup_range
theorem k_in {l : Launch} {y : MethodName} {cc' : ByteArray} {fr' mc' ms' lo' : Nat} {e0 : va_E} {S : Type} {B : Nat → S → va_W} {b : Nat} {wr : va_W} {H : Heap} {locs : List Loc} {ls : Array Slot} {st0 : List Value} (C : CK X cc nL own D ca A R) (hP : va_P D vwCl (wr ++ [(b, e0)]) H) (hD : va_D A (wr ++ [(b, e0)])) (hS : va_S A (xS X).heap H locs) (hl : lv_has ls nL lv)
    (run : va_Run X.1 X.2.1 X.2.2.1 (xR X) (xS X) (xM X) (xA X) (xB X) (xE X) (xC X) H locs c s mc' ms' (F0 (xM X) pc ls st0) st (va_Qv (fun _ : S => True) (fun u t => va_P D vwCl (B b u) t.heap ∧ va_D (va_A [(b, e0)] H.size) (B b u)) (va_A [(b, e0)] H.size) [Value.ref b].toArray) (va_A [(b, e0)] H.size))
    (k : ∀ u : S, GK X nL D A Q (c + mc') (s + ms') (wr ++ B b u) (pc + 3) lv st) : W X.1 X.2.1 X.2.2.1 (xR X) (xS X) (xM X) (xA X) (xB X) (xE X) (xC X) H locs c s Q (F0 (xM X) pc ls st0) := by
  have hC1 : [wr.length].map (fun i => (wr ++ [(b, e0)])[i]?) = [(b, e0)].map some := by
    show [(wr ++ [(b, e0)])[wr.length]?] = [some (b, e0)]
    rw [List.getElem?_append_right (Nat.le_refl _), Nat.sub_self]
    rfl
  have hFc := va_free (wc := [(b, e0)]) hD hS C.2.2.2.2.2.2.1 [wr.length] hC1
  refine va_callv run hS (fun q _ h => hFc q h) hFc (fun u t H1 locs1 ht hvm hw hB hz1 hk1 hS1 => ?_)
  obtain ⟨hP1, hD1⟩ := hB
  rw [ht] at hP1
  obtain ⟨hP2, hD2⟩ := va_join (wc := [(b, e0)]) (wr := wr) (w1 := B b u) hP hD [wr.length] (List.range wr.length) hC1 (rg_map wr _) (nd_rg _) (fun i hi q => by
    have := List.mem_range.mp hi
    have := List.mem_singleton.mp q
    omega) hk1 hFc hP1 hD1
  exact k u H1 locs1 ls hP2 hD2 hS1 hl
end GKS
