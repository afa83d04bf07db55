/-! ===== contracts over the one world: returns, entries, calls ===== -/
/-- a method's end: it returned v, the world holds (I', J'), and post says which -/
def QX (D : va_G) (ca : Nat → ClassId) (ad : Nat → Nat → Nat) (A : Nat → Prop) (post : Option Value → SI → SJ → Prop) : Array Value → State → Outcome → State → Prop :=
  fun _ st oc t => (∃ (v : Option Value) (I' : SI) (J' : SJ), oc = .returned v ∧ post v I' J' ∧ va_P D vwCl (wl ca ad I' J') t.heap) ∧ va_F A st t
def QG (X : Pk) (Z : Zk) (post : Option Value → SI → SJ → Prop) : State → Prop :=
  MQ (xB X) (QX Z.1 Z.2.1 Z.2.2.1 Z.2.2.2 post) (xA X) (xS X) 0 0 Z.2.2.2
abbrev Yk : Type := va_G × (Nat → ClassId) × (Nat → Nat → Nat)
/-- the contract of a method at (I, J) -/
def MX (l : Launch) (Y : Yk) (y : MethodName) (cc : ByteArray) (nL : Nat) (ret : Option FieldType) (fr lo : Nat) (av : List Value) (I : SI) (J : SJ) (post : Option Value → SI → SJ → Prop) : Prop :=
  ∀ sz : Nat, Met l y (Cond.code y cc nL ret :: wsC) { frames := fr, cells := 0, slots := 0, locals := lo } (va_Pc av (fun U => U.heap.size = sz ∧ va_P Y.1 vwCl (wl Y.2.1 Y.2.2 I J) U.heap ∧ KK Y.1 Y.2.1 U)) (QX Y.1 Y.2.1 Y.2.2 (AA Y.2.2 sz) post) 0 0 (AA Y.2.2 sz)
theorem MX.of {l : Launch} {Y : Yk} {y : MethodName} {cc : ByteArray} {nL : Nat} {ret : Option FieldType} {fr lo : Nat} {av : List Value} {I : SI} {J : SJ} {post : Option Value → SI → SJ → Prop} (hA : AJ Y.2.2) (hy : plainName y.cls = true) {own : String} (ho : y.cls = own) {lv : List (Nat × Value)} (hlen : Nat.ble (lg_sl av).length nL = true) (hlv : lv_args 0 av = lv)
    (body : ∀ (X : Pk) (Z : Zk), X.2.1 = l → Z.1 = Y.1 → Z.2.1 = Y.2.1 → Z.2.2.1 = Y.2.2 → Cx X cc nL own Z fr lo → (xE X).sig.returnType = ret → G X nL Z (QG X Z post) I J 0 lv []) : MX l Y y cc nL ret fr lo av I J post := by
  intro sz
  subst ho
  refine Met.ofW (cc := cc) (maxL := nL) (ret := ret) hy rfl ?_
  intro p e s m args below meth c s₁ B hml hv
  obtain ⟨rfl, hsz, hP, hK⟩ := hv
  subst hsz
  have hts := atoms_spec (ws := Cond.code y cc nL ret :: wsC) B.pre
  have hown : s.vm.findClass y.cls = some m.cls := findClass_of_methodNamed B.named
  have hl := lv_entry av (n := nL) (Nat.ble_eq.mp hlen)
  rw [lg_entry_eq]
  generalize (lg_sl av ++ List.replicate (nL - (lg_sl av).length) Slot.unset).toArray = ls at hl ⊢
  rw [hlv] at hl
  exact body (p, l, e, { frames := fr, cells := 0, slots := 0, locals := lo }, s, m, av.toArray, below, meth, c) (Y.1, Y.2.1, Y.2.2, AA Y.2.2 s.heap.size) rfl rfl rfl rfl
    ⟨B.exec, B.bytes, hml, hown, fun w hw => hts w (List.mem_cons_of_mem _ hw), hK, AD.ofAA hA _, fun q h => Or.inr h, B.notSynchronized, rfl, rfl⟩ B.returns s.heap [] ls hP va_S.rf hl
section GC
variable {X : Pk} {cc : ByteArray} {nL : Nat} {own : String} {Z : Zk} {fr lo : Nat} {Q : State → Prop} {I : SI} {J : SJ} {pc : Nat} {lv lv' : List (Nat × Value)} {st : List Value} {post : Option Value → SI → SJ → Prop}
theorem g_ireturn (C : Cx X cc nL own Z fr lo) (hr : (xE X).sig.returnType = some .int) {x : Int32} (d : decode cc pc = .ok (.ireturn, 1)) (hp : post (some (.int x)) I J) : G X nL Z (QG X Z post) I J pc lv [.int x] :=
  fun _ _ _ hP hS _ => W.iret C.1 C.2.1 hr (fun t ht _ => ⟨⟨_, I, J, rfl, hp, by rw [ht]; exact hP⟩, hS.F ht⟩) hS.2.2 d C.2.2.2.2.2.2.2.2.1
theorem g_zreturn (C : Cx X cc nL own Z fr lo) (hr : (xE X).sig.returnType = some .boolean) {x : Int32} (hx : narrow .boolean (.int x) = .int x) (d : decode cc pc = .ok (.ireturn, 1)) (hp : post (some (.int x)) I J) : G X nL Z (QG X Z post) I J pc lv [.int x] :=
  fun _ _ _ hP hS _ => W.zret C.1 C.2.1 hr hx (fun t ht _ => ⟨⟨_, I, J, rfl, hp, by rw [ht]; exact hP⟩, hS.F ht⟩) hS.2.2 d C.2.2.2.2.2.2.2.2.1
theorem g_lreturn (C : Cx X cc nL own Z fr lo) (hr : (xE X).sig.returnType = some .long) {x : Int64} (d : decode cc pc = .ok (.lreturn, 1)) (hp : post (some (.long x)) I J) : G X nL Z (QG X Z post) I J pc lv [.long x] :=
  fun _ _ _ hP hS _ => W.lret C.1 C.2.1 hr (fun t ht _ => ⟨⟨_, I, J, rfl, hp, by rw [ht]; exact hP⟩, hS.F ht⟩) hS.2.2 d C.2.2.2.2.2.2.2.2.1
theorem g_return (C : Cx X cc nL own Z fr lo) (hr : (xE X).sig.returnType = none) (d : decode cc pc = .ok (.return_, 1)) (hp : post none I J) : G X nL Z (QG X Z post) I J pc lv [] :=
  fun _ _ _ hP hS _ => W.vret C.1 C.2.1 hr (fun t ht _ => ⟨⟨_, I, J, rfl, hp, by rw [ht]; exact hP⟩, hS.F ht⟩) hS.2.2 d C.2.2.2.2.2.2.2.2.1
theorem g_areturn (C : Cx X cc nL own Z fr lo) {n : String} (hr : (xE X).sig.returnType = some (.object n)) {a : Nat} (d : decode cc pc = .ok (.areturn, 1)) (hp : post (some (.ref a)) I J) : G X nL Z (QG X Z post) I J pc lv [.ref a] :=
  fun _ _ _ hP hS _ => W.aret C.1 C.2.1 hr (Or.inl ⟨_, rfl⟩) (Or.inr ⟨_, rfl⟩) (fun t ht _ => ⟨⟨_, I, J, rfl, hp, by rw [ht]; exact hP⟩, hS.F ht⟩) hS.2.2 d C.2.2.2.2.2.2.2.2.1
/-- behind a call -/
theorem g_back {a : Array Value} {H : Heap} {locs : List Loc} {ls : Array Slot} {st0 : List Value} (C : Cx X cc nL own Z fr lo) (hr : va_Run X.1 X.2.1 X.2.2.1 (xR X) (xS X) (xM X) (xA X) (xB X) (xE X) (xC X) H locs 0 0 0 0 (F0 (xM X) pc ls st0) st (QX Z.1 Z.2.1 Z.2.2.1 (AA Z.2.2.1 H.size) post a) (AA Z.2.2.1 H.size)) (hS : va_S Z.2.2.2 (xS X).heap H locs) (hl : lv_has ls nL lv)
    (kk : ∀ (v : Option Value) (I' : SI) (J' : SJ), post v I' J' → G X nL Z Q I' J' (pc + 3) lv (v.toList ++ st)) : WX X H locs Q (F0 (xM X) pc ls st0) := by
  intro T hT Xs
  obtain ⟨v, st₀, t, T', L, h0, X', hL, e1, e2, ⟨⟨v', I', J', hv, hp, hb⟩, hz, hk⟩, stp⟩ := hr T hT Xs
  cases hv
  rw [h0] at hz hk
  have hAA : ∀ q, AA Z.2.2.1 H.size q → Z.2.2.2 q := fun q h => by
    rcases h with ⟨p, hp, rfl⟩ | h
    · exact C.2.2.2.2.2.2.1.2 p hp
    · exact C.2.2.2.2.2.2.2.1 q (Nat.le_trans hS.1 h)
  have hS1 : va_S Z.2.2.2 (xS X).heap T'.heap (locs ++ L) :=
    ⟨Nat.le_trans hS.1 (by rw [e1]; exact hz), fun q h1 h2 => by rw [e1, hk q (Nat.lt_of_lt_of_le h1 hS.1) (fun z => h2 (hAA q z))]; exact hS.2.1 q h1 h2, fun q hq => by
      rcases List.mem_append.mp hq with h | h
      · exact hS.2.2 q h
      · exact hAA _ (hL q h)⟩
  obtain ⟨t2, a1, b1⟩ := kk v I' J' hp T'.heap (locs ++ L) ls (by rw [e1]; exact hb) hS1 hl T' rfl X'
  exact ⟨t2, stp t2 a1, b1⟩
/-- what a callee must be: its words are of the tables -/
def cW (y : MethodName) (cc : ByteArray) (nL : Nat) (ret : Option FieldType) (n : Nat) : Prop :=
  Cond.initialized y.cls ∈ wsC ∧ Cond.code y cc nL ret ∈ wsC ∧ (y.cls ≠ "java/lang/invoke/MethodHandle" ∧ y.cls ≠ "java/lang/invoke/VarHandle" ∧ (parseMethodDescriptor y.desc).map (fun d => d.parameters.length) = some n)
theorem wsC_goodS {y : MethodName} {cc : ByteArray} {nL : Nat} {ret : Option FieldType} {n : Nat} (h : cW y cc nL ret n) : GoodIn wsC (Cond.code y cc nL ret :: wsC) := wsC_good (fun _ h => h) (fun w hw => by rw [List.mem_singleton.mp hw]; exact h.2.1)
theorem g_callV {y : MethodName} {cc' : ByteArray} {nL' : Nat} {ret : Option FieldType} {fr' lo' n index : Nat} {b : Nat} {As : List Value} {st0 : List Value} (C : Cx X cc nL own Z fr lo) (hM : MX X.2.1 (Z.1, Z.2.1, Z.2.2.1) y cc' nL' ret fr' lo' (.ref b :: As) I J post) (hw : cW y cc' nL' ret n) (hin : Cond.instanceMethod y ∈ wsC) (hsel : Cond.selects y.cls y y ∈ wsC) (hlink : Cond.methodLink own index y ∈ wsC)
    (k r : Nat) (hk : k < 38) (hr : r < cnt k) (hb : b = Z.2.2.1 k r) {ci : Nat} {q : vw_C} {fs : List Value} (hs : SSr Z.2.1 Z.2.2.1 k r (I k r) (J k r) = .inr (ci, fs)) (hc : vwCl[ci]? = some q) (hq : q.1 = y.cls)
    (hn : As.length = n) (hst : st0 = As.reverse ++ .ref b :: st) (hcat : Nat.ble (st.map fun v => v.category).sum 8 = true) (hroom : (Nat.ble (fr' + 1) fr && Nat.ble (8 + (nL' + 11) + lo') lo) = true) (d : decode cc pc = .ok (.invokevirtual index, 3))
    (kk : ∀ (v : Option Value) (I' : SI) (J' : SJ), post v I' J' → G X nL Z Q I' J' (pc + 3) lv (v.toList ++ st)) : G X nL Z Q I J pc lv st0 := by
  intro H locs ls hP hS hl
  subst hb
  obtain ⟨i, hi⟩ := wl_get hk hr
  have ha := wl_at (ca := Z.2.1) (ad := Z.2.2.1) (I := I) (J := J) hi
  dsimp only at ha
  rw [hs] at ha
  obtain ⟨h1, h2⟩ := Bool.and_eq_true_iff.mp hroom
  have hts := C.2.2.2.2.1
  have hrecv := va_recv C.2.2.2.2.2.1.1 hP hc ha
  rw [hq] at hrecv
  have cw : CallW (xR X) (xS X) (xA X) own y.cls index y cc' nL' ret (Cond.code y cc' nL' ret :: wsC) { frames := fr', cells := 0, slots := 0, locals := lo' } 0 0 n :=
    ⟨callB_of n hts (wsC_goodS hw) rfl rfl rfl (hts _ hw.1) (hts _ hlink) hw.2.2 ⟨by rw [C.2.2.2.2.2.2.2.2.2.1]; exact Nat.ble_eq.mp h1, by rw [C.2.2.2.2.2.2.2.2.2.2]; exact Nat.ble_eq.mp h2⟩, hts _ hin, hts _ hsel⟩
  exact g_back C (va_runV (g := F0 (xM X) pc ls st0) ⟨C.1, C.2.1, C.2.2.1, C.2.2.2.1, hts⟩ (hM H.size) cw ⟨fun a U g mk q => q, hrecv, fun U hU hW => ⟨rfl, by rw [hU], by rw [hU]; exact hP, C.2.2.2.2.2.1.warm hW⟩⟩ rfl hn hl.1 hst (lv_room (Nat.ble_eq.mp hcat)) d ⟨Nat.zero_le _, Nat.zero_le _⟩) hS hl kk
theorem g_callS {y : MethodName} {cc' : ByteArray} {nL' : Nat} {ret : Option FieldType} {fr' lo' n index : Nat} {As : List Value} {st0 : List Value} (C : Cx X cc nL own Z fr lo) (hM : MX X.2.1 (Z.1, Z.2.1, Z.2.2.1) y cc' nL' ret fr' lo' As I J post) (hw : cW y cc' nL' ret n) (hstt : Cond.static y ∈ wsC) (hlink : Cond.methodLink own index y ∈ wsC)
    (hn : As.length = n) (hst : st0 = As.reverse ++ st) (hcat : Nat.ble (st.map fun v => v.category).sum 8 = true) (hroom : (Nat.ble (fr' + 1) fr && Nat.ble (8 + (nL' + 11) + lo') lo) = true) (d : decode cc pc = .ok (.invokestatic index, 3))
    (kk : ∀ (v : Option Value) (I' : SI) (J' : SJ), post v I' J' → G X nL Z Q I' J' (pc + 3) lv (v.toList ++ st)) : G X nL Z Q I J pc lv st0 := by
  intro H locs ls hP hS hl
  obtain ⟨h1, h2⟩ := Bool.and_eq_true_iff.mp hroom
  have hts := C.2.2.2.2.1
  have cw : CallB (xR X) (xS X) (xA X) own index y cc' nL' ret (Cond.code y cc' nL' ret :: wsC) { frames := fr', cells := 0, slots := 0, locals := lo' } 0 0 n ∧ (Cond.static y).before (xA X) (xS X) = true :=
    ⟨callB_of n hts (wsC_goodS hw) rfl rfl rfl (hts _ hw.1) (hts _ hlink) hw.2.2 ⟨by rw [C.2.2.2.2.2.2.2.2.2.1]; exact Nat.ble_eq.mp h1, by rw [C.2.2.2.2.2.2.2.2.2.2]; exact Nat.ble_eq.mp h2⟩, hts _ hstt⟩
  exact g_back C (va_runS (g := F0 (xM X) pc ls st0) ⟨C.1, C.2.1, C.2.2.1, C.2.2.2.1, hts⟩ (hM H.size) cw ⟨fun a U g mk q => q, fun U hU hW => ⟨rfl, by rw [hU], by rw [hU]; exact hP, C.2.2.2.2.2.1.warm hW⟩⟩ rfl hn hl.1 hst (lv_room (Nat.ble_eq.mp hcat)) d ⟨Nat.zero_le _, Nat.zero_le _⟩) hS hl kk
/-- the nest mate's private static method (compareRows out of FormFinder) -/
theorem g_callN {y : MethodName} {host : String} {cc' : ByteArray} {nL' : Nat} {ret : Option FieldType} {fr' lo' n index : Nat} {As : List Value} {st0 : List Value} (C : Cx X cc nL own Z fr lo) (hM : MX X.2.1 (Z.1, Z.2.1, Z.2.2.1) y cc' nL' ret fr' lo' As I J post) (hw : cW y cc' nL' ret n) (hstt : Cond.static y ∈ wsC) (hlink : va_Nw (.methodLinkNest own index y host) (xS X))
    (hn : As.length = n) (hst : st0 = As.reverse ++ st) (hcat : Nat.ble (st.map fun v => v.category).sum 8 = true) (hroom : (Nat.ble (fr' + 1) fr && Nat.ble (8 + (nL' + 11) + lo') lo) = true) (d : decode cc pc = .ok (.invokestatic index, 3))
    (kk : ∀ (v : Option Value) (I' : SI) (J' : SJ), post v I' J' → G X nL Z Q I' J' (pc + 3) lv (v.toList ++ st)) : G X nL Z Q I J pc lv st0 := by
  intro H locs ls hP hS hl
  obtain ⟨h1, h2⟩ := Bool.and_eq_true_iff.mp hroom
  have hts := C.2.2.2.2.1
  have cw : va_CN (xR X) (xS X) (xA X) own index y host cc' nL' ret (Cond.code y cc' nL' ret :: wsC) { frames := fr', cells := 0, slots := 0, locals := lo' } 0 0 n ∧ (Cond.static y).before (xA X) (xS X) = true ∧ True :=
    ⟨va_cnB n hts (wsC_goodS hw) rfl rfl rfl hlink (hts _ hw.1) hw.2.2 ⟨by rw [C.2.2.2.2.2.2.2.2.2.1]; exact Nat.ble_eq.mp h1, by rw [C.2.2.2.2.2.2.2.2.2.2]; exact Nat.ble_eq.mp h2⟩, hts _ hstt, trivial⟩
  exact g_back C (va_runSN (g := F0 (xM X) pc ls st0) ⟨C.1, C.2.1, C.2.2.1, C.2.2.2.1, hts⟩ (hM H.size) cw ⟨fun a U g mk q => q, fun U hU hW => ⟨rfl, by rw [hU], by rw [hU]; exact hP, C.2.2.2.2.2.1.warm hW⟩⟩ rfl hn hl.1 hst (lv_room (Nat.ble_eq.mp hcat)) d ⟨Nat.zero_le _, Nat.zero_le _⟩) hS hl kk
end GC
