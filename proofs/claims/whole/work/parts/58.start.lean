/-! THE CLAIM OUT OF ONE WALK OF THE LAW'S BODY. Your part is whole_start (and what it stands on); all else here is the same for every law, but numbers. -/
def R_law : String := "GraphTwinsLaw"
def lw_P (b : Addr) (xs : List Int32) (args : Array Value) (s : State) : Prop := args = #[.ref b] ∧ s.IntsAt b xs ∧ xs.length ≤ 2560 ∧ (Jvm.Cond.and given_1 narrow_1).before args s = true
def lw_Q (_ : Array Value) (s : State) (o : Outcome) (t : State) : Prop := o = .returned (some (.int 1)) ∧ Framed s o t [] 600000 7302250
def lw_Z (below : List Frame) (a : Array Value) (s : State) : State → Prop := fun t => ∃ o, t.status = .running ∧ Ended t below o ∧ lw_Q a s o t
/-- the law's own end, with 1 on the stack, nothing written that was there before, its room as the claim has it -/
theorem lw_ret {p : Program} {l : Launch} {e : Env} {s : State} {m : MethodId} {below : List Frame} {meth : Method} {c : Code} {b : Nat} (hx : p.tables.exec = Jvm.exec) (hb : c.code = code) (hr : meth.sig.returnType = ret) (hlocks : meth.locks = false) {pc : Nat} {H : Heap} {ls : Array Slot} (hdg : decode code pc = .ok (.ireturn, 1)) : W p l e room_1 s m #[Value.ref b] below meth c H [] 600000 7302250 (lw_Z below #[Value.ref b] s) (F0 m pc ls [.int 1]) := by
  intro T hT X
  obtain ⟨fs, hret, hrun, hended, hW, hframe⟩ := X.leave (v := some (.int 1)) (hlocks := hlocks) (fun h => by rw [hr] at h; cases h)
  have hmeth' : T.vm.method? m = some meth := X.method'
  refine ⟨T.setFrames fs, ?_, .returned (some (.int 1)), hrun, hended, rfl, ⟨_, rfl⟩, hW, hframe⟩
  jvm_step X.here [X.here.top, hx, hb, hdg, hmeth', hr, ret, narrow_b1]
  (try refine ⟨rfl, ?_⟩); (try refine ⟨rfl, ?_⟩)
  first | (intro acts; rw [hret _ acts rfl rfl rfl]) | rw [hret _ _ rfl rfl rfl]
  exact Steps.refl _
/-- what holds at the law's entry: the machine, the code, the tables' words (any of lw_tbl by 'hts w (by decide +kernel)'), the script of L ints xs at the cell b, what the Statement gives of the start (any of its parts by flat_of_before) -/
def lw_At (p : Program) (s : State) (m : MethodId) (meth : Method) (c : Code) (b L : Nat) (xs : Nat → Int32) : Prop :=
  p.tables.exec = Jvm.exec ∧ c.code = code ∧ meth.sig.returnType = ret ∧ c.maxLocals = 4 ∧ s.vm.findClass R_law = some m.cls ∧ (∀ w ∈ lw_tbl, w.before #[Value.ref b] s = true) ∧ va_X b L xs s s.heap ∧ b < s.heap.size ∧ meth.locks = false ∧ (Jvm.Cond.and given_1 narrow_1).before #[Value.ref b] s = true
-- ===== the law from its entry =====
theorem AO_arr {U : State} {A : Array Value} {t : FieldType} (h : (Cond.arrayClass t).before A U = true) (ht : ∀ C, t ≠ .object C) : ∃ cA, ArrOfT U cA t ∧ va_RA U cA t := by
  obtain ⟨cA, kA, comp, f1, f2, f3⟩ := Cond.arrayClass_spec h
  refine ⟨cA, fun N z => ⟨(fun k h => by cases h), kA, f2, comp, f3⟩, ?_⟩
  cases t with
  | object C => exact absurd rfl (ht C)
  | _ => exact f1
theorem AO_ovr {U : State} {A : Array Value} {t : FieldType} (h : (Cond.arrayOver (.array t)).before A U = true) : ∃ cA, ArrOfT U cA (.array t) ∧ va_RA U cA (.array t) := by
  obtain ⟨comp, cA, kA, -, f2, f3, f4⟩ := Cond.arrayOver_specA h
  exact ⟨cA, fun N z => ⟨(fun k h => by cases h), kA, f2, comp, f3⟩, f4⟩
theorem AO_obj {U : State} {A : Array Value} {C : String} (h : (Cond.arrayOver (.object C)).before A U = true) : ∃ cA, ArrOfT U cA (.object C) ∧ va_RA U cA (.object C) := by
  obtain ⟨comp, cA, kA, f1, -, f2, f3, f4⟩ := Cond.arrayOver_spec h
  exact ⟨cA, fun N z => ⟨(fun k h => by cases h), kA, f2, comp, f3⟩, kA, comp, f2, f3, f1, f4⟩
theorem wA_1 : Cond.arrayOver (.object "GraphTwins$Graph") ∈ lw_tbl := List.mem_append_right _ (List.mem_of_getElem? (i := 20) rfl)
theorem wA_2 : Cond.arrayOver (.array .int) ∈ lw_tbl := List.mem_append_right _ (List.mem_of_getElem? (i := 28) rfl)
theorem wA_3 : Cond.arrayOver (.array .long) ∈ lw_tbl := List.mem_append_right _ (List.mem_of_getElem? (i := 81) rfl)
theorem wN_1 : Cond.methodLinkNest RX5 17 yX3_init RX5 ∈ lw_tbl := List.mem_append_right _ (List.mem_of_getElem? (i := 23) rfl)
theorem wN_2 : Cond.methodLinkNest RX5 24 yX2_init RX5 ∈ lw_tbl := List.mem_append_right _ (List.mem_of_getElem? (i := 52) rfl)
theorem wN_3 : Cond.methodLinkNest RX5 31 yX4_init RX5 ∈ lw_tbl := List.mem_append_right _ (List.mem_of_getElem? (i := 64) rfl)
theorem wN_4 : Cond.methodLinkNest RX5 38 yX0_init RX5 ∈ lw_tbl := List.mem_append_right _ (List.mem_of_getElem? (i := 76) rfl)
theorem wN_5 : Cond.methodLinkNest RX5 43 yX1_init RX5 ∈ lw_tbl := List.mem_append_right _ (List.mem_of_getElem? (i := 97) rfl)
theorem wN_6 : Cond.methodLinkNest RX4 9 yX2_init RX5 ∈ lw_tbl := List.mem_append_right _ (List.mem_of_getElem? (i := 69) rfl)
set_option maxRecDepth 10000 in
theorem wN_7 : Cond.methodLinkNest RX0 96 yX5_compareRows RX5 ∈ lw_tbl := List.mem_append_right _ (List.mem_of_getElem? (i := 387) rfl)
theorem KI_of {s : State} {A : Array Value} (hts : ∀ w ∈ lw_tbl, w.before A s = true) : ∃ (D : va_G) (ca : Nat → ClassId), KI D ca s := by
  have hw : ∀ w ∈ wsC, w.before A s = true := fun w h => hts w (List.mem_filter.mp h).1
  obtain ⟨c0, i0, k0⟩ := u_known (C := RX0) (T := TX0) (N := 4) (n := 4) hw u0 (hw _ inX0)
  obtain ⟨c1, i1, k1⟩ := u_known (C := RX1) (T := TX1) (N := 9) (n := 9) hw u1 (hw _ inX1)
  obtain ⟨c2, i2, k2⟩ := u_known (C := RX2) (T := TX2) (N := 1) (n := 1) hw u2 (hw _ inX2)
  obtain ⟨c3, i3, k3⟩ := u_known (C := RX3) (T := TX3) (N := 6) (n := 6) hw u3 (hw _ inX3)
  obtain ⟨c4, i4, k4⟩ := u_known (C := RX4) (T := TX4) (N := 1) (n := 1) hw u4 (hw _ inX4)
  obtain ⟨c5, i5, k5⟩ := u_known (C := RX5) (T := TX5) (N := 7) (n := 7) hw u5 (hw _ inX5)
  obtain ⟨c6, i6, k6⟩ := u_known (C := RX6) (T := TX6) (N := 14) (n := 14) hw u6 (hw _ inX6)
  obtain ⟨a0, x0⟩ := AO_arr (hw _ acI) (fun C h => by cases h)
  obtain ⟨a1, x1⟩ := AO_arr (hw _ acJ) (fun C h => by cases h)
  obtain ⟨a2, x2⟩ := AO_obj (hts _ wA_1)
  obtain ⟨a3, x3⟩ := AO_ovr (hts _ wA_2)
  obtain ⟨a4, x4⟩ := AO_ovr (hts _ wA_3)
  obtain ⟨a5, x5⟩ := AO_arr (hw _ acZ) (fun C h => by cases h)
  refine ⟨(fun k => match k with
    | 0 => c0
    | 1 => c1
    | 2 => c2
    | 3 => c3
    | 4 => c4
    | 5 => c5
    | _ => c6, fun k => match k with
    | 0 => i0
    | 1 => i1
    | 2 => i2
    | 3 => i3
    | 4 => i4
    | 5 => i5
    | _ => i6), fun k => match k with
    | 0 => a0
    | 1 => a1
    | 2 => a2
    | 3 => a3
    | 4 => a4
    | _ => a5, ⟨?_, ?_⟩, ⟨va_AO.of (hts _ wA_1), va_AOA.of (hts _ wA_2), va_AOA.of (hts _ wA_3)⟩, ⟨va_Nw.of rfl (hts _ wN_1), va_Nw.of rfl (hts _ wN_2), va_Nw.of rfl (hts _ wN_3), va_Nw.of rfl (hts _ wN_4), va_Nw.of rfl (hts _ wN_5), va_Nw.of rfl (hts _ wN_6)⟩, va_Nw.of rfl (hts _ wN_7)⟩
  · intro k q hq
    match k, hq with
    | 0, hq => cases hq; exact k0
    | 1, hq => cases hq; exact k1
    | 2, hq => cases hq; exact k2
    | 3, hq => cases hq; exact k3
    | 4, hq => cases hq; exact k4
    | 5, hq => cases hq; exact k5
    | 6, hq => cases hq; exact k6
    | k + 7, hq => simp [vwCl] at hq
  · intro k q hq
    match k, hq with
    | 0, hq => cases hq; exact x0
    | 1, hq => cases hq; exact x1
    | 2, hq => cases hq; exact x2
    | 3, hq => cases hq; exact x3
    | 4, hq => cases hq; exact x4
    | 5, hq => cases hq; exact x5
    | k + 6, hq => simp [tysC] at hq
set_option maxRecDepth 100000 in
set_option maxHeartbeats 4000000 in
theorem whole_start {p : Program} {e : Env} {s : State} {m : MethodId} {below : List Frame} {meth : Method} {c : Code} (l : Launch) {b L : Nat} {xs : Nat → Int32} (hL : L ≤ 2560) (C0 : lw_At p s m meth c b L xs) : W p l e room_1 s m #[Value.ref b] below meth c s.heap [] 0 0 (lw_Z below #[Value.ref b] s) (entryFrame m ([Value.ref b] : List Value).toArray 4) := by
  obtain ⟨hx, hb, hr, hml, hown, hts, hX, hbl, hlocks, hgv⟩ := id C0
  obtain ⟨D, ca, hKI⟩ := KI_of hts
  have hl := lv_entry ([.ref b]) (n := 4) (Nat.le_of_ble_eq_true rfl)
  rw [lg_entry_eq]
  generalize (lg_sl ([.ref b]) ++ List.replicate (4 - (lg_sl ([.ref b])).length) Slot.unset).toArray = ls at hl ⊢
  have hl : lv_has ls 4 [(0, .ref b)] := hl
  have hw : ∀ w ∈ wsC, w.before #[Value.ref b] s = true := fun w h => hts w (List.mem_filter.mp h).1
  have C : CK (p, l, e, room_1, s, m, #[Value.ref b], below, meth, c) cL_law 4 RL D ca (fun q => s.heap.size ≤ q) { frames := 2048, cells := 600000, slots := 7302250, locals := 84000 } := ⟨hx, hb, hml, hown, hw, hKI, fun _ h => h, hlocks, rfl⟩
  have fin : ∀ (Z : Zk) (I : SI) (J : SJ), (∀ q, Z.2.2.2 q → s.heap.size ≤ q) → Cx (p, l, e, room_1, s, m, #[Value.ref b], below, meth, c) cL_law 4 RL Z 2048 84000 → GL (p, l, e, room_1, s, m, #[Value.ref b], below, meth, c) 4 Z (lw_Z below #[Value.ref b] s) I J 529 [(0, .ref b)] [] := fun Z I J hZ C1 => by
    refine h_iconst C1 1 dL_law_529 (by decide) ?_
    intro H locs ls hP hS hl
    exact va_forget (fun q hq => hZ _ (hS.2.2 q hq)) (W.widen (Nat.le_of_ble_eq_true rfl) (Nat.le_of_ble_eq_true rfl) (lw_ret hx hb hr hlocks dL_law_530))
  have go : GK (p, l, e, room_1, s, m, #[Value.ref b], below, meth, c) 4 D (fun q => s.heap.size ≤ q) (lw_Z below #[Value.ref b] s) 0 0 [] 0 [(0, .ref b)] [] := by
    refine k_new (fs := [.null, .null, .null, .null, .null, .int 0, .int 0]) C u5 tyX5 tyX5_ok clL_7 inX5 nRX5 (ci := 5) rfl (by decide) rfl dL_law_0 (fun h5 => ?_)
    refine k_dup C dL_law_3 rfl ?_
    refine k_callI C (n_X5_init _ _ _) mL_9 wX5_init iX5_init rfl rfl rfl dL_law_4 (fun u => ?_)
    refine k_astn C dL_law_7 rfl rfl ?_
    refine k_new (fs := [.int 0, .null, .null, .int 0, .null, .null, .null, .null, .null, .null, .int 0, .null, .null, .int 0]) C u6 tyX6 tyX6_ok clL_10 inX6 nRX6 (ci := 6) rfl (by decide) rfl dL_law_8 (fun h6 => ?_)
    refine k_dup C dL_law_11 rfl ?_
    refine k_callI C (n_X6_init _ _ _) mL_12 wX6_init iX6_init rfl rfl rfl dL_law_12 (fun a => ?_)
    refine k_astn C dL_law_15 rfl rfl ?_
    refine k_iconst C (nI 0) dL_law_16 (by decide) ?_
    refine k_istn C dL_law_17 rfl rfl ?_
    intro H locs ls hP hD hS hl
    obtain ⟨hP1, hAD⟩ := world_of (h5 := h5) (u := u) (h6 := h6) (a := a) hP hD
    have C1 : Cx (p, l, e, room_1, s, m, #[Value.ref b], below, meth, c) cL_law 4 RL (D, ca, adW h5 u h6 a, fun q => s.heap.size ≤ q) 2048 84000 := ⟨hx, hb, hml, hown, hw, ⟨hKI.1, hKI.2.2.2⟩, hAD, fun _ h => h, hlocks, rfl, rfl⟩
    have := law_loop (Q := lw_Z below #[Value.ref b] s) hAD.1 C1 (Nat.le_of_ble_eq_true rfl) (Nat.le_of_ble_eq_true rfl) hX hbl (Nat.not_le.mpr hbl) hL (fun I J => fin _ I J (fun _ h => h) C1) 2601 0 I0 J0 (by omega) (by omega) RS0
    exact W.widen (Nat.le_of_ble_eq_true rfl) (Nat.le_of_ble_eq_true rfl) (this H locs ls hP1 hS (lv_sub hl [3, 2, 1, 0] rfl))
  exact go s.heap [] ls (fun k q h => by simp at h) ⟨fun i j p q h => by simp at h, fun k q h => by simp at h⟩ va_S.rf hl
set_option maxHeartbeats 4000000 in
theorem lw_walk (l : Launch) (b : Addr) (xs : List Int32) : MetFree l x (headSpec (Jvm.Cond.code x code maxLocals ret :: tables_1) room_1) (lw_P b xs) (fun _ _ _ _ _ => True) lw_Q := by
  refine MetFree.of_bodyS (code := code) (maxLocals := maxLocals) (ret := ret) (by decide) ?_ ?_
  · intro args s m h hn
    obtain ⟨meth, c, h1, h2, h3, h4, h5, h6, -, -⟩ := Cond.code_spec hn (atoms_spec (ws := Jvm.Cond.code x code maxLocals ret :: tables_1) h _ List.mem_cons_self)
    exact ⟨meth, c, h1, h2, h3, h4, h5, h6⟩
  · intro p e s m args below meth c s₁ B hml0 hP _
    obtain ⟨rfl, hx, hbd, hgv⟩ := hP
    obtain ⟨scr, harrAt, hlist, hof, hsmall⟩ := hx
    obtain ⟨hcb, hkn, -, -⟩ := State.arrayAt?_spec harrAt
    have hown : s.vm.findClass R_law = some m.cls := findClass_of_methodNamed B.named
    have hts0 : ∀ c ∈ (Jvm.Cond.code x code maxLocals ret :: tables_1), c.before #[Value.ref b] s = true := atoms_spec (ws := Jvm.Cond.code x code maxLocals ret :: tables_1) B.pre
    have hts : ∀ w ∈ lw_tbl, w.before #[Value.ref b] s = true := k2_hts_sels lw_privs (fun w hw => hts0 w (List.mem_cons_of_mem _ hw)) lw_privs_ok
    have hml : c.maxLocals = 4 := B.maxLocals_eq (hts0 _ List.mem_cons_self)
    have X₀ : Stand p l e room_1 s m #[Value.ref b] below meth c s₁ [] 0 0 := Stand.of_body B
    have hh0 : s₁.heap = s.heap := by rw [B.state]; rfl
    have hsz : scr.slots.size = xs.length := by rw [← Array.length_toList, hlist, List.length_map]
    have hval : ∀ j : Nat, j < xs.length → scr.slots[j]? = some (.int (xs.getD j 0)) := fun j hj => by
      rw [← Array.getElem?_toList, hlist]
      simp [hj]
    have hbl : b < s.heap.size := (Array.getElem?_eq_some_iff.mp hcb).1
    have hX : va_X b xs.length (fun j => xs.getD j 0) s s.heap := ⟨scr, hcb, hof, hkn, hsz, hval⟩
    have K : W p l e room_1 s m #[Value.ref b] below meth c s₁.heap [] 0 0 (lw_Z below #[Value.ref b] s) (entryFrame m ([Value.ref b] : List Value).toArray 4) := by
      rw [hh0]
      exact whole_start l hbd ⟨B.exec, B.bytes, B.returns, hml, hown, hts, hX, hbl, B.notSynchronized, hgv⟩
    obtain ⟨t, a1, o, b1, b2, b3⟩ := K s₁ rfl X₀
    exact ⟨t, o, a1, b1, b2, b3⟩
theorem lw_pre_spec {args : Array Value} {s : State} (h : (Jvm.Cond.and given_1 narrow_1).before args s = true) (hr : rest_1_c.before args s = true) : ∃ (b : Addr) (xs : List Int32), lw_P b xs args s := by
  have hs := flat_of_before _ h
  have hq := flat_of_before _ hr
  have hc : (Cond.count 1).before args s = true := hs _ (by decide +kernel)
  have harr : (Cond.arrayOf (.arg 0) .int).before args s = true := hs _ (by decide +kernel)
  have hle : (Cond.le (.length (.arg 0)) (.int 2560)).before args s = true := hs _ (by decide +kernel)
  have hlen : (Cond.isInt (.length (.arg 0))).before args s = true := hq _ (by decide +kernel)
  have hall : (Cond.all (.arg 0) (.isInt (.elem (.arg 0) (.index 0)))).before args s = true := hq _ (by decide +kernel)
  obtain ⟨b, xs, hb, hx⟩ := State.ints_of_pre rfl harr hlen hall
  have hsm : xs.length < 2 ^ 31 := hx.choose_spec.2.2.2
  have hev : (Term.length (.arg 0)).eval args s none [] s = some (.int xs.length.toInt32) := hx.length_eval hb
  have hv := Cond.le_ints hev (show (Term.int 2560).eval args s none [] s = some (.int 2560) from rfl)
  have hd : xs.length.toInt32 ≤ 2560 := by
    simpa [Cond.before, Cond.holds, hv] using hle
  have hN : xs.length ≤ 2560 := (Int32.ofNat_le_ofNat hsm (by decide)).mp (show Int32.ofNat xs.length ≤ Int32.ofNat 2560 from hd)
  exact ⟨b, xs, Cond.one_arg hc (show args[0]? = some (.ref b) from hb), hx, hN, h⟩
theorem lw_comes (l : Launch) : Comes l x (Jvm.Cond.code x code maxLocals ret :: tables_1) room_1 (fun tb e args s => Calls_1 tb e args s ∧ rest_1 tb e args s ∧ Pre_1 tb e args s)
    (fun _ _ args s o t => lw_Q args s o t) := by
  intro p e ha hc hk s m args below hf hfit hheap happ hpre
  obtain ⟨b, xs, hP⟩ := lw_pre_spec hpre.2.2 hpre.2.1
  obtain ⟨k, o, h1, h2, h3, hQ⟩ := lw_walk l b xs p e ha hc hk s m args below hf ((Spec.applies_iff_loose hf).mp happ).1 hP trivial
  exact ⟨k, o, h1, h2, h3, hQ⟩
theorem lw_frame {s t : State} {o : Outcome} {args : Array Value} (h : Framed s o t [] 600000 7302250) :
    Framed s o t (fieldLocs frame_1_writes args s ++ arrayLocs frame_1_arrays args s ++ staticLocs frame_1_statics s) 600000 7302250 := h
theorem lw_limb (L : Cond) (hL : ∀ (args : Array Value) (s t : State), L.after args s (.returned (some (.int 1))) t = true) :
    ArmFor flags0 classFile x code maxLocals ret World_1 tables_1 room_1 Calls_1 rest_1 Pre_1
      (fun tb e a s o t => postC L tb e a s o t ∧ Framed s o t (fieldLocs frame_1_writes a s ++ arrayLocs frame_1_arrays a s ++ staticLocs frame_1_statics s) 600000 7302250) := by
  intro l _ _ _ p e ha hc hk s m args below hf hfit hheap happ hpre
  obtain ⟨k, o, h1, h2, h3, rfl, hF⟩ := lw_comes l p e ha hc hk s m args below hf hfit hheap happ hpre
  exact ⟨k, _, h1, h2, h3, hL args s _, lw_frame hF⟩
theorem i_vc : Claimed_1_1 ∧ Claimed_1_2 := ⟨lw_limb limb_1_1 (fun args s t => by simp [limb_1_1, Cond.after, Cond.holds, Cond.value]), lw_limb limb_1_2 (fun args s t => Cond.after_iff.mpr (by
  first | (rw [show limb_1_2 = Cond.eq .result (.int 1) from rfl, Cond.eq_ints (x := 1) (y := 1) rfl rfl]; simp; done) | (simp [limb_1_2, Cond.value, Term.eval]; done)))⟩
