/-! ===== the constructors ===== -/
theorem clL_7 : Cond.classLink RL 7 RX5 ∈ wsC := wsC_of (List.mem_append_right _ (List.mem_of_getElem? (i := 11) rfl)) rfl
theorem inX5 : Cond.instantiable RX5 7 ∈ wsC := wsC_of (List.mem_append_right _ (List.mem_of_getElem? (i := 12) rfl)) rfl
theorem clX5_7 : Cond.classLink RX5 7 RX1 ∈ wsC := wsC_of (List.mem_append_right _ (List.mem_of_getElem? (i := 19) rfl)) rfl
theorem clX5_15 : Cond.classLink RX5 15 RX3 ∈ wsC := wsC_of (List.mem_append_right _ (List.mem_of_getElem? (i := 21) rfl)) rfl
theorem inX3 : Cond.instantiable RX3 6 ∈ wsC := wsC_of (List.mem_append_right _ (List.mem_of_getElem? (i := 22) rfl)) rfl
theorem clX3_24 : Cond.classLink RX3 24 "[[I" ∈ wsC := wsC_of (List.mem_append_right _ (List.mem_of_getElem? (i := 27) rfl)) rfl
theorem acI : Cond.arrayClass .int ∈ wsC := wsC_of (List.mem_append_right _ (List.mem_of_getElem? (i := 49) rfl)) rfl
theorem clX5_22 : Cond.classLink RX5 22 RX2 ∈ wsC := wsC_of (List.mem_append_right _ (List.mem_of_getElem? (i := 50) rfl)) rfl
theorem inX2 : Cond.instantiable RX2 1 ∈ wsC := wsC_of (List.mem_append_right _ (List.mem_of_getElem? (i := 51) rfl)) rfl
theorem clX5_29 : Cond.classLink RX5 29 RX4 ∈ wsC := wsC_of (List.mem_append_right _ (List.mem_of_getElem? (i := 62) rfl)) rfl
theorem inX4 : Cond.instantiable RX4 1 ∈ wsC := wsC_of (List.mem_append_right _ (List.mem_of_getElem? (i := 63) rfl)) rfl
theorem clX4_7 : Cond.classLink RX4 7 RX2 ∈ wsC := wsC_of (List.mem_append_right _ (List.mem_of_getElem? (i := 68) rfl)) rfl
theorem clX5_36 : Cond.classLink RX5 36 RX0 ∈ wsC := wsC_of (List.mem_append_right _ (List.mem_of_getElem? (i := 74) rfl)) rfl
theorem inX0 : Cond.instantiable RX0 4 ∈ wsC := wsC_of (List.mem_append_right _ (List.mem_of_getElem? (i := 75) rfl)) rfl
theorem clX0_9 : Cond.classLink RX0 9 "[[J" ∈ wsC := wsC_of (List.mem_append_right _ (List.mem_of_getElem? (i := 80) rfl)) rfl
theorem acJ : Cond.arrayClass .long ∈ wsC := wsC_of (List.mem_append_right _ (List.mem_of_getElem? (i := 95) rfl)) rfl
theorem inX1 : Cond.instantiable RX1 9 ∈ wsC := wsC_of (List.mem_append_right _ (List.mem_of_getElem? (i := 96) rfl)) rfl
theorem clX1_19 : Cond.classLink RX1 19 "[[I" ∈ wsC := wsC_of (List.mem_append_right _ (List.mem_of_getElem? (i := 101) rfl)) rfl
set_option maxRecDepth 10000 in
theorem clL_10 : Cond.classLink RL 10 RX6 ∈ wsC := wsC_of (List.mem_append_right _ (List.mem_of_getElem? (i := 415) rfl)) rfl
set_option maxRecDepth 10000 in
theorem inX6 : Cond.instantiable RX6 14 ∈ wsC := wsC_of (List.mem_append_right _ (List.mem_of_getElem? (i := 416) rfl)) rfl
set_option maxRecDepth 10000 in
theorem acZ : Cond.arrayClass .boolean ∈ wsC := wsC_of (List.mem_append_right _ (List.mem_of_getElem? (i := 464) rfl)) rfl
section GKC
variable {X : Pk} {cc : ByteArray} {nL : Nat} {own : String} {D : va_G} {ca : Nat → ClassId} {A : Nat → Prop} {R : Room} {Q : State → Prop} {c s : Nat} {ws : va_W} {pc : Nat} {lv : List (Nat × Value)} {st : List Value}
theorem k_ret (C : CK X cc nL own D ca A R) (hr : (xE X).sig.returnType = none) {mc ms h0 : Nat} {e0 : va_E} {S : Type} {B : Nat → S → va_W} (u : S) (hA : A = va_A [(h0, e0)] (xS X).heap.size) (hw : ws = B h0 u) (hroom : (Nat.ble c mc && Nat.ble s ms) = true) (d : decode cc pc = .ok (.return_, 1)) : GK X nL D A (QK X D mc ms h0 e0 B) c s ws pc lv [] := fun H locs ls hP hD hS hl => by
  obtain ⟨h1, h2⟩ := Bool.and_eq_true_iff.mp hroom
  subst hA
  subst hw
  exact W.widen (Nat.ble_eq.mp h1) (Nat.ble_eq.mp h2) (W.vret C.1 C.2.1 hr (fun t ht _ => ⟨⟨u, rfl, trivial, by rw [ht]; exact hP, hD⟩, hS.F ht⟩) hS.2.2 d C.2.2.2.2.2.2.2.1)
theorem k_callN {y : MethodName} {cc' : ByteArray} {fr' mc' ms' lo' index : Nat} {host : String} {e0 : va_E} {S : Type} {B : Nat → S → va_W} {b : Nat} {wr : va_W} (C : CK X cc nL own D ca A R) (hM : MK X.2.1 D ca y cc' fr' mc' ms' lo' e0 B) (hlink : va_Nw (.methodLinkNest own index y host) (xS X)) (hw : cW y cc' 1 none 0) (hin : Cond.instanceMethod y ∈ wsC) (hy : y.name = "<init>") (hcat : Nat.ble (st.map fun v => v.category).sum 8 = true) (hroom : (Nat.ble (fr' + 1) R.frames && (Nat.ble (8 + (1 + 11) + lo') R.locals && (Nat.ble (c + mc') R.cells && Nat.ble (s + ms') R.slots))) = true) (d : decode cc pc = .ok (.invokespecial index, 3))
    (k : ∀ u : S, GK X nL D A Q (c + mc') (s + ms') (wr ++ B b u) (pc + 3) lv st) : GK X nL D A Q c s (wr ++ [(b, e0)]) pc lv (.ref b :: st) := fun H locs ls hP hD hS hl => by
  obtain ⟨h1, h2⟩ := Bool.and_eq_true_iff.mp hroom
  obtain ⟨h2, h3⟩ := Bool.and_eq_true_iff.mp h2
  obtain ⟨h3, h4⟩ := Bool.and_eq_true_iff.mp h3
  obtain ⟨hx, hb, hml, hown, hts, hK, hA, -, hR⟩ := id C
  have hPc := hP.sub (ws' := [(b, e0)]) [wr.length] (by simp)
  exact k_in (l := X.2.1) (y := y) (cc' := cc') (fr' := fr') (lo' := lo') C hP hD hS hl (va_runIN (As := []) (rest := st) (g := F0 (xM X) pc ls (.ref b :: st)) ⟨hx, hb, hml, hown, hts⟩ (hM b H.size) ⟨va_cnB 0 hts (wsC_goodS hw) rfl rfl rfl hlink (hts _ hw.1) hw.2.2 ⟨by rw [hR]; exact Nat.ble_eq.mp h1, by rw [hR]; exact Nat.ble_eq.mp h2⟩, hy, hts _ hin⟩ ⟨fun a U g mk q => q, fun U hU hW => ⟨rfl, by rw [hU], by rw [hU]; exact hPc, hK.warm hW⟩⟩ rfl rfl hl.1 rfl (lv_room (Nat.ble_eq.mp hcat)) d ⟨by rw [hR]; exact Nat.ble_eq.mp h3, by rw [hR]; exact Nat.ble_eq.mp h4⟩) k
theorem k_callI {y : MethodName} {cc' : ByteArray} {fr' mc' ms' lo' index : Nat} {e0 : va_E} {S : Type} {B : Nat → S → va_W} {b : Nat} {wr : va_W} (C : CK X cc nL own D ca A R) (hM : MK X.2.1 D ca y cc' fr' mc' ms' lo' e0 B) (hlink : Cond.methodLink own index y ∈ wsC) (hw : cW y cc' 1 none 0) (hin : Cond.instanceMethod y ∈ wsC) (hy : y.name = "<init>") (hcat : Nat.ble (st.map fun v => v.category).sum 8 = true) (hroom : (Nat.ble (fr' + 1) R.frames && (Nat.ble (8 + (1 + 11) + lo') R.locals && (Nat.ble (c + mc') R.cells && Nat.ble (s + ms') R.slots))) = true) (d : decode cc pc = .ok (.invokespecial index, 3))
    (k : ∀ u : S, GK X nL D A Q (c + mc') (s + ms') (wr ++ B b u) (pc + 3) lv st) : GK X nL D A Q c s (wr ++ [(b, e0)]) pc lv (.ref b :: st) := fun H locs ls hP hD hS hl => by
  obtain ⟨h1, h2⟩ := Bool.and_eq_true_iff.mp hroom
  obtain ⟨h2, h3⟩ := Bool.and_eq_true_iff.mp h2
  obtain ⟨h3, h4⟩ := Bool.and_eq_true_iff.mp h3
  obtain ⟨hx, hb, hml, hown, hts, hK, hA, -, hR⟩ := id C
  have hPc := hP.sub (ws' := [(b, e0)]) [wr.length] (by simp)
  exact k_in (l := X.2.1) (y := y) (cc' := cc') (fr' := fr') (lo' := lo') C hP hD hS hl (va_runI (As := []) (rest := st) (g := F0 (xM X) pc ls (.ref b :: st)) ⟨hx, hb, hml, hown, hts⟩ (hM b H.size) (cwI 0 hts (wsC_goodS hw) rfl rfl rfl (hts _ hw.1) (hts _ hlink) (hts _ hin) hy hw.2.2 ⟨by rw [hR]; exact Nat.ble_eq.mp h1, by rw [hR]; exact Nat.ble_eq.mp h2⟩) ⟨fun a U g mk q => q, fun U hU hW => ⟨rfl, by rw [hU], by rw [hU]; exact hPc, hK.warm hW⟩⟩ rfl rfl hl.1 rfl (lv_room (Nat.ble_eq.mp hcat)) d ⟨by rw [hR]; exact Nat.ble_eq.mp h3, by rw [hR]; exact Nat.ble_eq.mp h4⟩) k
end GKC
def zI : Nat → Int32 := fun _ => 0
def zJ : Nat → Int64 := fun _ => 0
abbrev bI9 (ca : Nat → ClassId) (n : Nat) : va_E := .inl (ca 0, n, .inl zI)
abbrev bJ9 (ca : Nat → ClassId) (n : Nat) : va_E := .inl (ca 1, n, .inr (.inl zJ))
abbrev bZ9 (ca : Nat → ClassId) (n : Nat) : va_E := .inl (ca 5, n, .inl zI)
abbrev oX0 (v : List Value) : va_E := .inr (0, v)
def nX (l : List Nat) : Nat → Nat := fun i => l.getD i 0
