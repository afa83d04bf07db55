/-! ===== the law: the walk of its body, behind the constructors ===== -/
def GL (X : Pk) (nL : Nat) (Z : Zk) (Q : State → Prop) (I : SI) (J : SJ) (pc : Nat) (lv : List (Nat × Value)) (st : List Value) : Prop :=
  ∀ (H : Heap) (locs : List Loc) (ls : Array Slot), va_P Z.1 vwCl (wl Z.2.1 Z.2.2.1 I J) H → va_S Z.2.2.2 (xS X).heap H locs → lv_has ls nL lv → W X.1 X.2.1 X.2.2.1 (xR X) (xS X) (xM X) (xA X) (xB X) (xE X) (xC X) H locs 600 9000 Q (F0 (xM X) pc ls st)
section GLS
variable {X : Pk} {cc : ByteArray} {nL : Nat} {own : String} {Z : Zk} {fr lo : Nat} {Q : State → Prop} {I : SI} {J : SJ} {pc : Nat} {lv lv' : List (Nat × Value)} {st : List Value} {post : Option Value → SI → SJ → Prop}
theorem h_ildn (C : Cx X cc nL own Z fr lo) {i : Fin 4} {x : Int32} (d : decode cc pc = .ok (.iload_n i, 1)) (h : lk lv (i : Nat) = some (.int x)) (k : GL X nL Z Q I J (pc + 1) lv (.int x :: st)) : GL X nL Z Q I J pc lv st :=
  fun H locs ls hP hS hl => lv_iload_n C.1 C.2.1 d rfl (lk_at h hl) (k H locs ls hP hS hl)
theorem h_aldn (C : Cx X cc nL own Z fr lo) {i : Fin 4} {x : Nat} (d : decode cc pc = .ok (.aload_n i, 1)) (h : lk lv (i : Nat) = some (.ref x)) (k : GL X nL Z Q I J (pc + 1) lv (.ref x :: st)) : GL X nL Z Q I J pc lv st :=
  fun H locs ls hP hS hl => lv_aload_n C.1 C.2.1 d rfl (lk_at h hl) (k H locs ls hP hS hl)
theorem h_iconst (C : Cx X cc nL own Z fr lo) {n : Int} (v : Int32) (d : decode cc pc = .ok (.iconst n, 1)) (hv : Int32.ofInt n = v) (k : GL X nL Z Q I J (pc + 1) lv (.int v :: st)) : GL X nL Z Q I J pc lv st :=
  fun H locs ls hP hS hl => lv_iconst C.1 C.2.1 d hv (k H locs ls hP hS hl)
theorem h_bipush (C : Cx X cc nL own Z fr lo) {n : Int} (v : Int32) (d : decode cc pc = .ok (.bipush n, 2)) (hv : (Int8.ofInt n).toInt32 = v) (k : GL X nL Z Q I J (pc + 2) lv (.int v :: st)) : GL X nL Z Q I J pc lv st :=
  fun H locs ls hP hS hl => lv_bipush C.1 C.2.1 d hv (k H locs ls hP hS hl)
theorem h_iinc (C : Cx X cc nL own Z fr lo) {i : Nat} {n : Int} {x : Int32} (v : Int32) (d : decode cc pc = .ok (.iinc i n, 3)) (h : lk lv i = some (.int x)) (hv : x + Int32.ofInt n = v) (hn : Nat.blt i nL = true) (hl' : (i, Value.int v) :: lv.filter (fun q => !(q.1 == i) && !(q.1 + 1 == i && q.2.category == 2)) = lv') (k : GL X nL Z Q I J (pc + 3) lv' st) : GL X nL Z Q I J pc lv st :=
  fun H locs _ hP hS hl => (lk_mem h).elim fun _ h2 => lv_iinc C.1 C.2.1 d hl h2 hv (Nat.blt_eq.mp hn) hl' (fun ls2 hl2 => k H locs ls2 hP hS hl2)
theorem h_iadd (C : Cx X cc nL own Z fr lo) {x y v : Int32} (d : decode cc pc = .ok (.iadd, 1)) (hv : x + y = v) (k : GL X nL Z Q I J (pc + 1) lv (.int v :: st)) : GL X nL Z Q I J pc lv (.int y :: .int x :: st) :=
  fun H locs ls hP hS hl => lv_iadd C.1 C.2.1 d (by rw [hv]; exact k H locs ls hP hS hl)
theorem h_isub (C : Cx X cc nL own Z fr lo) {x y v : Int32} (d : decode cc pc = .ok (.isub, 1)) (hv : x - y = v) (k : GL X nL Z Q I J (pc + 1) lv (.int v :: st)) : GL X nL Z Q I J pc lv (.int y :: .int x :: st) :=
  fun H locs ls hP hS hl => lv_isub C.1 C.2.1 d (by rw [hv]; exact k H locs ls hP hS hl)
theorem h_iand (C : Cx X cc nL own Z fr lo) {x y v : Int32} (d : decode cc pc = .ok (.iand, 1)) (hv : x &&& y = v) (k : GL X nL Z Q I J (pc + 1) lv (.int v :: st)) : GL X nL Z Q I J pc lv (.int y :: .int x :: st) :=
  fun H locs ls hP hS hl => lv_iand C.1 C.2.1 d (by rw [hv]; exact k H locs ls hP hS hl)
theorem h_icmp_eq (C : Cx X cc nL own Z fr lo) {x y : Int32} {off : Int} {tgt : Nat} (d : decode cc pc = .ok (.if_icmp .eq off, 3)) (ht : (pc : Int) + off = (tgt : Int)) (kt : x = y → GL X nL Z Q I J tgt lv st) (kf : ¬ x = y → GL X nL Z Q I J (pc + 3) lv st) : GL X nL Z Q I J pc lv (.int y :: .int x :: st) :=
  fun H locs ls hP hS hl => lv_icmp_eq C.1 C.2.1 d ht (fun h => kt (by first | exact h | exact Decidable.of_not_not h) H locs ls hP hS hl) (fun h => kf (by first | exact h | exact Decidable.of_not_not h) H locs ls hP hS hl)
theorem h_icmp_gt (C : Cx X cc nL own Z fr lo) {x y : Int32} {off : Int} {tgt : Nat} (d : decode cc pc = .ok (.if_icmp .gt off, 3)) (ht : (pc : Int) + off = (tgt : Int)) (kt : y < x → GL X nL Z Q I J tgt lv st) (kf : ¬ y < x → GL X nL Z Q I J (pc + 3) lv st) : GL X nL Z Q I J pc lv (.int y :: .int x :: st) :=
  fun H locs ls hP hS hl => lv_icmp_gt C.1 C.2.1 d ht (fun h => kt (by first | exact h | exact Decidable.of_not_not h) H locs ls hP hS hl) (fun h => kf (by first | exact h | exact Decidable.of_not_not h) H locs ls hP hS hl)
theorem h_goto (C : Cx X cc nL own Z fr lo) {off : Int} {tgt : Nat} (d : decode cc pc = .ok (.goto off, 3)) (ht : (pc : Int) + off = (tgt : Int)) (k : GL X nL Z Q I J tgt lv st) : GL X nL Z Q I J pc lv st := fun H locs ls hP hS hl => lv_goto C.1 C.2.1 d ht (k H locs ls hP hS hl)
theorem h_lv {lv1 : List (Nat × Value)} (is : List Nat) (h : lv_pick lv is = lv1) (k : GL X nL Z Q I J pc lv1 st) : GL X nL Z Q I J pc lv st := fun H locs ls hP hS hl => k H locs ls hP hS (lv_sub hl is h)
theorem h_tabOut (C : Cx X cc nL own Z fr lo) {dflt lw hg : Int} {offs : Array Int} {len : Nat} {x : Int32} {tgt : Nat} (d : decode cc pc = .ok (.tableswitch dflt lw hg offs, len)) (h : x.toInt < lw ∨ hg < x.toInt) (ht : (pc : Int) + dflt = (tgt : Int)) (k : GL X nL Z Q I J tgt lv st) : GL X nL Z Q I J pc lv (.int x :: st) :=
  fun H locs ls hP hS hl => lv_tableOut C.1 C.2.1 d h ht (k H locs ls hP hS hl)
theorem h_tabIn (C : Cx X cc nL own Z fr lo) {dflt lw hg : Int} {offs : Array Int} {len : Nat} {x : Int32} {off : Int} {tgt : Nat} (d : decode cc pc = .ok (.tableswitch dflt lw hg offs, len)) (h1 : ¬ x.toInt < lw) (h2 : ¬ hg < x.toInt) (ho : offs[(x.toInt - lw).toNat]? = some off) (ht : (pc : Int) + off = (tgt : Int)) (k : GL X nL Z Q I J tgt lv st) : GL X nL Z Q I J pc lv (.int x :: st) :=
  fun H locs ls hP hS hl => lv_tableIn C.1 C.2.1 d h1 h2 ho ht (k H locs ls hP hS hl)
theorem h_back {a : Array Value} {H : Heap} {locs : List Loc} {ls : Array Slot} {st0 : List Value} (C : Cx X cc nL own Z fr lo) (hr : va_Run X.1 X.2.1 X.2.2.1 (xR X) (xS X) (xM X) (xA X) (xB X) (xE X) (xC X) H locs 600 9000 0 0 (F0 (xM X) pc ls st0) st (QX Z.1 Z.2.1 Z.2.2.1 (AA Z.2.2.1 H.size) post a) (AA Z.2.2.1 H.size)) (hS : va_S Z.2.2.2 (xS X).heap H locs) (hl : lv_has ls nL lv)
    (kk : ∀ (v : Option Value) (I' : SI) (J' : SJ), post v I' J' → GL X nL Z Q I' J' (pc + 3) lv (v.toList ++ st)) : W X.1 X.2.1 X.2.2.1 (xR X) (xS X) (xM X) (xA X) (xB X) (xE X) (xC X) H locs 600 9000 Q (F0 (xM X) pc ls st0) := by
  intro T hT Xs
  obtain ⟨v, st₀, t, T', L, h0, X', hL, e1, e2, ⟨⟨v', I', J', hv, hp, hb⟩, hz, hk⟩, stp⟩ := hr T hT Xs
  cases hv
  rw [h0] at hz hk
  have hAA : ∀ q, AA Z.2.2.1 H.size q → Z.2.2.2 q := fun q h => by
    rcases h with ⟨p, hp, rfl⟩ | h
    · exact C.2.2.2.2.2.2.1.2 p hp
    · exact C.2.2.2.2.2.2.2.1 q (Nat.le_trans hS.1 h)
  have hS1 : va_S Z.2.2.2 (xS X).heap T'.heap (locs ++ L) :=
    ⟨Nat.le_trans hS.1 (by rw [e1]; exact hz), fun q h1 h2 => by rw [e1, hk q (Nat.lt_of_lt_of_le h1 hS.1) (fun z => h2 (hAA q z))]; exact hS.2.1 q h1 h2, fun q hq => by
      rcases List.mem_append.mp hq with h | h
      · exact hS.2.2 q h
      · exact hAA _ (hL q h)⟩
  obtain ⟨t2, a1, b1⟩ := kk v I' J' hp T'.heap (locs ++ L) ls (by rw [e1]; exact hb) hS1 hl T' rfl X'
  exact ⟨t2, stp t2 a1, b1⟩
theorem h_callV {y : MethodName} {cc' : ByteArray} {nL' : Nat} {ret : Option FieldType} {fr' lo' n index : Nat} {b : Nat} {As : List Value} {st0 : List Value} (C : Cx X cc nL own Z fr lo) (hrc : 600 ≤ (xR X).cells) (hrs : 9000 ≤ (xR X).slots) (hM : MX X.2.1 (Z.1, Z.2.1, Z.2.2.1) y cc' nL' ret fr' lo' (.ref b :: As) I J post) (hw : cW y cc' nL' ret n) (hin : Cond.instanceMethod y ∈ wsC) (hsel : Cond.selects y.cls y y ∈ wsC) (hlink : Cond.methodLink own index y ∈ wsC)
    (k r : Nat) (hk : k < 38) (hr : r < cnt k) (hb : b = Z.2.2.1 k r) {ci : Nat} {q : vw_C} {fs : List Value} (hs : SSr Z.2.1 Z.2.2.1 k r (I k r) (J k r) = .inr (ci, fs)) (hc : vwCl[ci]? = some q) (hq : q.1 = y.cls)
    (hn : As.length = n) (hst : st0 = As.reverse ++ .ref b :: st) (hcat : Nat.ble (st.map fun v => v.category).sum 8 = true) (hroom : (Nat.ble (fr' + 1) fr && Nat.ble (8 + (nL' + 11) + lo') lo) = true) (d : decode cc pc = .ok (.invokevirtual index, 3))
    (kk : ∀ (v : Option Value) (I' : SI) (J' : SJ), post v I' J' → GL X nL Z Q I' J' (pc + 3) lv (v.toList ++ st)) : GL X nL Z Q I J pc lv st0 := by
  intro H locs ls hP hS hl
  subst hb
  obtain ⟨i, hi⟩ := wl_get hk hr
  have ha := wl_at (ca := Z.2.1) (ad := Z.2.2.1) (I := I) (J := J) hi
  dsimp only at ha
  rw [hs] at ha
  obtain ⟨h1, h2⟩ := Bool.and_eq_true_iff.mp hroom
  have hts := C.2.2.2.2.1
  have hrecv := va_recv C.2.2.2.2.2.1.1 hP hc ha
  rw [hq] at hrecv
  have cw : CallW (xR X) (xS X) (xA X) own y.cls index y cc' nL' ret (Cond.code y cc' nL' ret :: wsC) { frames := fr', cells := 0, slots := 0, locals := lo' } 0 0 n :=
    ⟨callB_of n hts (wsC_goodS hw) rfl rfl rfl (hts _ hw.1) (hts _ hlink) hw.2.2 ⟨by rw [C.2.2.2.2.2.2.2.2.2.1]; exact Nat.ble_eq.mp h1, by rw [C.2.2.2.2.2.2.2.2.2.2]; exact Nat.ble_eq.mp h2⟩, hts _ hin, hts _ hsel⟩
  exact h_back C (va_runV (g := F0 (xM X) pc ls st0) ⟨C.1, C.2.1, C.2.2.1, C.2.2.2.1, hts⟩ (hM H.size) cw ⟨fun a U g mk q => q, hrecv, fun U hU hW => ⟨rfl, by rw [hU], by rw [hU]; exact hP, C.2.2.2.2.2.1.warm hW⟩⟩ rfl hn hl.1 hst (lv_room (Nat.ble_eq.mp hcat)) d ⟨hrc, hrs⟩) hS hl kk
theorem h_sld (C : Cx X cc nL own Z fr lo) {b L : Nat} {xs : Nat → Int32} (hX : va_X b L xs (xS X) (xS X).heap) (hbl : b < (xS X).heap.size) (hbA : ¬ Z.2.2.2 b) {i : Nat} (hi : i < L) (hL : L < 2 ^ 31) (d : decode cc pc = .ok (.iaload, 1)) (k : GL X nL Z Q I J (pc + 1) lv (.int (xs (nI i).toNatClampNeg) :: st)) : GL X nL Z Q I J pc lv (.int (nI i) :: .ref b :: st) :=
  fun H locs ls hP hS hl => va_sld C.1 C.2.1 hX hbl hbA hS (vp_in_nI hi hL) d (k H locs ls hP hS hl)
theorem h_slen (C : Cx X cc nL own Z fr lo) {b L : Nat} {xs : Nat → Int32} (hX : va_X b L xs (xS X) (xS X).heap) (hbl : b < (xS X).heap.size) (hbA : ¬ Z.2.2.2 b) (d : decode cc pc = .ok (.arraylength, 1)) (k : GL X nL Z Q I J (pc + 1) lv (.int (nI L) :: st)) : GL X nL Z Q I J pc lv (.ref b :: st) :=
  fun H locs ls hP hS hl => va_slen C.1 C.2.1 hX hbl hbA hS d (k H locs ls hP hS hl)
end GLS
/-- both objects mean the same -/
def RS (I : SI) (J : SJ) : Prop := ∃ n T L ah nm, CI I J n T L ah nm ∧ MI I n T L ah nm
/-- both answered the same, and still mean the same -/
def MT (v1 v2 : Option Value) (I : SI) (J : SJ) : Prop := ∃ r : Int32, v1 = some (.int r) ∧ v2 = some (.int r) ∧ RS I J
theorem mt_fin {I I1 I2 : SI} {J1 J2 : SJ} {v1 v2 : Option Value} {r r2 : Int32} {n : Nat} {T : Nat → Nat → Nat} {L : Nat → Nat → Nat → Nat} {ah : Bool} {nm : Nat → Nat} {nm2 : Nat → Nat} (a : aP I r n T L ah nm v1 I1 J1) (b : mP I1 J1 r2 n T L ah nm2 v2 I2 J2) (er : r = r2) (en : ah = true → ∀ i, i < n → nm2 i = nm i) : MT v1 v2 I2 J2 := by
  obtain ⟨a1, a2, a3⟩ := a
  obtain ⟨b1, b2, b3, b4⟩ := b
  subst b2
  exact ⟨r, a1, by rw [er]; exact b1, n, T, L, ah, nm, a3.keep b3, b4.nm en⟩
theorem nI_jn {a b : Nat} {x : Int32} (ha : a < 1000) (hb : b < 1000) (h1 : x = nI a) (h2 : x = nI b) : a = b := (nI_eq (by omega) (by omega)).mp (h1.symm.trans h2)
theorem sh_begin {I I1 : SI} {J1 : SJ} {v1 : Option Value} {n : Nat} {T : Nat → Nat → Nat} {L : Nat → Nat → Nat → Nat} {ah : Bool} {nm : Nat → Nat} {x : Int32} (hc : if ¬ x < nI 1 ∧ x ≤ nI 9 then ∃ m, 1 ≤ m ∧ m ≤ 9 ∧ x = nI m ∧ aP I (nI 0) m (fun _ _ => 0) (fun _ _ _ => 0) false nm v1 I1 J1 else aP I (-1) n T L ah nm v1 I1 J1) : ∃ r : Int32, v1 = some (.int r) ∧ keep I I1 := by
  split at hc
  · obtain ⟨_, _, _, _, a9⟩ := hc
    exact ⟨_, a9.1, a9.2.1⟩
  · exact ⟨_, hc.1, hc.2.1⟩
theorem mt_begin {I I1 : SI} {J J1 : SJ} {v1 : Option Value} {n : Nat} {T : Nat → Nat → Nat} {L : Nat → Nat → Nat → Nat} {ah : Bool} {nm : Nat → Nat} {I2 : SI} {J2 : SJ} {v2 : Option Value} {x : Int32} (hci : CI I J n T L ah nm) (hc : if ¬ x < nI 1 ∧ x ≤ nI 9 then ∃ m, 1 ≤ m ∧ m ≤ 9 ∧ x = nI m ∧ aP I (nI 0) m (fun _ _ => 0) (fun _ _ _ => 0) false nm v1 I1 J1 else aP I (-1) n T L ah nm v1 I1 J1) (hm : if ¬ x < nI 1 ∧ x ≤ nI 9 then ∃ m, 1 ≤ m ∧ m ≤ 9 ∧ x = nI m ∧ mP I1 J1 (nI 0) m (fun _ _ => 0) (fun _ _ _ => 0) false nm v2 I2 J2 else mP I1 J1 (-1) n T L ah nm v2 I2 J2) : MT v1 v2 I2 J2 := by
  obtain ⟨⟨hn1, hn9⟩, -⟩ := id hci.1
  by_cases hq : ¬ x < nI 1 ∧ x ≤ nI 9
  · rw [if_pos hq] at hc hm
    obtain ⟨m, a1, a2, a3, a4⟩ := hc
    obtain ⟨m2, b1, b2, b3, b4⟩ := hm
    have e := nI_jn (by omega) (by omega) a3 b3
    subst e
    exact mt_fin a4 b4 rfl (fun _ _ _ => rfl)
  · rw [if_neg hq] at hc hm
    exact mt_fin hc hm rfl (fun _ _ _ => rfl)
theorem sh_label {I I1 : SI} {J1 : SJ} {v1 : Option Value} {n : Nat} {T : Nat → Nat → Nat} {L : Nat → Nat → Nat → Nat} {ah : Bool} {nm : Nat → Nat} {g u v lb : Int32} (hc : if (isV n g u && (isV n g v && (isM lb && decide (u ≠ v)))) = true then ∃ a b c x, a < 2 ∧ b < n ∧ c < n ∧ x < 4 ∧ g = nI a ∧ u = nI b ∧ v = nI c ∧ lb = nI x ∧ aP I (nI (L a b c)) n T (upL L a b c x) false nm v1 I1 J1 else aP I (-1) n T L ah nm v1 I1 J1) : ∃ r : Int32, v1 = some (.int r) ∧ keep I I1 := by
  split at hc
  · obtain ⟨_, _, _, _, _, _, _, _, _, _, _, _, a9⟩ := hc
    exact ⟨_, a9.1, a9.2.1⟩
  · exact ⟨_, hc.1, hc.2.1⟩
theorem mt_label {I I1 : SI} {J J1 : SJ} {v1 : Option Value} {n : Nat} {T : Nat → Nat → Nat} {L : Nat → Nat → Nat → Nat} {ah : Bool} {nm : Nat → Nat} {I2 : SI} {J2 : SJ} {v2 : Option Value} {g u v lb : Int32} (hci : CI I J n T L ah nm) (hc : if (isV n g u && (isV n g v && (isM lb && decide (u ≠ v)))) = true then ∃ a b c x, a < 2 ∧ b < n ∧ c < n ∧ x < 4 ∧ g = nI a ∧ u = nI b ∧ v = nI c ∧ lb = nI x ∧ aP I (nI (L a b c)) n T (upL L a b c x) false nm v1 I1 J1 else aP I (-1) n T L ah nm v1 I1 J1) (hm : if (isV n g u && (isV n g v && (isM lb && decide (u ≠ v)))) = true then ∃ a b c x, a < 2 ∧ b < n ∧ c < n ∧ x < 4 ∧ g = nI a ∧ u = nI b ∧ v = nI c ∧ lb = nI x ∧ mP I1 J1 (nI (L a b c)) n T (upL L a b c x) false nm v2 I2 J2 else mP I1 J1 (-1) n T L ah nm v2 I2 J2) : MT v1 v2 I2 J2 := by
  obtain ⟨⟨hn1, hn9⟩, -⟩ := id hci.1
  by_cases hq : (isV n g u && (isV n g v && (isM lb && decide (u ≠ v)))) = true
  · rw [if_pos hq] at hc hm
    obtain ⟨a, b, c, x, a1, a2, a3, a4, a5, a6, a7, a8, a9⟩ := hc
    obtain ⟨a', b', c', x', b1, b2, b3, b4, b5, b6, b7, b8, b9⟩ := hm
    have e1 := nI_jn (by omega) (by omega) a5 b5
    have e2 := nI_jn (by omega) (by omega) a6 b6
    have e3 := nI_jn (by omega) (by omega) a7 b7
    have e4 := nI_jn (by omega) (by omega) a8 b8
    subst e1; subst e2; subst e3; subst e4
    exact mt_fin a9 b9 rfl (fun _ _ _ => rfl)
  · rw [if_neg hq] at hc hm
    exact mt_fin hc hm rfl (fun _ _ _ => rfl)
theorem sh_tint {I I1 : SI} {J1 : SJ} {v1 : Option Value} {n : Nat} {T : Nat → Nat → Nat} {L : Nat → Nat → Nat → Nat} {ah : Bool} {nm : Nat → Nat} {g v t : Int32} (hc : if (isV n g v && isM t) = true then ∃ a b x, a < 2 ∧ b < n ∧ x < 4 ∧ g = nI a ∧ v = nI b ∧ t = nI x ∧ aP I (nI (T a b)) n (upT T a b x) L false nm v1 I1 J1 else aP I (-1) n T L ah nm v1 I1 J1) : ∃ r : Int32, v1 = some (.int r) ∧ keep I I1 := by
  split at hc
  · obtain ⟨_, _, _, _, _, _, _, _, _, a9⟩ := hc
    exact ⟨_, a9.1, a9.2.1⟩
  · exact ⟨_, hc.1, hc.2.1⟩
theorem mt_tint {I I1 : SI} {J J1 : SJ} {v1 : Option Value} {n : Nat} {T : Nat → Nat → Nat} {L : Nat → Nat → Nat → Nat} {ah : Bool} {nm : Nat → Nat} {I2 : SI} {J2 : SJ} {v2 : Option Value} {g v t : Int32} (hci : CI I J n T L ah nm) (hc : if (isV n g v && isM t) = true then ∃ a b x, a < 2 ∧ b < n ∧ x < 4 ∧ g = nI a ∧ v = nI b ∧ t = nI x ∧ aP I (nI (T a b)) n (upT T a b x) L false nm v1 I1 J1 else aP I (-1) n T L ah nm v1 I1 J1) (hm : if (isV n g v && isM t) = true then ∃ a b x, a < 2 ∧ b < n ∧ x < 4 ∧ g = nI a ∧ v = nI b ∧ t = nI x ∧ mP I1 J1 (nI (T a b)) n (upT T a b x) L false nm v2 I2 J2 else mP I1 J1 (-1) n T L ah nm v2 I2 J2) : MT v1 v2 I2 J2 := by
  obtain ⟨⟨hn1, hn9⟩, -⟩ := id hci.1
  by_cases hq : (isV n g v && isM t) = true
  · rw [if_pos hq] at hc hm
    obtain ⟨a, b, x, a1, a2, a4, a5, a6, a8, a9⟩ := hc
    obtain ⟨a', b', x', b1, b2, b4, b5, b6, b8, b9⟩ := hm
    have e1 := nI_jn (by omega) (by omega) a5 b5
    have e2 := nI_jn (by omega) (by omega) a6 b6
    have e4 := nI_jn (by omega) (by omega) a8 b8
    subst e1; subst e2; subst e4
    exact mt_fin a9 b9 rfl (fun _ _ _ => rfl)
  · rw [if_neg hq] at hc hm
    exact mt_fin hc hm rfl (fun _ _ _ => rfl)
theorem sh_exchange {I I1 : SI} {J1 : SJ} {v1 : Option Value} {n : Nat} {T : Nat → Nat → Nat} {L : Nat → Nat → Nat → Nat} {ah : Bool} {nm : Nat → Nat} {g u v : Int32} (hc : if (isV n g u && isV n g v) = true then ∃ a b c, a < 2 ∧ b < n ∧ c < n ∧ g = nI a ∧ u = nI b ∧ v = nI c ∧ aP I (nI 0) n (exT T a b c) (exL L a b c) false nm v1 I1 J1 else aP I (-1) n T L ah nm v1 I1 J1) : ∃ r : Int32, v1 = some (.int r) ∧ keep I I1 := by
  split at hc
  · obtain ⟨_, _, _, _, _, _, _, _, _, a9⟩ := hc
    exact ⟨_, a9.1, a9.2.1⟩
  · exact ⟨_, hc.1, hc.2.1⟩
theorem mt_exchange {I I1 : SI} {J J1 : SJ} {v1 : Option Value} {n : Nat} {T : Nat → Nat → Nat} {L : Nat → Nat → Nat → Nat} {ah : Bool} {nm : Nat → Nat} {I2 : SI} {J2 : SJ} {v2 : Option Value} {g u v : Int32} (hci : CI I J n T L ah nm) (hc : if (isV n g u && isV n g v) = true then ∃ a b c, a < 2 ∧ b < n ∧ c < n ∧ g = nI a ∧ u = nI b ∧ v = nI c ∧ aP I (nI 0) n (exT T a b c) (exL L a b c) false nm v1 I1 J1 else aP I (-1) n T L ah nm v1 I1 J1) (hm : if (isV n g u && isV n g v) = true then ∃ a b c, a < 2 ∧ b < n ∧ c < n ∧ g = nI a ∧ u = nI b ∧ v = nI c ∧ mP I1 J1 (nI 0) n (exT T a b c) (exL L a b c) false nm v2 I2 J2 else mP I1 J1 (-1) n T L ah nm v2 I2 J2) : MT v1 v2 I2 J2 := by
  obtain ⟨⟨hn1, hn9⟩, -⟩ := id hci.1
  by_cases hq : (isV n g u && isV n g v) = true
  · rw [if_pos hq] at hc hm
    obtain ⟨a, b, x, a1, a2, a4, a5, a6, a8, a9⟩ := hc
    obtain ⟨a', b', x', b1, b2, b4, b5, b6, b8, b9⟩ := hm
    have e1 := nI_jn (by omega) (by omega) a5 b5
    have e2 := nI_jn (by omega) (by omega) a6 b6
    have e4 := nI_jn (by omega) (by omega) a8 b8
    subst e1; subst e2; subst e4
    exact mt_fin a9 b9 rfl (fun _ _ _ => rfl)
  · rw [if_neg hq] at hc hm
    exact mt_fin hc hm rfl (fun _ _ _ => rfl)
theorem sh_copy {I I1 : SI} {J1 : SJ} {v1 : Option Value} {n : Nat} {T : Nat → Nat → Nat} {L : Nat → Nat → Nat → Nat} {ah : Bool} {nm : Nat → Nat} {g : Int32} (hc : if isG g = true then ∃ a, a < 2 ∧ g = nI a ∧ aP I (nI 0) n (cpT T a) (cpL L a) false nm v1 I1 J1 else aP I (-1) n T L ah nm v1 I1 J1) : ∃ r : Int32, v1 = some (.int r) ∧ keep I I1 := by
  split at hc
  · obtain ⟨_, _, _, a9⟩ := hc
    exact ⟨_, a9.1, a9.2.1⟩
  · exact ⟨_, hc.1, hc.2.1⟩
theorem mt_copy {I I1 : SI} {J J1 : SJ} {v1 : Option Value} {n : Nat} {T : Nat → Nat → Nat} {L : Nat → Nat → Nat → Nat} {ah : Bool} {nm : Nat → Nat} {I2 : SI} {J2 : SJ} {v2 : Option Value} {g : Int32} (hci : CI I J n T L ah nm) (hc : if isG g = true then ∃ a, a < 2 ∧ g = nI a ∧ aP I (nI 0) n (cpT T a) (cpL L a) false nm v1 I1 J1 else aP I (-1) n T L ah nm v1 I1 J1) (hm : if isG g = true then ∃ a, a < 2 ∧ g = nI a ∧ mP I1 J1 (nI 0) n (cpT T a) (cpL L a) false nm v2 I2 J2 else mP I1 J1 (-1) n T L ah nm v2 I2 J2) : MT v1 v2 I2 J2 := by
  obtain ⟨⟨hn1, hn9⟩, -⟩ := id hci.1
  by_cases hq : isG g = true
  · rw [if_pos hq] at hc hm
    obtain ⟨a, a1, a5, a9⟩ := hc
    obtain ⟨a', b1, b5, b9⟩ := hm
    have e1 := nI_jn (by omega) (by omega) a5 b5
    subst e1
    exact mt_fin a9 b9 rfl (fun _ _ _ => rfl)
  · rw [if_neg hq] at hc hm
    exact mt_fin hc hm rfl (fun _ _ _ => rfl)
theorem sh_colours {I I1 : SI} {J1 : SJ} {v1 : Option Value} {n : Nat} {T : Nat → Nat → Nat} {L : Nat → Nat → Nat → Nat} {ah : Bool} {nm : Nat → Nat} (hc : ∃ k, rnd n T L k ∧ aP I (nI (ms n T L k)) n T L ah nm v1 I1 J1) : ∃ r : Int32, v1 = some (.int r) ∧ keep I I1 := by
  obtain ⟨_, _, a9⟩ := hc
  exact ⟨_, a9.1, a9.2.1⟩
theorem mt_colours {I I1 : SI} {J J1 : SJ} {v1 : Option Value} {n : Nat} {T : Nat → Nat → Nat} {L : Nat → Nat → Nat → Nat} {ah : Bool} {nm : Nat → Nat} {I2 : SI} {J2 : SJ} {v2 : Option Value} (hci : CI I J n T L ah nm) (hc : ∃ k, rnd n T L k ∧ aP I (nI (ms n T L k)) n T L ah nm v1 I1 J1) (hm : ∃ k, rn2 n T L k ∧ mP I1 J1 (nI (ms n T L k)) n T L ah nm v2 I2 J2) : MT v1 v2 I2 J2 := by
  obtain ⟨⟨hn1, hn9⟩, -⟩ := id hci.1
  obtain ⟨k, a1, a9⟩ := hc
  obtain ⟨k', b1, b9⟩ := hm
  have e1 := rnd_rn2 a1 b1
  subst e1
  exact mt_fin a9 b9 rfl (fun _ _ _ => rfl)
theorem sh_colour {I I1 : SI} {J1 : SJ} {v1 : Option Value} {n : Nat} {T : Nat → Nat → Nat} {L : Nat → Nat → Nat → Nat} {ah : Bool} {nm : Nat → Nat} {g v : Int32} (hc : if isV n g v = true then ∃ k a b, rnd n T L k ∧ a < 2 ∧ b < n ∧ g = nI a ∧ v = nI b ∧ aP I (nI (col n T L k a b)) n T L ah nm v1 I1 J1 else aP I (-1) n T L ah nm v1 I1 J1) : ∃ r : Int32, v1 = some (.int r) ∧ keep I I1 := by
  split at hc
  · obtain ⟨_, _, _, _, _, _, _, _, a9⟩ := hc
    exact ⟨_, a9.1, a9.2.1⟩
  · exact ⟨_, hc.1, hc.2.1⟩
theorem mt_colour {I I1 : SI} {J J1 : SJ} {v1 : Option Value} {n : Nat} {T : Nat → Nat → Nat} {L : Nat → Nat → Nat → Nat} {ah : Bool} {nm : Nat → Nat} {I2 : SI} {J2 : SJ} {v2 : Option Value} {g v : Int32} (hci : CI I J n T L ah nm) (hc : if isV n g v = true then ∃ k a b, rnd n T L k ∧ a < 2 ∧ b < n ∧ g = nI a ∧ v = nI b ∧ aP I (nI (col n T L k a b)) n T L ah nm v1 I1 J1 else aP I (-1) n T L ah nm v1 I1 J1) (hm : if isV n g v = true then ∃ k a b, rn2 n T L k ∧ a < 2 ∧ b < n ∧ g = nI a ∧ v = nI b ∧ mP I1 J1 (nI (col n T L k a b)) n T L ah nm v2 I2 J2 else mP I1 J1 (-1) n T L ah nm v2 I2 J2) : MT v1 v2 I2 J2 := by
  obtain ⟨⟨hn1, hn9⟩, -⟩ := id hci.1
  by_cases hq : isV n g v = true
  · rw [if_pos hq] at hc hm
    obtain ⟨k, a, b, a1, a2, a3, a4, a5, a9⟩ := hc
    obtain ⟨k', a', b', b1, b2, b3, b4, b5, b9⟩ := hm
    have e1 := rnd_rn2 a1 b1
    have e2 := nI_jn (by omega) (by omega) a4 b4
    have e3 := nI_jn (by omega) (by omega) a5 b5
    subst e1; subst e2; subst e3
    exact mt_fin a9 b9 rfl (fun _ _ _ => rfl)
  · rw [if_neg hq] at hc hm
    exact mt_fin hc hm rfl (fun _ _ _ => rfl)
theorem sh_twins {I I1 : SI} {J1 : SJ} {v1 : Option Value} {n : Nat} {T : Nat → Nat → Nat} {L : Nat → Nat → Nat → Nat} {ah : Bool} {nm : Nat → Nat} (hc : ∃ b f, Tw n T L 0 1 false (fun i => i) b f ∧ aP I (bI b) n T L b f v1 I1 J1) : ∃ r : Int32, v1 = some (.int r) ∧ keep I I1 := by
  obtain ⟨_, _, _, a9⟩ := hc
  exact ⟨_, a9.1, a9.2.1⟩
theorem mt_twins {I I1 : SI} {J J1 : SJ} {v1 : Option Value} {n : Nat} {T : Nat → Nat → Nat} {L : Nat → Nat → Nat → Nat} {ah : Bool} {nm : Nat → Nat} {I2 : SI} {J2 : SJ} {v2 : Option Value} (hci : CI I J n T L ah nm) (hc : ∃ b f, Tw n T L 0 1 false (fun i => i) b f ∧ aP I (bI b) n T L b f v1 I1 J1) (hm : ∃ b f, Tw n T L 0 1 false (fun i => i) b f ∧ mP I1 J1 (bI b) n T L b f v2 I2 J2) : MT v1 v2 I2 J2 := by
  obtain ⟨⟨hn1, hn9⟩, -⟩ := id hci.1
  obtain ⟨b, f, a1, a9⟩ := hc
  obtain ⟨b', f', b1, b9⟩ := hm
  have e := Tw_un a1 b1
  obtain ⟨e1, e2⟩ := e
  subst e1
  exact mt_fin a9 b9 rfl (fun q i hi => (e2 q i hi).symm)
theorem sh_image {I I1 : SI} {J1 : SJ} {v1 : Option Value} {n : Nat} {T : Nat → Nat → Nat} {L : Nat → Nat → Nat → Nat} {ah : Bool} {nm : Nat → Nat} {v : Int32} (hc : if (ah && isV n (nI 0) v) = true then ∃ b, b < n ∧ v = nI b ∧ aP I (nI (nm b)) n T L ah nm v1 I1 J1 else aP I (-1) n T L ah nm v1 I1 J1) : ∃ r : Int32, v1 = some (.int r) ∧ keep I I1 := by
  split at hc
  · obtain ⟨_, _, _, a9⟩ := hc
    exact ⟨_, a9.1, a9.2.1⟩
  · exact ⟨_, hc.1, hc.2.1⟩
theorem mt_image {I I1 : SI} {J J1 : SJ} {v1 : Option Value} {n : Nat} {T : Nat → Nat → Nat} {L : Nat → Nat → Nat → Nat} {ah : Bool} {nm : Nat → Nat} {I2 : SI} {J2 : SJ} {v2 : Option Value} {v : Int32} (hci : CI I J n T L ah nm) (hc : if (ah && isV n (nI 0) v) = true then ∃ b, b < n ∧ v = nI b ∧ aP I (nI (nm b)) n T L ah nm v1 I1 J1 else aP I (-1) n T L ah nm v1 I1 J1) (hm : if (ah && isV n (nI 0) v) = true then ∃ b, b < n ∧ v = nI b ∧ mP I1 J1 (nI (nm b)) n T L ah nm v2 I2 J2 else mP I1 J1 (-1) n T L ah nm v2 I2 J2) : MT v1 v2 I2 J2 := by
  obtain ⟨⟨hn1, hn9⟩, -⟩ := id hci.1
  by_cases hq : (ah && isV n (nI 0) v) = true
  · rw [if_pos hq] at hc hm
    obtain ⟨a, a1, a5, a9⟩ := hc
    obtain ⟨a', b1, b5, b9⟩ := hm
    have e1 := nI_jn (by omega) (by omega) a5 b5
    subst e1
    exact mt_fin a9 b9 rfl (fun _ _ _ => rfl)
  · rw [if_neg hq] at hc hm
    exact mt_fin hc hm rfl (fun _ _ _ => rfl)
theorem sh_next {I I1 : SI} {J1 : SJ} {v1 : Option Value} {n : Nat} {T : Nat → Nat → Nat} {L : Nat → Nat → Nat → Nat} {ah : Bool} {nm : Nat → Nat} (hc : if ah = true then ∃ b f, Tw n T L 0 1 true nm b f ∧ aP I (bI b) n T L b f v1 I1 J1 else aP I (-1) n T L ah nm v1 I1 J1) : ∃ r : Int32, v1 = some (.int r) ∧ keep I I1 := by
  split at hc
  · obtain ⟨_, _, _, a9⟩ := hc
    exact ⟨_, a9.1, a9.2.1⟩
  · exact ⟨_, hc.1, hc.2.1⟩
theorem mt_next {I I1 : SI} {J J1 : SJ} {v1 : Option Value} {n : Nat} {T : Nat → Nat → Nat} {L : Nat → Nat → Nat → Nat} {ah : Bool} {nm : Nat → Nat} {I2 : SI} {J2 : SJ} {v2 : Option Value} (hci : CI I J n T L ah nm) (hc : if ah = true then ∃ b f, Tw n T L 0 1 true nm b f ∧ aP I (bI b) n T L b f v1 I1 J1 else aP I (-1) n T L ah nm v1 I1 J1) (hm : if ah = true then ∃ b f, Tw n T L 0 1 true nm b f ∧ mP I1 J1 (bI b) n T L b f v2 I2 J2 else mP I1 J1 (-1) n T L ah nm v2 I2 J2) : MT v1 v2 I2 J2 := by
  obtain ⟨⟨hn1, hn9⟩, -⟩ := id hci.1
  by_cases hq : ah = true
  · rw [if_pos hq] at hc hm
    obtain ⟨b, f, a1, a9⟩ := hc
    obtain ⟨b', f', b1, b9⟩ := hm
    have e := Tw_un a1 b1
    obtain ⟨e1, e2⟩ := e
    subst e1
    exact mt_fin a9 b9 rfl (fun q i hi => (e2 q i hi).symm)
  · rw [if_neg hq] at hc hm
    exact mt_fin hc hm rfl (fun _ _ _ => rfl)
theorem sh_symmetries {I I1 : SI} {J1 : SJ} {v1 : Option Value} {n : Nat} {T : Nat → Nat → Nat} {L : Nat → Nat → Nat → Nat} {ah : Bool} {nm : Nat → Nat} {g : Int32} (hc : if isG g = true then ∃ a, a < 2 ∧ g = nI a ∧ aP I (nI (sn n T L a n)) n T L ah nm v1 I1 J1 else aP I (-1) n T L ah nm v1 I1 J1) : ∃ r : Int32, v1 = some (.int r) ∧ keep I I1 := by
  split at hc
  · obtain ⟨_, _, _, a9⟩ := hc
    exact ⟨_, a9.1, a9.2.1⟩
  · exact ⟨_, hc.1, hc.2.1⟩
theorem mt_symmetries {I I1 : SI} {J J1 : SJ} {v1 : Option Value} {n : Nat} {T : Nat → Nat → Nat} {L : Nat → Nat → Nat → Nat} {ah : Bool} {nm : Nat → Nat} {I2 : SI} {J2 : SJ} {v2 : Option Value} {g : Int32} (hci : CI I J n T L ah nm) (hc : if isG g = true then ∃ a, a < 2 ∧ g = nI a ∧ aP I (nI (sn n T L a n)) n T L ah nm v1 I1 J1 else aP I (-1) n T L ah nm v1 I1 J1) (hm : if isG g = true then ∃ a m, a < 2 ∧ g = nI a ∧ crd n (fun f => tr n T L a a f n) m ∧ mP I1 J1 (nI m) n T L ah nm v2 I2 J2 else mP I1 J1 (-1) n T L ah nm v2 I2 J2) : MT v1 v2 I2 J2 := by
  obtain ⟨⟨hn1, hn9⟩, -⟩ := id hci.1
  by_cases hq : isG g = true
  · rw [if_pos hq] at hc hm
    obtain ⟨a, a1, a5, a9⟩ := hc
    obtain ⟨a', m, b1, b5, b6, b9⟩ := hm
    have e1 := nI_jn (by omega) (by omega) a5 b5
    subst e1
    exact mt_fin a9 b9 (by rw [sn_crd b6]) (fun _ _ _ => rfl)
  · rw [if_neg hq] at hc hm
    exact mt_fin hc hm rfl (fun _ _ _ => rfl)
theorem sh_orbit {I I1 : SI} {J1 : SJ} {v1 : Option Value} {n : Nat} {T : Nat → Nat → Nat} {L : Nat → Nat → Nat → Nat} {ah : Bool} {nm : Nat → Nat} {g v : Int32} (hc : if isV n g v = true then ∃ a b oo, a < 2 ∧ b < n ∧ g = nI a ∧ v = nI b ∧ OR n T L a oo (fun _ _ => True) ∧ aP I (nI (oo b)) n T L ah nm v1 I1 J1 else aP I (-1) n T L ah nm v1 I1 J1) : ∃ r : Int32, v1 = some (.int r) ∧ keep I I1 := by
  split at hc
  · obtain ⟨_, _, _, _, _, _, _, _, a9⟩ := hc
    exact ⟨_, a9.1, a9.2.1⟩
  · exact ⟨_, hc.1, hc.2.1⟩
theorem mt_orbit {I I1 : SI} {J J1 : SJ} {v1 : Option Value} {n : Nat} {T : Nat → Nat → Nat} {L : Nat → Nat → Nat → Nat} {ah : Bool} {nm : Nat → Nat} {I2 : SI} {J2 : SJ} {v2 : Option Value} {g v : Int32} (hci : CI I J n T L ah nm) (hc : if isV n g v = true then ∃ a b oo, a < 2 ∧ b < n ∧ g = nI a ∧ v = nI b ∧ OR n T L a oo (fun _ _ => True) ∧ aP I (nI (oo b)) n T L ah nm v1 I1 J1 else aP I (-1) n T L ah nm v1 I1 J1) (hm : if isV n g v = true then ∃ a b r, a < 2 ∧ b < n ∧ g = nI a ∧ v = nI b ∧ lob n T L a b r ∧ mP I1 J1 (nI r) n T L ah nm v2 I2 J2 else mP I1 J1 (-1) n T L ah nm v2 I2 J2) : MT v1 v2 I2 J2 := by
  obtain ⟨⟨hn1, hn9⟩, -⟩ := id hci.1
  by_cases hq : isV n g v = true
  · rw [if_pos hq] at hc hm
    obtain ⟨a, b, oo, a1, a2, a3, a4, a5, a9⟩ := hc
    obtain ⟨a', b', r, b1, b2, b3, b4, b5, b9⟩ := hm
    have e1 := nI_jn (by omega) (by omega) a3 b3
    have e2 := nI_jn (by omega) (by omega) a4 b4
    subst e1; subst e2
    exact mt_fin a9 b9 (by rw [ob_eq a5 b5 a2]) (fun _ _ _ => rfl)
  · rw [if_neg hq] at hc hm
    exact mt_fin hc hm rfl (fun _ _ _ => rfl)
theorem sh_form {I I1 : SI} {J1 : SJ} {v1 : Option Value} {n : Nat} {T : Nat → Nat → Nat} {L : Nat → Nat → Nat → Nat} {ah : Bool} {nm : Nat → Nat} {g i : Int32} (hc : if (isG g && decide (0 ≤ i ∧ i < nI (n * n))) = true then ∃ a ki row B, a < 2 ∧ g = nI a ∧ i = nI ki ∧ ki < n * n ∧ row < n ∧ row * row ≤ ki ∧ ki < (row + 1) * (row + 1) ∧ frm n T L a B ∧ aP I (nI (B row / 2 ^ (2 * (row * row + 2 * row - ki)) % 4)) n T L ah nm v1 I1 J1 else aP I (-1) n T L ah nm v1 I1 J1) : ∃ r : Int32, v1 = some (.int r) ∧ keep I I1 := by
  split at hc
  · obtain ⟨_, _, _, _, _, _, _, _, _, _, _, _, a9⟩ := hc
    exact ⟨_, a9.1, a9.2.1⟩
  · exact ⟨_, hc.1, hc.2.1⟩
theorem mt_form {I I1 : SI} {J J1 : SJ} {v1 : Option Value} {n : Nat} {T : Nat → Nat → Nat} {L : Nat → Nat → Nat → Nat} {ah : Bool} {nm : Nat → Nat} {I2 : SI} {J2 : SJ} {v2 : Option Value} {g i : Int32} (hci : CI I J n T L ah nm) (hc : if (isG g && decide (0 ≤ i ∧ i < nI (n * n))) = true then ∃ a ki row B, a < 2 ∧ g = nI a ∧ i = nI ki ∧ ki < n * n ∧ row < n ∧ row * row ≤ ki ∧ ki < (row + 1) * (row + 1) ∧ frm n T L a B ∧ aP I (nI (B row / 2 ^ (2 * (row * row + 2 * row - ki)) % 4)) n T L ah nm v1 I1 J1 else aP I (-1) n T L ah nm v1 I1 J1) (hm : if (isG g && decide (0 ≤ i ∧ i < nI (n * n))) = true then ∃ a ki R, a < 2 ∧ g = nI a ∧ i = nI ki ∧ ki < n * n ∧ mfr n T L a R ∧ mP I1 J1 (nI (R ki)) n T L ah nm v2 I2 J2 else mP I1 J1 (-1) n T L ah nm v2 I2 J2) : MT v1 v2 I2 J2 := by
  obtain ⟨⟨hn1, hn9⟩, -⟩ := id hci.1
  by_cases hq : (isG g && decide (0 ≤ i ∧ i < nI (n * n))) = true
  · rw [if_pos hq] at hc hm
    obtain ⟨a, ki, row, B, a1, a2, a3, a4, a5, a6, a7, a8, a9⟩ := hc
    obtain ⟨a', ki', R, b1, b2, b3, b4, b5, b9⟩ := hm
    have hnn : n * n ≤ 9 * 9 := Nat.mul_le_mul hn9 hn9
    have e1 := nI_jn (by omega) (by omega) a2 b2
    have e2 := nI_jn (by omega) (by omega) a3 b3
    subst e1; subst e2
    exact mt_fin a9 b9 (by rw [form_eq (hci.1.sm4 a1) a8 b5 a5 a4 a6 a7]) (fun _ _ _ => rfl)
  · rw [if_neg hq] at hc hm
    exact mt_fin hc hm rfl (fun _ _ _ => rfl)
theorem sh_compare {I I1 : SI} {J1 : SJ} {v1 : Option Value} {n : Nat} {T : Nat → Nat → Nat} {L : Nat → Nat → Nat → Nat} {ah : Bool} {nm : Nat → Nat} {g : Int32} (hc : if isG g = true then ∃ a c B B2, a < 2 ∧ g = nI a ∧ frm n T L a B ∧ frm n T L (1 - a) B2 ∧ ((c = -1 ∧ lx n B B2) ∨ (c = 0 ∧ ∀ i, i < n → B i = B2 i) ∨ (c = 1 ∧ lx n B2 B)) ∧ aP I c n T L ah nm v1 I1 J1 else aP I (-2) n T L ah nm v1 I1 J1) : ∃ r : Int32, v1 = some (.int r) ∧ keep I I1 := by
  split at hc
  · obtain ⟨_, _, _, _, _, _, _, _, _, a9⟩ := hc
    exact ⟨_, a9.1, a9.2.1⟩
  · exact ⟨_, hc.1, hc.2.1⟩
theorem mt_compare {I I1 : SI} {J J1 : SJ} {v1 : Option Value} {n : Nat} {T : Nat → Nat → Nat} {L : Nat → Nat → Nat → Nat} {ah : Bool} {nm : Nat → Nat} {I2 : SI} {J2 : SJ} {v2 : Option Value} {g : Int32} (hci : CI I J n T L ah nm) (hc : if isG g = true then ∃ a c B B2, a < 2 ∧ g = nI a ∧ frm n T L a B ∧ frm n T L (1 - a) B2 ∧ ((c = -1 ∧ lx n B B2) ∨ (c = 0 ∧ ∀ i, i < n → B i = B2 i) ∨ (c = 1 ∧ lx n B2 B)) ∧ aP I c n T L ah nm v1 I1 J1 else aP I (-2) n T L ah nm v1 I1 J1) (hm : if isG g = true then ∃ a c R R2, a < 2 ∧ g = nI a ∧ mfr n T L a R ∧ mfr n T L (1 - a) R2 ∧ ((c = -1 ∧ lx (n * n) R R2) ∨ (c = 0 ∧ ∀ k, k < n * n → R k = R2 k) ∨ (c = 1 ∧ lx (n * n) R2 R)) ∧ mP I1 J1 c n T L ah nm v2 I2 J2 else mP I1 J1 (-2) n T L ah nm v2 I2 J2) : MT v1 v2 I2 J2 := by
  obtain ⟨⟨hn1, hn9⟩, -⟩ := id hci.1
  by_cases hq : isG g = true
  · rw [if_pos hq] at hc hm
    obtain ⟨a, c, B, B2, a1, a2, a3, a4, a5, a9⟩ := hc
    obtain ⟨a', c', R, R2, b1, b2, b3, b4, b5, b9⟩ := hm
    have e1 := nI_jn (by omega) (by omega) a2 b2
    subst e1
    exact mt_fin a9 b9 (comp_eq (hci.1.sm4 a1) (hci.1.sm4 (by omega)) a3 b3 a4 b4 a5 b5) (fun _ _ _ => rfl)
  · rw [if_neg hq] at hc hm
    exact mt_fin hc hm rfl (fun _ _ _ => rfl)
theorem sh_count {I I1 : SI} {J1 : SJ} {v1 : Option Value} {n : Nat} {T : Nat → Nat → Nat} {L : Nat → Nat → Nat → Nat} {ah : Bool} {nm : Nat → Nat} {w : Int32} (hc : aP I (cntA n L ah w) n T L ah nm v1 I1 J1) : ∃ r : Int32, v1 = some (.int r) ∧ keep I I1 := by
  exact ⟨_, hc.1, hc.2.1⟩
theorem mt_count {I I1 : SI} {J J1 : SJ} {v1 : Option Value} {n : Nat} {T : Nat → Nat → Nat} {L : Nat → Nat → Nat → Nat} {ah : Bool} {nm : Nat → Nat} {I2 : SI} {J2 : SJ} {v2 : Option Value} {w : Int32} (hci : CI I J n T L ah nm) (hc : aP I (cntA n L ah w) n T L ah nm v1 I1 J1) (hm : mP I1 J1 (cntA n L ah w) n T L ah nm v2 I2 J2) : MT v1 v2 I2 J2 := by
  obtain ⟨⟨hn1, hn9⟩, -⟩ := id hci.1
  exact mt_fin hc hm rfl (fun _ _ _ => rfl)
