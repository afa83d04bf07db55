/-! ===== arraycopy, max, min, tableswitch over the one world ===== -/
theorem wl_setRI {ca : Nat → ClassId} {ad : Nat → Nat → Nat} {I : SI} {J : SJ} {i k r : Nat} {f : Nat → Int32} (hi : ks[i]? = some (k, r)) : (wl ca ad I J).set i (ad k r, SSr ca ad k r f (J k r)) = wl ca ad (sK I k (va_up (I k) r f)) J := by
  have e : (sK I k (va_up (I k) r f)) k r = f := by rw [sK_self, va_up_self]
  conv => lhs; rw [← e]
  refine wl_set hi (fun k' r' h => ?_) (fun _ _ _ => rfl)
  by_cases hk : k' = k
  · subst hk
    rw [sK_self, va_up_ne _ _ (fun q => h ⟨rfl, q⟩)]
  · rw [sK_ne hk]
theorem wl_setRJ {ca : Nat → ClassId} {ad : Nat → Nat → Nat} {I : SI} {J : SJ} {i k r : Nat} {g : Nat → Int64} (hi : ks[i]? = some (k, r)) : (wl ca ad I J).set i (ad k r, SSr ca ad k r (I k r) g) = wl ca ad I (sK J k (va_up (J k) r g)) := by
  have e : (sK J k (va_up (J k) r g)) k r = g := by rw [sK_self, va_up_self]
  conv => lhs; rw [← e]
  refine wl_set hi (fun _ _ _ => rfl) (fun k' r' h => ?_)
  by_cases hk : k' = k
  · subst hk
    rw [sK_self, va_up_ne _ _ (fun q => h ⟨rfl, q⟩)]
  · rw [sK_ne hk]
section GM
variable {X : Pk} {cc : ByteArray} {nL : Nat} {own : String} {Z : Zk} {fr lo : Nat} {Q : State → Prop} {I : SI} {J : SJ} {pc : Nat} {lv lv' : List (Nat × Value)} {st : List Value}
theorem g_copyi (C : Cx X cc nL own Z fr lo) {index : Nat} (hlink : Cond.methodLink own index arraycopyName ∈ wsC) (k r k2 r2 : Nat) (hk : k < 38) (hr : r < cnt k) (hk2 : k2 < 38) (hr2 : r2 < cnt k2) {n0 n1 : Nat} (hs : ∀ f g, SSr Z.2.1 Z.2.2.1 k r f g = .inl (Z.2.1 0, n0, .inl f)) (hs2 : ∀ f g, SSr Z.2.1 Z.2.2.1 k2 r2 f g = .inl (Z.2.1 0, n1, .inl f)) (sp dp n : Nat) (h0 : sp + n ≤ n0) (h1 : dp + n ≤ n1) (hn0 : Nat.ble n0 1000 = true) (hn1 : Nat.ble n1 1000 = true) (hfr : Nat.ble 1 fr = true) (hlo : Nat.ble ((st.map fun v => v.category).sum + (nativeFrameWords "java/lang/System" "arraycopy" 5 + 11)) lo = true) (d : decode cc pc = .ok (.invokestatic index, 3))
    (kk : G X nL Z Q (sK I k2 (va_up (I k2) r2 (va_cpy (I k r) (I k2 r2) sp dp n))) J (pc + 3) lv st) : G X nL Z Q I J pc lv (.int (nI n) :: .int (nI dp) :: .ref (Z.2.2.1 k2 r2) :: .int (nI sp) :: .ref (Z.2.2.1 k r) :: st) := by
  intro H locs ls hP hS hl
  obtain ⟨q, hq⟩ := wl_get hk hr
  obtain ⟨q2, hq2⟩ := wl_get hk2 hr2
  have b0 := Nat.ble_eq.mp hn0
  have b1 := Nat.ble_eq.mp hn1
  have ha := wl_at (ca := Z.2.1) (ad := Z.2.2.1) (I := I) (J := J) hq
  have ha2 := wl_at (ca := Z.2.1) (ad := Z.2.2.1) (I := I) (J := J) hq2
  dsimp only at ha ha2
  rw [hs] at ha
  rw [hs2] at ha2
  have hts := C.2.2.2.2.1
  have c1 := nI_clamp (show sp < 2 ^ 31 by omega)
  have c2 := nI_clamp (show dp < 2 ^ 31 by omega)
  have c3 := nI_clamp (show n < 2 ^ 31 by omega)
  refine va_copyi C.1 C.2.1 (C.2.2.1.trans hl.1.symm) C.2.2.2.1 (hts _ hlink) (hts _ narraycopy) (hts _ tarraycopy) (hts _ nRJ10) C.2.2.2.2.2.1.1 hP (C.2.2.2.2.2.2.1.toD _ _ _) hS q q2 0 0 (ty := .int) ha ha2 rfl rfl rfl (nI_pos (by omega)) (nI_pos (by omega)) (nI_pos (by omega)) (by rw [c1, c3]; exact h0) (by rw [c2, c3]; exact h1) (fun _ _ => rfl) (by rw [C.2.2.2.2.2.2.2.2.2.1]; exact Nat.ble_eq.mp hfr) (by rw [C.2.2.2.2.2.2.2.2.2.2]; exact Nat.ble_eq.mp hlo) d (fun H1 locs1 hP1 _ hS1 => ?_)
  rw [c1, c2, c3] at hP1
  exact kk H1 locs1 ls (by rw [← wl_setRI hq2, hs2]; exact hP1) hS1 hl
theorem g_copyl (C : Cx X cc nL own Z fr lo) {index : Nat} (hlink : Cond.methodLink own index arraycopyName ∈ wsC) (k r k2 r2 : Nat) (hk : k < 38) (hr : r < cnt k) (hk2 : k2 < 38) (hr2 : r2 < cnt k2) {n0 n1 : Nat} (hs : ∀ f g, SSr Z.2.1 Z.2.2.1 k r f g = .inl (Z.2.1 1, n0, .inr (.inl g))) (hs2 : ∀ f g, SSr Z.2.1 Z.2.2.1 k2 r2 f g = .inl (Z.2.1 1, n1, .inr (.inl g))) (sp dp n : Nat) (h0 : sp + n ≤ n0) (h1 : dp + n ≤ n1) (hn0 : Nat.ble n0 1000 = true) (hn1 : Nat.ble n1 1000 = true) (hfr : Nat.ble 1 fr = true) (hlo : Nat.ble ((st.map fun v => v.category).sum + (nativeFrameWords "java/lang/System" "arraycopy" 5 + 11)) lo = true) (d : decode cc pc = .ok (.invokestatic index, 3))
    (kk : G X nL Z Q I (sK J k2 (va_up (J k2) r2 (va_cpy (J k r) (J k2 r2) sp dp n))) (pc + 3) lv st) : G X nL Z Q I J pc lv (.int (nI n) :: .int (nI dp) :: .ref (Z.2.2.1 k2 r2) :: .int (nI sp) :: .ref (Z.2.2.1 k r) :: st) := by
  intro H locs ls hP hS hl
  obtain ⟨q, hq⟩ := wl_get hk hr
  obtain ⟨q2, hq2⟩ := wl_get hk2 hr2
  have b0 := Nat.ble_eq.mp hn0
  have b1 := Nat.ble_eq.mp hn1
  have ha := wl_at (ca := Z.2.1) (ad := Z.2.2.1) (I := I) (J := J) hq
  have ha2 := wl_at (ca := Z.2.1) (ad := Z.2.2.1) (I := I) (J := J) hq2
  dsimp only at ha ha2
  rw [hs] at ha
  rw [hs2] at ha2
  have hts := C.2.2.2.2.1
  have c1 := nI_clamp (show sp < 2 ^ 31 by omega)
  have c2 := nI_clamp (show dp < 2 ^ 31 by omega)
  have c3 := nI_clamp (show n < 2 ^ 31 by omega)
  refine va_copyl C.1 C.2.1 (C.2.2.1.trans hl.1.symm) C.2.2.2.1 (hts _ hlink) (hts _ narraycopy) (hts _ tarraycopy) (hts _ nRJ10) C.2.2.2.2.2.1.1 hP (C.2.2.2.2.2.2.1.toD _ _ _) hS q q2 1 1 (ty := .long) ha ha2 rfl rfl rfl (nI_pos (by omega)) (nI_pos (by omega)) (nI_pos (by omega)) (by rw [c1, c3]; exact h0) (by rw [c2, c3]; exact h1) (fun _ _ => rfl) (by rw [C.2.2.2.2.2.2.2.2.2.1]; exact Nat.ble_eq.mp hfr) (by rw [C.2.2.2.2.2.2.2.2.2.2]; exact Nat.ble_eq.mp hlo) d (fun H1 locs1 hP1 _ hS1 => ?_)
  rw [c1, c2, c3] at hP1
  exact kk H1 locs1 ls (by rw [← wl_setRJ hq2, hs2]; exact hP1) hS1 hl
theorem n_max (C : Cx X cc nL own Z fr lo) {index : Nat} (hlink : Cond.methodLink own index yJ9_max_7cf53 ∈ wsC) {a b : Nat} (ha : a < 2 ^ 31) (hb : b < 2 ^ 31) (hfr : Nat.ble 1 fr = true) (hlo : Nat.ble ((st.map fun v => v.category).sum + 13) lo = true) (d : decode cc pc = .ok (.invokestatic index, 3)) (kk : G X nL Z Q I J (pc + 3) lv (.int (nI (max a b)) :: st)) : G X nL Z Q I J pc lv (.int (nI b) :: .int (nI a) :: st) := by
  intro H locs ls hP hS hl
  have hts := C.2.2.2.2.1
  refine va_mmax C.1 C.2.1 (C.2.2.1.trans hl.1.symm) C.2.2.2.1 (hts _ hlink) (hts _ tJ9_max_7cf53) (hts _ nRJ9) (hts _ kJ9_max_7cf53) (by rw [C.2.2.2.2.2.2.2.2.2.1]; exact Nat.ble_eq.mp hfr) (by rw [C.2.2.2.2.2.2.2.2.2.2]; exact Nat.ble_eq.mp hlo) (Nat.zero_le _) (Nat.zero_le _) d ?_
  have e : (if nI a < nI b then nI b else nI a) = nI (max a b) := by
    by_cases h : a < b
    · rw [if_pos ((nI_ltI ha hb).mpr h), Nat.max_eq_right (Nat.le_of_lt h)]
    · rw [if_neg (fun q => h ((nI_ltI ha hb).mp q)), Nat.max_eq_left (Nat.le_of_not_lt h)]
  rw [e]
  exact kk H locs ls hP hS hl
theorem n_min (C : Cx X cc nL own Z fr lo) {index : Nat} (hlink : Cond.methodLink own index yJ9_min_7cf53 ∈ wsC) {a b : Nat} (ha : a < 2 ^ 31) (hb : b < 2 ^ 31) (hfr : Nat.ble 1 fr = true) (hlo : Nat.ble ((st.map fun v => v.category).sum + 13) lo = true) (d : decode cc pc = .ok (.invokestatic index, 3)) (kk : G X nL Z Q I J (pc + 3) lv (.int (nI (min a b)) :: st)) : G X nL Z Q I J pc lv (.int (nI b) :: .int (nI a) :: st) := by
  intro H locs ls hP hS hl
  have hts := C.2.2.2.2.1
  refine va_mmin C.1 C.2.1 (C.2.2.1.trans hl.1.symm) C.2.2.2.1 (hts _ hlink) (hts _ tJ9_min_7cf53) (hts _ nRJ9) (hts _ kJ9_min_7cf53) (by rw [C.2.2.2.2.2.2.2.2.2.1]; exact Nat.ble_eq.mp hfr) (by rw [C.2.2.2.2.2.2.2.2.2.2]; exact Nat.ble_eq.mp hlo) (Nat.zero_le _) (Nat.zero_le _) d ?_
  have e : (if nI b < nI a then nI b else nI a) = nI (min a b) := by
    by_cases h : b < a
    · rw [if_pos ((nI_ltI hb ha).mpr h), Nat.min_eq_right (Nat.le_of_lt h)]
    · rw [if_neg (fun q => h ((nI_ltI hb ha).mp q)), Nat.min_eq_left (Nat.le_of_not_lt h)]
  rw [e]
  exact kk H locs ls hP hS hl
theorem g_tabOut (C : Cx X cc nL own Z fr lo) {dflt lw hg : Int} {offs : Array Int} {len : Nat} {x : Int32} {tgt : Nat} (d : decode cc pc = .ok (.tableswitch dflt lw hg offs, len)) (h : x.toInt < lw ∨ hg < x.toInt) (ht : (pc : Int) + dflt = (tgt : Int)) (k : G X nL Z Q I J tgt lv st) : G X nL Z Q I J pc lv (.int x :: st) :=
  fun H locs ls hP hS hl => lv_tableOut C.1 C.2.1 d h ht (k H locs ls hP hS hl)
theorem g_tabIn (C : Cx X cc nL own Z fr lo) {dflt lw hg : Int} {offs : Array Int} {len : Nat} {x : Int32} {off : Int} {tgt : Nat} (d : decode cc pc = .ok (.tableswitch dflt lw hg offs, len)) (h1 : ¬ x.toInt < lw) (h2 : ¬ hg < x.toInt) (ho : offs[(x.toInt - lw).toNat]? = some off) (ht : (pc : Int) + off = (tgt : Int)) (k : G X nL Z Q I J tgt lv st) : G X nL Z Q I J pc lv (.int x :: st) :=
  fun H locs ls hP hS hl => lv_tableIn C.1 C.2.1 d h1 h2 ho ht (k H locs ls hP hS hl)
end GM
