/-! ===== FormFinder: find ===== -/
/-- B is the form, as rows: some naming writes it, and none writes less -/
def frm (n : Nat) (T : Nat → Nat → Nat) (L : Nat → Nat → Nat → Nat) (g : Nat) (B : Nat → Nat) : Prop := (∃ f, nmg n f ∧ ∀ i, i < n → B i = Rq T L g f i) ∧ ∀ f, nmg n f → lxe n B (Rq T L g f)
theorem frm_of {n : Nat} {T : Nat → Nat → Nat} {L : Nat → Nat → Nat → Nat} {g : Nat} {f B : Nat → Nat} (hn1 : 1 ≤ n) (hn9 : n ≤ 9) (h4 : sm4 n T L g) (h : MB n T L g f 0 (fun _ => 1099511627776) B) : frm n T L g B := by
  refine ⟨?_, fun f' h1 => h.2.1 f' h1 (fun i hi => absurd hi (by omega))⟩
  rcases h.2.2 with q | ⟨f', h1, -, h3⟩
  · exfalso
    have hid : nmg n (fun i => i) := ⟨fun i hi => hi, fun i j _ _ e => e⟩
    have h2 := h.2.1 _ hid (fun i hi => absurd hi (by omega))
    refine lxe_no h2 ⟨0, by omega, fun j hj => absurd hj (by omega), ?_⟩
    rw [q 0 (by omega)]
    have := h4.1 0 (by omega)
    show T g 0 < 1099511627776
    omega
  · exact ⟨f', h1, h3⟩
def fdPost (n : Nat) (T : Nat → Nat → Nat) (L : Nat → Nat → Nat → Nat) (g : Nat) (I : SI) (J : SJ) : Option Value → SI → SJ → Prop := fun v' I' J' =>
  ∃ (A R C D : Nat → Nat → Int64) (K : Nat → Nat → Int32) (B : Nat → Nat), v' = none ∧ I' = sK I 26 K ∧ J' = CH J A R C D ∧ (∀ r, r ≠ g → A r = J 9 r) ∧ (∀ i, i < n → A g i = lN (B i) ∧ B i ≤ 2 ^ 40) ∧ frm n T L g B
theorem ch_9i (J : SJ) (A' : Nat → Nat → Int64) : sK J 9 A' = CH J A' (J 22) (J 23) (J 25) := by
  conv => lhs; rw [← ch_id J]
  rw [ch9]
set_option maxRecDepth 100000 in
set_option maxHeartbeats 4000000 in
theorem l_X0_find_12 {X : Pk} {Z : Zk} {I : SI} {J : SJ} (hA : AJ Z.2.2.1) (C : Cx X cX0_find 3 RX0 Z 24 1000) (hr : (xE X).sig.returnType = none) {n : Nat} {T : Nat → Nat → Nat} {L : Nat → Nat → Nat → Nat} (hv : CV I n T L) {g : Nat} (hg : g < 2) : ∀ k v (R : Nat → Nat → Int64) (K : Nat → Nat → Int32) (lk : Nat → Nat), n - v < k → v ≤ n → (∀ a, a < v → R 0 a = lN (T g a)) → (∀ a, a < v → K 0 a = nI (lk a) ∧ lks n T L g a a (lk a)) → G X 3 Z (QG X Z (fdPost n T L g I J)) (sK I 26 K) (CH J (va_up (J 9) g (fl (J 9 g) 9 (lN 1099511627776))) R (J 23) (J 25)) 12 [(0, .ref (Z.2.2.1 20 0)), (1, .ref (Z.2.2.1 2 g)), (2, .int (nI v))] [] := by
  obtain ⟨⟨hn1, hn9⟩, -⟩ := id hv
  intro k
  induction k with
  | zero => intro v R K lk h; exact absurd h (by omega)
  | succ k ih =>
    intro v R K lk hk hvn hR hK
    have hv2 := (hv.of (I' := sK I 26 K) (sK_ne (by decide)) (sK_ne (by decide)) (sK_ne (by decide)))
    have ht4 : v < n → T g v < 4 := fun h => hv.t4 hg h
    refine g_ildn C dX0_find_12 rfl ?_
    refine g_aldn C dX0_find_13 rfl ?_
    refine g_get C 2 g (by decide) (show g < 2 by omega) u1 rfl 0 rfl fX0_40 rfl rfl dX0_find_14 ?_
    refine g_top (y := (nI n)) (hv2.sz hg) ?_
    refine n_icmp_ge (tgt := 52) C dX0_find_17 rfl (by omega) (by omega) (fun c17 => ?_) (fun c17 => ?_)
    · refine g_aldn C dX0_find_52 rfl ?_
      refine g_aldn C dX0_find_53 rfl ?_
      refine g_iconst C ((nI 0)) dX0_find_54 (by decide) ?_
      refine g_iconst C ((nI 0)) dX0_find_55 (by decide) ?_
      refine g_callV (As := [.ref (Z.2.2.1 2 g), .int (nI 0), .int (nI 0)]) (st := []) C (c_X0_write hA hg n (by omega) (sK I 26 K) (CH J (va_up (J 9) g (fl (J 9 g) 9 (lN 1099511627776))) R (J 23) (J 25)) (fun _ => 0) 0 0 (fun _ => 1099511627776) (by omega) ⟨hv2, fun a ha => ⟨by rw [sK_self]; exact (hK a (by omega)).1, (hK a (by omega)).2⟩, tkn_0 _, fun i hi => absurd hi (by omega), fun i j hi => absurd hi (by omega), fun i hi => absurd hi (by omega), fun a ha _ => by rw [ch_22]; exact hR a (by omega), fun i hi => ⟨by rw [ch_9, va_up_self, fl_lt (by omega)], by show 1099511627776 ≤ 2 ^ 40; decide⟩⟩) wX0_write iX0_write sX0_write mX0_51 20 0 (by decide) (by decide) rfl rfl rfl rfl rfl rfl rfl (Bool.and_eq_true_iff.mpr ⟨Nat.ble_eq.mpr (by omega), Nat.ble_eq.mpr (by omega)⟩) dX0_find_56 ?_
      rintro v9 I9 J9 ⟨A3, R3, C3, D3, B3, h91, h92, h93, k1, k2, k3, k4, k5, k6⟩
      rw [h91, h92, h93, ch_ch]
      rw [ch_9] at k1
      clear h91 h92 h93 v9 I9 J9
      show G X _ Z _ (sK I 26 K) (CH J A3 R3 C3 D3) 59 [(0, .ref (Z.2.2.1 20 0)), (1, .ref (Z.2.2.1 2 g)), (2, .int (nI v))] []
      exact g_return C hr dX0_find_59 ⟨A3, R3, C3, D3, K, B3, rfl, rfl, rfl, fun r h => by rw [k1 r h, va_up_ne _ _ h], k5, frm_of hn1 hn9 (hv.s4 hg) k6⟩
    · refine g_aldn C dX0_find_20 rfl ?_
      refine g_get C 20 0 (by decide) (by decide) u0 rfl 0 rfl fX0_11 rfl rfl dX0_find_21 ?_
      refine g_iconst C ((nI 0)) dX0_find_24 (by decide) ?_
      refine g_aald C 21 0 4 (by decide) (by decide) (fun _ _ => rfl) rfl rfl 0 (show 0 < 9 by omega) rfl dX0_find_25 ?_
      refine g_ildn C dX0_find_26 rfl ?_
      refine g_aldn C dX0_find_27 rfl ?_
      refine g_get C 2 g (by decide) (show g < 2 by omega) u1 rfl 1 rfl fX0_44 rfl rfl dX0_find_28 ?_
      refine g_ildn C dX0_find_31 rfl ?_
      refine g_iald C 3 g (by decide) (show g < 2 by omega) (fun _ _ => rfl) v (show v < 9 by omega) rfl dX0_find_32 (v := (nI (T g v))) (hv2.t hg (by omega)) ?_
      refine g_i2l (v := (lN (T g v))) C dX0_find_33 (nI_l (by omega)) ?_
      refine g_last C 22 0 (by decide) (by decide) (fun _ _ => rfl) v (show v < 9 by omega) rfl dX0_find_34 ?_
      refine g_J (J1 := CH J (va_up (J 9) g (fl (J 9 g) 9 (lN 1099511627776))) (up2 R 0 v (lN (T g v))) (J 23) (J 25)) (by rw [ch_22, ch22]) ?_
      refine g_aldn C dX0_find_35 rfl ?_
      refine g_get C 20 0 (by decide) (by decide) u0 rfl 3 rfl fX0_23 rfl rfl dX0_find_36 ?_
      refine g_ildn C dX0_find_39 rfl ?_
      refine g_aldn C dX0_find_40 rfl ?_
      refine g_ildn C dX0_find_41 rfl ?_
      refine g_callS (As := [.ref (Z.2.2.1 2 g), .int (nI v)]) (st := [.int (nI v), .ref (Z.2.2.1 26 0)]) C (c_X0_lesserLikes hA hv2 hg (show v < n by omega)) wX0_lesserLikes tX0_lesserLikes mX0_47 rfl rfl rfl rfl dX0_find_42 ?_
      rintro v9 I9 J9 ⟨⟨m, h91, hm⟩, h92, h93⟩
      rw [h91, h92, h93]
      clear h91 h92 h93 v9 I9 J9
      show G X _ Z _ (sK I 26 K) (CH J (va_up (J 9) g (fl (J 9 g) 9 (lN 1099511627776))) (up2 R 0 v (lN (T g v))) (J 23) (J 25)) 45 [(0, .ref (Z.2.2.1 20 0)), (1, .ref (Z.2.2.1 2 g)), (2, .int (nI v))] [.int (nI m), .int (nI v), .ref (Z.2.2.1 26 0)]
      refine g_iast C 26 0 (by decide) (by decide) (fun _ _ => rfl) v (show v < 9 by omega) rfl dX0_find_45 ?_
      refine g_I (I1 := sK I 26 (up2 K 0 v (nI m))) (by rw [sK_self, sK_sK]) ?_
      refine g_iinc (lv' := [(2, .int (nI (v + 1))), (0, .ref (Z.2.2.1 20 0)), (1, .ref (Z.2.2.1 2 g))]) C ((nI (v + 1))) dX0_find_46 rfl (inc1 _) rfl rfl ?_
      refine g_goto (tgt := 12) C dX0_find_49 rfl ?_
      refine g_lv [1, 2, 0] rfl ?_
      refine ih (v + 1) _ _ (va_up lk v m) (by omega) (by omega) (fun a ha => ?_) (fun a ha => ?_)
      · by_cases q : a = v
        · subst q; rw [up2_self]
        · rw [up2_ne q]; exact hR a (by omega)
      · by_cases q : a = v
        · subst q; rw [up2_self, va_up_self]; exact ⟨rfl, hm⟩
        · rw [up2_ne q, va_up_ne _ _ q]; exact hK a (by omega)

set_option maxRecDepth 100000 in
set_option maxHeartbeats 4000000 in
/-- FormFinder.find -/
theorem c_X0_find {l : Launch} {Y : Yk} (hA : AJ Y.2.2) {I : SI} {J : SJ} {n : Nat} {T : Nat → Nat → Nat} {L : Nat → Nat → Nat → Nat} (hv : CV I n T L) {g : Nat} (hg : g < 2)  : MX l Y yX0_find cX0_find 3 (none) 24 1000 [.ref (Y.2.2 20 0), .ref (Y.2.2 2 g)] I J (fdPost n T L g I J) := by
  refine MX.of hA (by decide) (own := RX0) rfl rfl rfl ?_
  intro X Z hl hY1 hY2 hY3 C hr
  obtain ⟨D0, ca0, ad0⟩ := Y
  dsimp only at hA hY1 hY2 hY3
  subst hY1; subst hY2; subst hY3; subst hl
  show G X 3 Z (QG X Z _) I J 0 [(0, .ref (Z.2.2.1 20 0)), (1, .ref (Z.2.2.1 2 g))] []
  obtain ⟨⟨hn1, hn9⟩, -⟩ := id hv
  refine g_aldn C dX0_find_0 rfl ?_
  refine g_get C 2 g (by decide) (show g < 2 by omega) u1 rfl 7 rfl fX0_27 rfl rfl dX0_find_1 ?_
  refine g_ldc2 C qX0_32 dX0_find_4 ?_
  refine g_topl (y := lN 1099511627776) rfl ?_
  refine g_callS (As := [.ref (Z.2.2.1 9 g), .long (lN 1099511627776)]) (st := []) C (c_fillJ hA (k := 9) (r := g) (n := 9) (by decide) (show g < 2 by omega) (fun _ _ => rfl) (by decide)) wJ7_fill_d0a16 tJ7_fill_d0a16 mX0_34 rfl rfl rfl rfl dX0_find_7 ?_
  rintro v9 I9 J9 ⟨h91, h92, h93⟩
  rw [h91, h92, h93, ch_9i]
  clear h91 h92 h93 v9 I9 J9
  show G X _ Z _ I (CH J (va_up (J 9) g (fl (J 9 g) 9 (lN 1099511627776))) (J 22) (J 23) (J 25)) 10 [(0, .ref (Z.2.2.1 20 0)), (1, .ref (Z.2.2.1 2 g))] []
  refine g_iconst C ((nI 0)) dX0_find_10 (by decide) ?_
  refine g_istn (lv' := [(2, .int (nI 0)), (0, .ref (Z.2.2.1 20 0)), (1, .ref (Z.2.2.1 2 g))]) C dX0_find_11 rfl rfl ?_
  refine g_lv [1, 2, 0] rfl ?_
  refine g_I (I1 := sK I 26 (I 26)) (sK_id _ _).symm ?_
  exact l_X0_find_12 hA C hr hv hg (n + 1) 0 (J 22) (I 26) (fun _ => 0) (by omega) (by omega) (fun a ha => absurd ha (by omega)) (fun a ha => absurd ha (by omega))

