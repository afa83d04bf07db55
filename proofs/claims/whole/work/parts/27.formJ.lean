/-! ===== FormFinder: writeVertex, write, find ===== -/
def fsPre (I : SI) (J : SJ) (n : Nat) (T : Nat → Nat → Nat) (L : Nat → Nat → Nat → Nat) (g : Nat) (lk f : Nat → Nat) (d tk : Nat) (B : Nat → Nat) : Prop :=
  CV I n T L ∧ (∀ v, v < n → I 26 0 v = nI (lk v) ∧ lks n T L g v v (lk v)) ∧ tkn tk f d ∧ (∀ i, i < d → f i < n) ∧ (∀ i j, i < d → j < d → f i = f j → i = j) ∧ (∀ i, i < d → J 23 0 i = lN (Rq T L g f i)) ∧ (∀ w, w < n → tk.testBit w = false → J 22 d w = lN (rv T L g f d w)) ∧ ∀ i, i < n → J 9 g i = lN (B i) ∧ B i ≤ 2 ^ 40
def fPost (n : Nat) (T : Nat → Nat → Nat) (L : Nat → Nat → Nat → Nat) (g : Nat) (f : Nat → Nat) (d p : Nat) (B : Nat → Nat) (I : SI) (J : SJ) : Option Value → SI → SJ → Prop := fun v' I' J' =>
  ∃ (A R C D : Nat → Nat → Int64) (B' : Nat → Nat), v' = none ∧ I' = I ∧ J' = CH J A R C D ∧ (∀ r, r ≠ g → A r = J 9 r) ∧ (∀ r, r ≤ p → R r = J 22 r) ∧ (∀ i, i < d → C 0 i = J 23 0 i) ∧ (∀ r, r < d * 9 → D r = J 25 r) ∧ (∀ i, i < n → A g i = lN (B' i) ∧ B' i ≤ 2 ^ 40) ∧ MB n T L g f d B B'
theorem CV.s4 {I : SI} {n : Nat} {T : Nat → Nat → Nat} {L : Nat → Nat → Nat → Nat} (h : CV I n T L) {g : Nat} (hg : g < 2) : sm4 n T L g := ⟨fun _ hv => h.t4 hg hv, fun _ _ hu hv => h.l4 hg hu hv⟩
theorem rv_s {T : Nat → Nat → Nat} {L : Nat → Nat → Nat → Nat} {g d v : Nat} {f : Nat → Nat} (w : Nat) : rv T L g (va_up f d v) (d + 1) w = rv T L g f d w * 16 + pr L g w v := by
  show rv T L g (va_up f d v) d w * 16 + pr L g w (va_up f d v d) = _
  rw [va_up_self, rv_congr d w (f' := f) (fun i hi => va_up_ne _ _ (by omega))]
theorem Rq_s {T : Nat → Nat → Nat} {L : Nat → Nat → Nat → Nat} {g d v i : Nat} {f : Nat → Nat} (h : i < d) : Rq T L g (va_up f d v) i = Rq T L g f i := Rq_congr (fun j hj => va_up_ne _ _ (by omega))
theorem Rq_d {T : Nat → Nat → Nat} {L : Nat → Nat → Nat → Nat} {g d v : Nat} {f : Nat → Nat} : Rq T L g (va_up f d v) d = rv T L g f d v := by
  unfold Rq
  rw [va_up_self]
  exact rv_congr d v (fun i hi => va_up_ne _ _ (by omega))
theorem up_inj {d v : Nat} {f : Nat → Nat} (hi : ∀ i j, i < d → j < d → f i = f j → i = j) (hno : ∀ j, j < d → f j ≠ v) : ∀ i j, i < d + 1 → j < d + 1 → va_up f d v i = va_up f d v j → i = j := fun i j h1 h2 e => by
  by_cases a : i = d <;> by_cases b : j = d
  · omega
  · subst a; rw [va_up_self, va_up_ne _ _ b] at e; exact absurd e.symm (hno j (by omega))
  · subst b; rw [va_up_self, va_up_ne _ _ a] at e; exact absurd e (hno i (by omega))
  · rw [va_up_ne _ _ a, va_up_ne _ _ b] at e; exact hi i j (by omega) (by omega) e
theorem up_lt {n d v : Nat} {f : Nat → Nat} (hf : ∀ i, i < d → f i < n) (hv : v < n) : ∀ i, i < d + 1 → va_up f d v i < n := fun i h => by
  by_cases a : i = d
  · subst a; rw [va_up_self]; exact hv
  · rw [va_up_ne _ _ a]; exact hf i (by omega)
theorem tk_no {tk d v : Nat} {f : Nat → Nat} (h : tkn tk f d) (hv : tk.testBit v = false) : ∀ j, j < d → f j ≠ v := fun j hj e => by
  have := (h.2 v).mpr ⟨j, hj, e⟩
  rw [hv] at this
  exact absurd this (by decide)
set_option maxRecDepth 100000 in
set_option maxHeartbeats 4000000 in
theorem l_X0_writeVertex_39 {n : Nat} {T : Nat → Nat → Nat} {L : Nat → Nat → Nat → Nat} {g : Nat} {lk : Nat → Nat} {e : Nat} {X : Pk} {Z : Zk} {I : SI} {J : SJ} (hA : AJ Z.2.2.1) (C : Cx X cX0_writeVertex 7 RX0 Z (2 * e + 3) (40 * (2 * e + 3))) (hr : (xE X).sig.returnType = none) (hg : g < 2) (he : 0 < e) (hrec : ∀ e', e = e' + 1 → 0 < e' → (∀ (I : SI) (J : SJ) (f : Nat → Nat) (d tk : Nat) (B : Nat → Nat), d + e' = n → fsPre I J n T L g lk f d tk B → MX X.2.1 (Z.1, Z.2.1, Z.2.2.1) yX0_write cX0_write 7 none (2 * e' + 4) (40 * (2 * e' + 4)) [.ref (Z.2.2.1 20 0), .ref (Z.2.2.1 2 g), .int (nI d), .int (nI tk)] I J (fPost n T L g f d d B I J))) {f : Nat → Nat} {d tk v : Nat} {B : Nat → Nat} (hd : d + e = n) (hpre : fsPre I J n T L g lk f d tk B) (hvn : v < n) (hvt : tk.testBit v = false) (hwr : J 23 0 d = lN (rv T L g f d v)) (hpl : d + 1 = n → lx n (Rq T L g (va_up f d v)) B) (hdn : d + 1 < n) : ∀ k w R, n - w < k → w ≤ n → (∀ r, r ≤ d → R r = J 22 r) → (∀ a, a < w → (tk ||| 2 ^ v).testBit a = false → R (d + 1) a = lN (rv T L g (va_up f d v) (d + 1) a)) → G X 7 Z (QG X Z (fPost n T L g (va_up f d v) (d + 1) d B I J)) I (CH J (J 9) R (J 23) (J 25)) 39 [(0, .ref (Z.2.2.1 20 0)), (1, .ref (Z.2.2.1 2 g)), (2, .int (nI d)), (3, .int (nI tk)), (4, .int (nI v)), (5, .int (nI (tk ||| 2 ^ v))), (6, .int (nI w))] [] := by
  obtain ⟨hv, hlk, htk, hfn, hfi, hC, hR, hB⟩ := id hpre
  obtain ⟨⟨hn1, hn9⟩, -⟩ := id hv
  have h4 := hv.s4 hg
  have hno := tk_no htk hvt
  have htk9 : tk < 512 := htk.1
  have hor : tk ||| 2 ^ v < 2 ^ 9 := (htk.step (v := d) (show v < 9 by omega)).1
  intro k
  induction k with
  | zero => intro w R h; exact absurd h (by omega)
  | succ k ih =>
    intro w R hk hwn hR1 hR2
    have hdv : (tk ||| 2 ^ v) / 2 ^ w ≤ tk ||| 2 ^ v := Nat.div_le_self _ _
    refine g_ild C dX0_writeVertex_39 rfl ?_
    refine g_aldn C dX0_writeVertex_41 rfl ?_
    refine g_get C 2 g (by decide) (show g < 2 by omega) u1 rfl 0 rfl fX0_40 rfl rfl dX0_writeVertex_42 ?_
    refine g_top (y := (nI n)) (hv.sz hg) ?_
    refine n_icmp_ge (tgt := 85) C dX0_writeVertex_45 rfl (by omega) (by omega) (fun c45 => ?_) (fun c45 => ?_)
    · have hwn : w = n := by omega
      subst hwn
      obtain ⟨e', he'⟩ : ∃ e', e = e' + 1 := ⟨e - 1, by omega⟩
      have hpp : fsPre I (CH J (J 9) R (J 23) (J 25)) w T L g lk (va_up f d v) (d + 1) (tk ||| 2 ^ v) B := by
        refine ⟨hv, hlk, htk.step (by omega), up_lt hfn hvn, up_inj hfi hno, fun i hi => ?_, fun a ha hab => ?_, fun i hi => ?_⟩
        · rw [ch_23]
          rcases Nat.lt_or_eq_of_le (Nat.le_of_lt_succ hi) with q | q
          · rw [Rq_s q]; exact hC i q
          · subst q; rw [Rq_d]; exact hwr
        · rw [ch_22]; exact hR2 a ha hab
        · rw [ch_9]; exact hB i hi
      refine g_aldn C dX0_writeVertex_85 rfl ?_
      refine g_aldn C dX0_writeVertex_86 rfl ?_
      refine g_ildn C dX0_writeVertex_87 rfl ?_
      refine g_iconst C ((nI 1)) dX0_writeVertex_88 (by decide) ?_
      refine g_iadd (v := (nI (d + 1))) C dX0_writeVertex_89 (nI_add _ _) ?_
      refine g_ild C dX0_writeVertex_90 rfl ?_
      refine g_callV (As := [.ref (Z.2.2.1 2 g), .int (nI (d + 1)), .int (nI (tk ||| 2 ^ v))]) (st := []) C (hrec e' he' (by omega) I (CH J (J 9) R (J 23) (J 25)) (va_up f d v) (d + 1) (tk ||| 2 ^ v) B (by omega) hpp) wX0_write iX0_write sX0_write mX0_51 20 0 (by decide) (by decide) rfl rfl rfl rfl rfl rfl rfl (Bool.and_eq_true_iff.mpr ⟨Nat.ble_eq.mpr (by omega), Nat.ble_eq.mpr (by omega)⟩) dX0_writeVertex_92 ?_
      rintro v9 I9 J9 ⟨A3, R3, C3, D3, B3, h91, h92, h93, k1, k2, k3, k4, k5, k6⟩
      rw [h91, h92, h93, ch_ch]
      rw [ch_9] at k1; rw [ch_22] at k2; rw [ch_23] at k3; rw [ch_25] at k4
      clear h91 h92 h93 v9 I9 J9
      show G X _ Z _ I (CH J A3 R3 C3 D3) 95 [(0, .ref (Z.2.2.1 20 0)), (1, .ref (Z.2.2.1 2 g)), (2, .int (nI d)), (3, .int (nI tk)), (4, .int (nI v)), (5, .int (nI (tk ||| 2 ^ v))), (6, .int (nI w))] []
      exact g_return C hr dX0_writeVertex_95 ⟨A3, R3, C3, D3, B3, rfl, rfl, rfl, k1, fun r hr2 => (k2 r (by omega)).trans (hR1 r hr2), k3, k4, k5, k6⟩
    · refine g_ild C dX0_writeVertex_48 rfl ?_
      refine g_ild C dX0_writeVertex_50 rfl ?_
      refine g_ishr (v := (nI ((tk ||| 2 ^ v) / 2 ^ w))) C dX0_writeVertex_52 (shrI (by omega) (by omega)) ?_
      refine g_iconst C ((nI 1)) dX0_writeVertex_53 (by decide) ?_
      refine g_iand (v := (nI ((tk ||| 2 ^ v) / 2 ^ w % 2))) C dX0_writeVertex_54 (and1 _) ?_
      refine n_if_ne (tgt := 79) C dX0_writeVertex_55 rfl (by omega) (fun c55 => ?_) (fun c55 => ?_)
      · refine g_iinc (lv' := [(6, .int (nI (w + 1))), (0, .ref (Z.2.2.1 20 0)), (1, .ref (Z.2.2.1 2 g)), (2, .int (nI d)), (3, .int (nI tk)), (4, .int (nI v)), (5, .int (nI (tk ||| 2 ^ v)))]) C ((nI (w + 1))) dX0_writeVertex_79 rfl (inc1 _) rfl rfl ?_
        refine g_goto (tgt := 39) C dX0_writeVertex_82 rfl ?_
        refine g_lv [1, 2, 3, 4, 5, 6, 0] rfl ?_
        refine ih (w + 1) R (by omega) (by omega) hR1 (fun a ha hab => ?_)
        by_cases q : a = w
        · subst q; rw [bit_t (show (tk ||| 2 ^ v) / 2 ^ a % 2 = 1 by omega)] at hab; exact absurd hab (by decide)
        · exact hR2 a (by omega) hab
      · have hbf : (tk ||| 2 ^ v).testBit w = false := bit_f (by omega)
        have hwt : tk.testBit w = false := by rw [Nat.testBit_or] at hbf; cases hq : tk.testBit w with | false => rfl | true => rw [hq] at hbf; exact absurd hbf (by simp)
        refine g_aldn C dX0_writeVertex_58 rfl ?_
        refine g_get C 20 0 (by decide) (by decide) u0 rfl 0 rfl fX0_11 rfl rfl dX0_writeVertex_59 ?_
        refine g_ildn C dX0_writeVertex_62 rfl ?_
        refine g_iconst C ((nI 1)) dX0_writeVertex_63 (by decide) ?_
        refine g_iadd (v := (nI (d + 1))) C dX0_writeVertex_64 (nI_add _ _) ?_
        refine g_aald C 21 0 4 (by decide) (by decide) (fun _ _ => rfl) rfl rfl (d + 1) (show d + 1 < 9 by omega) rfl dX0_writeVertex_65 ?_
        refine g_ild C dX0_writeVertex_66 rfl ?_
        refine g_aldn C dX0_writeVertex_68 rfl ?_
        refine g_aldn C dX0_writeVertex_69 rfl ?_
        refine g_ildn C dX0_writeVertex_70 rfl ?_
        refine g_ild C dX0_writeVertex_71 rfl ?_
        refine g_ild C dX0_writeVertex_73 rfl ?_
        refine g_callV (As := [.ref (Z.2.2.1 2 g), .int (nI d), .int (nI w), .int (nI v)]) (st := [.int (nI w), .ref (Z.2.2.1 22 (d + 1))]) C (c_X0_longerRow hA hv hg (dp := d) (w := w) (v := v) (x := rv T L g f d w) (by omega) (show w < n by omega) hvn ((congrFun (congrFun (ch_22 _ _ _ _ _) d) w).trans ((congrFun (hR1 d (by omega)) w).trans (hR w (by omega) hwt))) (by have := rv_lt (f := f) h4 (show w < n by omega) d hfn; have := p16 (show d ≤ 8 by omega); omega)) wX0_longerRow iX0_longerRow sX0_longerRow mX0_84 20 0 (by decide) (by decide) rfl rfl rfl rfl rfl rfl rfl (Bool.and_eq_true_iff.mpr ⟨Nat.ble_eq.mpr (by omega), Nat.ble_eq.mpr (by omega)⟩) dX0_writeVertex_75 ?_
        rintro v9 I9 J9 ⟨h91, h92, h93⟩
        rw [h91, h92, h93]
        clear h91 h92 h93 v9 I9 J9
        show G X _ Z _ I (CH J (J 9) R (J 23) (J 25)) 78 [(0, .ref (Z.2.2.1 20 0)), (1, .ref (Z.2.2.1 2 g)), (2, .int (nI d)), (3, .int (nI tk)), (4, .int (nI v)), (5, .int (nI (tk ||| 2 ^ v))), (6, .int (nI w))] [.long (lN (rv T L g f d w * 16 + pr L g w v)), .int (nI w), .ref (Z.2.2.1 22 (d + 1))]
        refine g_last C 22 (d + 1) (by decide) (show d + 1 < 9 by omega) (fun _ _ => rfl) w (show w < 9 by omega) rfl dX0_writeVertex_78 ?_
        refine g_J (J1 := CH J (J 9) (up2 R (d + 1) w (lN (rv T L g f d w * 16 + pr L g w v))) (J 23) (J 25)) (by rw [ch_22, ch22]) ?_
        refine g_iinc (lv' := [(6, .int (nI (w + 1))), (0, .ref (Z.2.2.1 20 0)), (1, .ref (Z.2.2.1 2 g)), (2, .int (nI d)), (3, .int (nI tk)), (4, .int (nI v)), (5, .int (nI (tk ||| 2 ^ v)))]) C ((nI (w + 1))) dX0_writeVertex_79 rfl (inc1 _) rfl rfl ?_
        refine g_goto (tgt := 39) C dX0_writeVertex_82 rfl ?_
        refine g_lv [1, 2, 3, 4, 5, 6, 0] rfl ?_
        refine ih (w + 1) _ (by omega) (by omega) (fun r hr2 => by rw [up2_row (by omega)]; exact hR1 r hr2) (fun a ha hab => ?_)
        by_cases q : a = w
        · subst q; rw [up2_self, rv_s]
        · rw [up2_ne q]; exact hR2 a (by omega) hab

theorem fin27 {I : SI} {J : SJ} {n : Nat} {T : Nat → Nat → Nat} {L : Nat → Nat → Nat → Nat} {g d v : Nat} {f B : Nat → Nat} (hvn : v < n) (hd : d + 1 = n) (hn9 : n ≤ 9) (h4 : sm4 n T L g) (hfn : ∀ i, i < d → f i < n) (hfi : ∀ i j, i < d → j < d → f i = f j → i = j) (hno : ∀ j, j < d → f j ≠ v) (hC : ∀ i, i < d → J 23 0 i = lN (Rq T L g f i)) (hwr : J 23 0 d = lN (rv T L g f d v)) (hB : ∀ i, i < n → J 9 g i = lN (B i) ∧ B i ≤ 2 ^ 40) (hlx : lx n (Rq T L g (va_up f d v)) B) : fPost n T L g (va_up f d v) (d + 1) d B I J none I (CH J (va_up (J 9) g (va_cpy (J 23 0) (J 9 g) 0 0 n)) (J 22) (J 23) (J 25)) := by
  have hnm : nmg n (va_up f d v) := ⟨fun i hi => up_lt hfn hvn i (by omega), fun i j hi hj => up_inj hfi hno i j (by omega) (by omega)⟩
  refine ⟨_, _, _, _, Rq T L g (va_up f d v), rfl, rfl, rfl, fun r hr => va_up_ne _ _ hr, fun _ _ => rfl, fun _ _ => rfl, fun _ _ => rfl, fun i hi => ⟨?_, ?_⟩, Or.inl hlx, fun f' h1 h2 => Or.inr (fun i hi => Rq_congr (fun j hj => (h2 j (by omega)).symm)), Or.inr ⟨va_up f d v, hnm, fun _ _ => rfl, fun _ _ => rfl⟩⟩
  · rw [va_up_self, pk_cpy_in (by omega) (by omega), show 0 + (i - 0) = i by omega]
    by_cases q : i < d
    · rw [Rq_s q]; exact hC i q
    · have q2 : i = d := by omega
      subst q2
      rw [Rq_d]
      exact hwr
  · have := rv_lt (f := va_up f d v) h4 (hnm.1 i hi) i (fun j hj => hnm.1 j (by omega))
    have := p16 (show i ≤ 8 by omega)
    have e40 : (2 : Nat) ^ 40 = 1099511627776 := by decide
    unfold Rq
    omega
set_option maxRecDepth 100000 in
set_option maxHeartbeats 4000000 in
/-- writeVertex, over write one level deeper -/
theorem c_X0_writeVertex_s {l : Launch} {Y : Yk} (hA : AJ Y.2.2) {I : SI} {J : SJ} {n : Nat} {T : Nat → Nat → Nat} {L : Nat → Nat → Nat → Nat} {g : Nat} {lk : Nat → Nat} (hg : g < 2) {e : Nat} (he : 0 < e) (hrec : ∀ e', e = e' + 1 → 0 < e' → (∀ (I : SI) (J : SJ) (f : Nat → Nat) (d tk : Nat) (B : Nat → Nat), d + e' = n → fsPre I J n T L g lk f d tk B → MX l Y yX0_write cX0_write 7 none (2 * e' + 4) (40 * (2 * e' + 4)) [.ref (Y.2.2 20 0), .ref (Y.2.2 2 g), .int (nI d), .int (nI tk)] I J (fPost n T L g f d d B I J))) {f : Nat → Nat} {d tk v : Nat} {B : Nat → Nat} (hd : d + e = n) (hpre : fsPre I J n T L g lk f d tk B) (hvn : v < n) (hvt : tk.testBit v = false) (hwr : J 23 0 d = lN (rv T L g f d v)) (hpl : d + 1 = n → lx n (Rq T L g (va_up f d v)) B)  : MX l Y yX0_writeVertex cX0_writeVertex 7 (none) (2 * e + 3) (40 * (2 * e + 3)) [.ref (Y.2.2 20 0), .ref (Y.2.2 2 g), .int (nI d), .int (nI tk), .int (nI v)] I J (fPost n T L g (va_up f d v) (d + 1) d B I J) := by
  refine MX.of hA (by decide) (own := RX0) rfl rfl rfl ?_
  intro X Z hl hY1 hY2 hY3 C hr
  obtain ⟨D0, ca0, ad0⟩ := Y
  dsimp only at hA hY1 hY2 hY3
  subst hY1; subst hY2; subst hY3; subst hl
  show G X 7 Z (QG X Z _) I J 0 [(0, .ref (Z.2.2.1 20 0)), (1, .ref (Z.2.2.1 2 g)), (2, .int (nI d)), (3, .int (nI tk)), (4, .int (nI v))] []
  obtain ⟨hv, hlk, htk, hfn, hfi, hC, hR, hB⟩ := id hpre
  obtain ⟨⟨hn1, hn9⟩, -⟩ := id hv
  have h4 := hv.s4 hg
  have hno := tk_no htk hvt
  have htk9 : tk < 512 := htk.1
  refine g_ildn C dX0_writeVertex_0 rfl ?_
  refine g_aldn C dX0_writeVertex_1 rfl ?_
  refine g_get C 2 g (by decide) (show g < 2 by omega) u1 rfl 0 rfl fX0_40 rfl rfl dX0_writeVertex_2 ?_
  refine g_top (y := (nI n)) (hv.sz hg) ?_
  refine g_iconst C ((nI 1)) dX0_writeVertex_5 (by decide) ?_
  refine g_isub (v := (nI (n - 1))) C dX0_writeVertex_6 (pk_sub (by omega)) ?_
  refine n_icmp_ne (tgt := 28) C dX0_writeVertex_7 rfl (by omega) (by omega) (fun c7 => ?_) (fun c7 => ?_)
  · refine g_ildn C dX0_writeVertex_28 rfl ?_
    refine g_iconst C ((nI 1)) dX0_writeVertex_29 (by decide) ?_
    refine g_ild C dX0_writeVertex_30 rfl ?_
    refine g_ishl (v := (nI (2 ^ v))) C dX0_writeVertex_32 (shl1 v (by omega)) ?_
    refine g_ior (v := (nI (tk ||| 2 ^ v))) C dX0_writeVertex_33 (orI _ _) ?_
    refine g_ist (lv' := [(5, .int (nI (tk ||| 2 ^ v))), (0, .ref (Z.2.2.1 20 0)), (1, .ref (Z.2.2.1 2 g)), (2, .int (nI d)), (3, .int (nI tk)), (4, .int (nI v))]) C dX0_writeVertex_34 rfl rfl ?_
    refine g_iconst C ((nI 0)) dX0_writeVertex_36 (by decide) ?_
    refine g_ist (lv' := [(6, .int (nI 0)), (5, .int (nI (tk ||| 2 ^ v))), (0, .ref (Z.2.2.1 20 0)), (1, .ref (Z.2.2.1 2 g)), (2, .int (nI d)), (3, .int (nI tk)), (4, .int (nI v))]) C dX0_writeVertex_37 rfl rfl ?_
    refine g_J (J1 := CH J (J 9) (J 22) (J 23) (J 25)) (ch_id J).symm ?_
    refine g_lv [2, 3, 4, 5, 6, 1, 0] rfl ?_
    exact l_X0_writeVertex_39 hA C hr hg he hrec hd hpre hvn hvt hwr hpl (by omega) (n + 1) 0 (J 22) (by omega) (by omega) (fun _ _ => rfl) (fun a ha => absurd ha (by omega))
  · have hd27 : d + 1 = n := by omega
    refine g_aldn C dX0_writeVertex_10 rfl ?_
    refine g_get C 20 0 (by decide) (by decide) u0 rfl 1 rfl fX0_16 rfl rfl dX0_writeVertex_11 ?_
    refine g_iconst C ((nI 0)) dX0_writeVertex_14 (by decide) ?_
    refine g_aldn C dX0_writeVertex_15 rfl ?_
    refine g_get C 2 g (by decide) (show g < 2 by omega) u1 rfl 7 rfl fX0_27 rfl rfl dX0_writeVertex_16 ?_
    refine g_iconst C ((nI 0)) dX0_writeVertex_19 (by decide) ?_
    refine g_aldn C dX0_writeVertex_20 rfl ?_
    refine g_get C 2 g (by decide) (show g < 2 by omega) u1 rfl 0 rfl fX0_40 rfl rfl dX0_writeVertex_21 ?_
    refine g_top (y := (nI n)) (hv.sz hg) ?_
    refine g_copyl C mX0_78 23 0 9 g (by decide) (by decide) (by decide) (show g < 2 by omega) (fun _ _ => rfl) (fun _ _ => rfl) 0 0 n (by omega) (by omega) rfl rfl (Nat.ble_eq.mpr (by omega)) (Nat.ble_eq.mpr (by show 0 + (7 + 11) ≤ _; omega)) dX0_writeVertex_24 ?_
    refine g_J (J1 := CH J (va_up (J 9) g (va_cpy (J 23 0) (J 9 g) 0 0 n)) (J 22) (J 23) (J 25)) (by conv => rhs; rw [← ch9 J (J 9) (J 22) (J 23) (J 25) (va_up (J 9) g (va_cpy (J 23 0) (J 9 g) 0 0 n)), ch_id]) ?_
    exact g_return C hr dX0_writeVertex_27 (fin27 hvn hd27 hn9 h4 hfn hfi hno hC hwr hB (hpl hd27))

