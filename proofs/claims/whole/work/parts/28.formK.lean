/-! ===== FormFinder: write, find ===== -/
theorem ch_23i (J : SJ) (C' : Nat → Nat → Int64) : sK J 23 C' = CH J (J 9) (J 22) C' (J 25) := by
  conv => lhs; rw [← ch_id J]
  rw [ch23]
theorem bvals {J0 : SJ} {n : Nat} {T : Nat → Nat → Nat} {L : Nat → Nat → Nat → Nat} {g d tk v le : Nat} {f s : Nat → Nat} {D : Nat → Nat → Int64} (hC : ∀ i, i < d → J0 23 0 i = lN (Rq T L g f i)) (hC2 : J0 23 0 d = lN le) (hD : bD J0 d (d * 9 + v) D) (hS : ∀ j, j < ct (sel tk v) n → D (d * 9 + v) (d + 1 + j) = lN (s j * 16 ^ j)) (hm : ct (sel tk v) n + (d + 1) = n) : ∀ i, i < n → D (d * 9 + v) i = lN ((fun i => if i < d then Rq T L g f i else if i = d then le else s (i - (d + 1)) * 16 ^ (i - (d + 1))) i) := fun i hi => by
  show D (d * 9 + v) i = lN (if i < d then Rq T L g f i else if i = d then le else s (i - (d + 1)) * 16 ^ (i - (d + 1)))
  by_cases q : i < d
  · rw [if_pos q, hD.2 i (by omega)]; exact hC i q
  · by_cases q2 : i = d
    · subst q2
      rw [if_neg q, if_pos rfl, hD.2 i (Nat.le_refl i)]; exact hC2
    · rw [if_neg q, if_neg q2]
      have := hS (i - (d + 1)) (by omega)
      rw [show d + 1 + (i - (d + 1)) = i by omega] at this
      exact this
theorem ct_wo {op l n : Nat} (hl : l < n) (h : op.testBit l = true) : ct (fun u => (wo op (2 ^ l)).testBit u) n + 1 = ct (fun u => op.testBit u) n := by
  have h1 := ct_upd (p := fun u => (wo op (2 ^ l)).testBit u) (q := fun u => op.testBit u) (k := l) (fun i hi => by
    show (wo op (2 ^ l)).testBit i = op.testBit i
    rw [wo_bit, Nat.testBit_two_pow, decide_eq_false (Ne.symm hi)]
    simp) n hl
  have h2 : (wo op (2 ^ l)).testBit l = false := by rw [wo_bit, Nat.testBit_two_pow, decide_eq_true rfl]; simp
  simp only [h, h2] at h1
  simpa using h1
theorem wo_sub {op l u : Nat} (h : (wo op (2 ^ l)).testBit u = true) : op.testBit u = true := by
  rw [wo_bit] at h
  exact (Bool.and_eq_true_iff.mp h).1
set_option maxRecDepth 100000 in
set_option maxHeartbeats 4000000 in
theorem l_X0_write_59 {n : Nat} {T : Nat → Nat → Nat} {L : Nat → Nat → Nat → Nat} {g : Nat} {lk : Nat → Nat} {e : Nat} {X : Pk} {Z : Zk} {I : SI} {J : SJ} (hA : AJ Z.2.2.1) (C0 : Cx X cX0_write 7 RX0 Z (2 * e + 4) (40 * (2 * e + 4))) (hr : (xE X).sig.returnType = none) (hg : g < 2) (he : 0 < e) (hrec : (∀ (I : SI) (J : SJ) (f : Nat → Nat) (d tk v : Nat) (B : Nat → Nat), d + e = n → fsPre I J n T L g lk f d tk B → v < n → tk.testBit v = false → J 23 0 d = lN (rv T L g f d v) → (d + 1 = n → lx n (Rq T L g (va_up f d v)) B) → MX X.2.1 (Z.1, Z.2.1, Z.2.2.1) yX0_writeVertex cX0_writeVertex 7 none (2 * e + 3) (40 * (2 * e + 3)) [.ref (Z.2.2.1 20 0), .ref (Z.2.2.1 2 g), .int (nI d), .int (nI tk), .int (nI v)] I J (fPost n T L g (va_up f d v) (d + 1) d B I J))) {f : Nat → Nat} {d tk : Nat} {B : Nat → Nat} (hd : d + e = n) (hpre : fsPre I J n T L g lk f d tk B) {fd le : Nat} (hcn : cnd tk lk (rv T L g f d) n fd le) {b : Nat → Nat → Nat} (hbn : ∀ u, u < n → fd.testBit u = true → bnd n T L g f d u (b u)) : ∀ k t op (A R C D : Nat → Nat → Int64) (B1 : Nat → Nat), n - t < k → (∀ r, r ≠ g → A r = J 9 r) → (∀ r, r ≤ d → R r = J 22 r) → (∀ i, i < d → C 0 i = J 23 0 i) → C 0 d = lN le → (∀ r, r < d * 9 → D r = J 25 r) → (∀ u, u < n → fd.testBit u = true → ∀ i, i < n → D (d * 9 + u) i = lN (b u i)) → (∀ i, i < n → A g i = lN (B1 i) ∧ B1 i ≤ 2 ^ 40) → (∀ u, op.testBit u = true → fd.testBit u = true) → op < 2 ^ 9 → ct (fun u => op.testBit u) n + t ≤ n → WI n T L g f d fd op B B1 → G X 7 Z (QG X Z (fPost n T L g f d d B I J)) I (CH J A R C D) 59 [(0, .ref (Z.2.2.1 20 0)), (1, .ref (Z.2.2.1 2 g)), (2, .int (nI d)), (3, .int (nI tk)), (4, .int (nI op)), (5, .int (nI t))] [] := by
  obtain ⟨hv, hlk, htk, hfn, hfi, hC, hR, hB⟩ := id hpre
  obtain ⟨⟨hn1, hn9⟩, -⟩ := id hv
  have h4 := hv.s4 hg
  have htk9 : tk < 512 := htk.1
  intro k
  induction k with
  | zero => intro t op A R C D B1 h; exact absurd h (by omega)
  | succ k ih =>
    intro t op A R C D B1 hk hA1 hR1 hC1 hC2 hD1 hD2 hB1 hop hop9 hct hW
    refine g_ild C0 dX0_write_59 rfl ?_
    refine g_aldn C0 dX0_write_61 rfl ?_
    refine g_get C0 2 g (by decide) (show g < 2 by omega) u1 rfl 0 rfl fX0_40 rfl rfl dX0_write_62 ?_
    refine g_top (y := (nI n)) (hv.sz hg) ?_
    refine n_icmp_ge (tgt := 124) C0 dX0_write_65 rfl (by omega) (by omega) (fun c65 => ?_) (fun c65 => ?_)
    · exact g_return C0 hr dX0_write_124 ⟨A, R, C, D, B1, rfl, rfl, rfl, hA1, hR1, hC1, hD1, hB1, hW.fin hn9 (by omega) h4 hfn htk.2 (fun a ha => (hlk a ha).2) hcn (fun f' h1 h2 h3 => absurd (ct_in (p := fun u => op.testBit u) (h1.1 d (by omega)) h3) (by omega))⟩
    · refine g_aldn C0 dX0_write_68 rfl ?_
      refine g_aldn C0 dX0_write_69 rfl ?_
      refine g_get C0 2 g (by decide) (show g < 2 by omega) u1 rfl 0 rfl fX0_40 rfl rfl dX0_write_70 ?_
      refine g_top (y := (nI n)) (hv.sz hg) ?_
      refine g_ildn C0 dX0_write_73 rfl ?_
      refine g_ild C0 dX0_write_74 rfl ?_
      refine g_callV (As := [.int (nI n), .int (nI d), .int (nI op)]) (st := []) C0 (c_X0_leastBounded hA hn9 (dp := d) (by omega) (op := op) hop9 (b := b) (fun a ha hb i hi => ⟨by rw [ch_25]; exact hD2 a ha (hop a hb) i hi, (hbn a ha (hop a hb)).1 i hi⟩)) wX0_leastBounded iX0_leastBounded sX0_leastBounded mX0_67 20 0 (by decide) (by decide) rfl rfl rfl rfl rfl rfl rfl (Bool.and_eq_true_iff.mpr ⟨Nat.ble_eq.mpr (by omega), Nat.ble_eq.mpr (by omega)⟩) dX0_write_76 ?_
      rintro v9 I9 J9 ⟨⟨z, h91, hz⟩, h92, h93⟩
      rw [h91, h92, h93]
      clear h91 h92 h93 v9 I9 J9
      show G X _ Z _ I (CH J A R C D) 79 [(0, .ref (Z.2.2.1 20 0)), (1, .ref (Z.2.2.1 2 g)), (2, .int (nI d)), (3, .int (nI tk)), (4, .int (nI op)), (5, .int (nI t))] [.int z]
      refine g_ist (lv' := [(6, .int z), (0, .ref (Z.2.2.1 20 0)), (1, .ref (Z.2.2.1 2 g)), (2, .int (nI d)), (3, .int (nI tk)), (4, .int (nI op)), (5, .int (nI t))]) C0 dX0_write_79 rfl rfl ?_
      rcases hz with ⟨rfl, hno⟩ | ⟨l, rfl, h1, h2, h3⟩
      · refine g_ild C0 dX0_write_81 rfl ?_
        refine g_if_lt (tgt := 97) C0 dX0_write_83 rfl (fun c83 => ?_) (fun c83 => absurd (by decide) c83)
        · exact g_return C0 hr dX0_write_97 ⟨A, R, C, D, B1, rfl, rfl, rfl, hA1, hR1, hC1, hD1, hB1, hW.fin hn9 (by omega) h4 hfn htk.2 (fun a ha => (hlk a ha).2) hcn (fun f' h1 h2 h3 => absurd h3 (by rw [hno _ (h1.1 d (by omega))]; decide))⟩
      · have hfl := hop l h2
        obtain ⟨-, hol, hrl⟩ := (hcn.2.2.1 l).mp hfl
        have hbl := hbn l h1 hfl
        refine g_ild C0 dX0_write_81 rfl ?_
        refine n_if_lt (tgt := 97) C0 dX0_write_83 rfl (by omega) (fun c83 => absurd c83 (by omega)) (fun c83 => ?_)
        · refine g_aldn C0 dX0_write_86 rfl ?_
          refine g_aldn C0 dX0_write_87 rfl ?_
          refine g_ildn C0 dX0_write_88 rfl ?_
          refine g_ild C0 dX0_write_89 rfl ?_
          refine g_callV (As := [.ref (Z.2.2.1 2 g), .int (nI d), .int (nI l)]) (st := []) C0 (c_X0_promisesLess hA hv hg (dp := d) (v := l) (by omega) h1 (A := b l) (B := B1) (fun i hi => ⟨by rw [ch_25]; exact hD2 l h1 hfl i hi, hbl.1 i hi⟩) (fun i hi => ⟨by rw [ch_9]; exact (hB1 i hi).1, by have := (hB1 i hi).2; omega⟩)) wX0_promisesLess iX0_promisesLess sX0_promisesLess mX0_71 20 0 (by decide) (by decide) rfl rfl rfl rfl rfl rfl rfl (Bool.and_eq_true_iff.mpr ⟨Nat.ble_eq.mpr (by omega), Nat.ble_eq.mpr (by omega)⟩) dX0_write_91 ?_
          rintro v9 I9 J9 ⟨⟨q, h91, hq⟩, h92, h93⟩
          rw [h91, h92, h93]
          clear h91 h92 h93 v9 I9 J9
          show G X _ Z _ I (CH J A R C D) 94 [(6, .int (nI l)), (0, .ref (Z.2.2.1 20 0)), (1, .ref (Z.2.2.1 2 g)), (2, .int (nI d)), (3, .int (nI tk)), (4, .int (nI op)), (5, .int (nI t))] [.int (bI q)]
          refine b_if_ne (tgt := 98) C0 dX0_write_94 rfl (fun c94 => ?_) (fun c94 => ?_)
          · refine g_ild C0 dX0_write_98 rfl ?_
            refine g_iconst C0 ((nI 1)) dX0_write_100 (by decide) ?_
            refine g_ild C0 dX0_write_101 rfl ?_
            refine g_ishl (v := (nI (2 ^ l))) C0 dX0_write_103 (shl1 l (by omega)) ?_
            refine g_iconst C0 ((-1)) dX0_write_104 (by decide) ?_
            refine g_ixor (v := (nI (2 ^ l) ^^^ (-1))) C0 dX0_write_105 rfl ?_
            refine g_iand (v := (nI (wo op (2 ^ l)))) C0 dX0_write_106 (notI _ _) ?_
            refine g_ist (lv' := [(4, .int (nI (wo op (2 ^ l)))), (6, .int (nI l)), (0, .ref (Z.2.2.1 20 0)), (1, .ref (Z.2.2.1 2 g)), (2, .int (nI d)), (3, .int (nI tk)), (5, .int (nI t))]) C0 dX0_write_107 rfl rfl ?_
            refine g_aldn C0 dX0_write_109 rfl ?_
            refine g_aldn C0 dX0_write_110 rfl ?_
            refine g_ildn C0 dX0_write_111 rfl ?_
            refine g_ildn C0 dX0_write_112 rfl ?_
            refine g_ild C0 dX0_write_113 rfl ?_
            refine g_callV (As := [.ref (Z.2.2.1 2 g), .int (nI d), .int (nI tk), .int (nI l)]) (st := []) C0 (hrec I (CH J A R C D) f d tk l B1 hd ⟨hv, hlk, htk, hfn, hfi, fun i hi => by rw [ch_23, hC1 i hi]; exact hC i hi, fun a ha hb => by rw [ch_22, hR1 d (Nat.le_refl d)]; exact hR a ha hb, fun i hi => by rw [ch_9]; exact hB1 i hi⟩ h1 hol.1 (by rw [ch_23, hC2, hrl]) (fun q1 => lx_l (hq.mp c94) (hbl.2.2 q1))) wX0_writeVertex iX0_writeVertex sX0_writeVertex mX0_75 20 0 (by decide) (by decide) rfl rfl rfl rfl rfl rfl rfl (Bool.and_eq_true_iff.mpr ⟨Nat.ble_eq.mpr (by omega), Nat.ble_eq.mpr (by omega)⟩) dX0_write_115 ?_
            rintro v9 I9 J9 ⟨A3, R3, C3, D3, B3, h91, h92, h93, k1, k2, k3, k4, k5, k6⟩
            rw [h91, h92, h93, ch_ch]
            rw [ch_9] at k1; rw [ch_22] at k2; rw [ch_23] at k3; rw [ch_25] at k4
            clear h91 h92 h93 v9 I9 J9
            show G X _ Z _ I (CH J A3 R3 C3 D3) 118 [(4, .int (nI (wo op (2 ^ l)))), (6, .int (nI l)), (0, .ref (Z.2.2.1 20 0)), (1, .ref (Z.2.2.1 2 g)), (2, .int (nI d)), (3, .int (nI tk)), (5, .int (nI t))] []
            refine g_iinc (lv' := [(5, .int (nI (t + 1))), (4, .int (nI (wo op (2 ^ l)))), (6, .int (nI l)), (0, .ref (Z.2.2.1 20 0)), (1, .ref (Z.2.2.1 2 g)), (2, .int (nI d)), (3, .int (nI tk))]) C0 ((nI (t + 1))) dX0_write_118 rfl (inc1 _) rfl rfl ?_
            refine g_goto (tgt := 59) C0 dX0_write_121 rfl ?_
            refine g_lv [3, 4, 5, 6, 1, 0] rfl ?_
            exact ih (t + 1) (wo op (2 ^ l)) A3 R3 C3 D3 B3 (by omega) (fun r h => (k1 r h).trans (hA1 r h)) (fun r h => (k2 r h).trans (hR1 r h)) (fun i h => (k3 i (by omega)).trans (hC1 i h)) ((k3 d (by omega)).trans hC2) (fun r h => (k4 r (by omega)).trans (hD1 r h)) (fun u hu hb i hi => by rw [k4 (d * 9 + u) (by omega)]; exact hD2 u hu hb i hi) k5 (fun u hu => hop u (wo_sub hu)) (wo_lt hop9) (by have := ct_wo h1 h2; omega) (hW.step k6)
          · exact g_return C0 hr dX0_write_97 ⟨A, R, C, D, B1, rfl, rfl, rfl, hA1, hR1, hC1, hD1, hB1, hW.fin hn9 (by omega) h4 hfn htk.2 (fun a ha => (hlk a ha).2) hcn (fun f' g1 g2 g3 => lxe_tr (lxe_of (fun q2 => absurd (hq.mpr q2) (by rw [c94]; decide))) (lxe_tr (lxe_of (h3 _ (g1.1 d (by omega)) g3)) ((hbn _ (g1.1 d (by omega)) (hop _ g3)).2.1 f' g1 g2 rfl)))⟩

set_option maxRecDepth 100000 in
set_option maxHeartbeats 4000000 in
theorem l_X0_write_21 {n : Nat} {T : Nat → Nat → Nat} {L : Nat → Nat → Nat → Nat} {g : Nat} {lk : Nat → Nat} {e : Nat} {X : Pk} {Z : Zk} {I : SI} {J : SJ} (hA : AJ Z.2.2.1) (C0 : Cx X cX0_write 7 RX0 Z (2 * e + 4) (40 * (2 * e + 4))) (hr : (xE X).sig.returnType = none) (hg : g < 2) (he : 0 < e) (hrec : (∀ (I : SI) (J : SJ) (f : Nat → Nat) (d tk v : Nat) (B : Nat → Nat), d + e = n → fsPre I J n T L g lk f d tk B → v < n → tk.testBit v = false → J 23 0 d = lN (rv T L g f d v) → (d + 1 = n → lx n (Rq T L g (va_up f d v)) B) → MX X.2.1 (Z.1, Z.2.1, Z.2.2.1) yX0_writeVertex cX0_writeVertex 7 none (2 * e + 3) (40 * (2 * e + 3)) [.ref (Z.2.2.1 20 0), .ref (Z.2.2.1 2 g), .int (nI d), .int (nI tk), .int (nI v)] I J (fPost n T L g (va_up f d v) (d + 1) d B I J))) {f : Nat → Nat} {d tk : Nat} {B : Nat → Nat} (hd : d + e = n) (hpre : fsPre I J n T L g lk f d tk B) {fd le : Nat} (hcn : cnd tk lk (rv T L g f d) n fd le) : ∀ k v (D : Nat → Nat → Int64) (b : Nat → Nat → Nat), n - v < k → v ≤ n → (∀ r, r < d * 9 → D r = J 25 r) → (∀ u, u < v → fd.testBit u = true → bnd n T L g f d u (b u) ∧ ∀ i, i < n → D (d * 9 + u) i = lN (b u i)) → G X 7 Z (QG X Z (fPost n T L g f d d B I J)) I (CH J (J 9) (J 22) (up2 (J 23) 0 d (lN le)) D) 21 [(0, .ref (Z.2.2.1 20 0)), (1, .ref (Z.2.2.1 2 g)), (2, .int (nI d)), (3, .int (nI tk)), (4, .int (nI fd)), (5, .int (nI v))] [] := by
  obtain ⟨hv, hlk, htk, hfn, hfi, hC, hR, hB⟩ := id hpre
  obtain ⟨⟨hn1, hn9⟩, -⟩ := id hv
  have h4 := hv.s4 hg
  have htk9 : tk < 512 := htk.1
  have hfd9 := hcn.1
  intro k
  induction k with
  | zero => intro v D b h; exact absurd h (by omega)
  | succ k ih =>
    intro v D b hk hvn hD1 hD2
    have hdv : fd / 2 ^ v ≤ fd := Nat.div_le_self _ _
    refine g_ild C0 dX0_write_21 rfl ?_
    refine g_aldn C0 dX0_write_23 rfl ?_
    refine g_get C0 2 g (by decide) (show g < 2 by omega) u1 rfl 0 rfl fX0_40 rfl rfl dX0_write_24 ?_
    refine g_top (y := (nI n)) (hv.sz hg) ?_
    refine n_icmp_ge (tgt := 56) C0 dX0_write_27 rfl (by omega) (by omega) (fun c27 => ?_) (fun c27 => ?_)
    · have hvn : v = n := by omega
      refine g_iconst C0 ((nI 0)) dX0_write_56 (by decide) ?_
      refine g_ist (lv' := [(5, .int (nI 0)), (0, .ref (Z.2.2.1 20 0)), (1, .ref (Z.2.2.1 2 g)), (2, .int (nI d)), (3, .int (nI tk)), (4, .int (nI fd))]) C0 dX0_write_57 rfl rfl ?_
      refine g_lv [1, 2, 3, 4, 5, 0] rfl ?_
      exact l_X0_write_59 hA C0 hr hg he hrec hd hpre hcn (b := b) (fun u hu hb => (hD2 u (by omega) hb).1) (n + 1) 0 fd (J 9) (J 22) (up2 (J 23) 0 d (lN le)) D B (by omega) (fun _ _ => rfl) (fun _ _ => rfl) (fun i hi => by rw [up2_ne (by omega)]) up2_self hD1 (fun u hu hb => (hD2 u (by omega) hb).2) hB (fun _ h => h) hcn.1 (by have := ct_le (fun u => fd.testBit u) n; omega) ⟨lxe_rf _ _, fun f' _ _ h3 h4 => absurd h3 (by rw [h4]; decide), Or.inl (fun _ _ => rfl)⟩
    · refine g_ild C0 dX0_write_30 rfl ?_
      refine g_ild C0 dX0_write_32 rfl ?_
      refine g_ishr (v := (nI (fd / 2 ^ v))) C0 dX0_write_34 (shrI (by omega) (by omega)) ?_
      refine g_iconst C0 ((nI 1)) dX0_write_35 (by decide) ?_
      refine g_iand (v := (nI (fd / 2 ^ v % 2))) C0 dX0_write_36 (and1 _) ?_
      refine g_iconst C0 ((nI 1)) dX0_write_37 (by decide) ?_
      refine n_icmp_ne (tgt := 50) C0 dX0_write_38 rfl (by omega) (by omega) (fun c38 => ?_) (fun c38 => ?_)
      · refine g_iinc (lv' := [(5, .int (nI (v + 1))), (0, .ref (Z.2.2.1 20 0)), (1, .ref (Z.2.2.1 2 g)), (2, .int (nI d)), (3, .int (nI tk)), (4, .int (nI fd))]) C0 ((nI (v + 1))) dX0_write_50 rfl (inc1 _) rfl rfl ?_
        refine g_goto (tgt := 21) C0 dX0_write_53 rfl ?_
        refine g_lv [1, 2, 3, 4, 5, 0] rfl ?_
        exact ih (v + 1) D b (by omega) (by omega) hD1 (fun u hu hb => by rcases Nat.lt_or_eq_of_le (Nat.le_of_lt_succ hu) with q | q; exact hD2 u q hb; subst q; exact absurd hb (by rw [bit_f c38]; decide))
      · have hfv : fd.testBit v = true := bit_t c38
        obtain ⟨-, hov, hrv⟩ := (hcn.2.2.1 v).mp hfv
        have hcs := sel_ct hfn hfi htk.2 (show v < n by omega) hov.1
        have hyy : ∀ a, a < n → tk.testBit a = false → rv T L g f d a * 16 + pr L g a v < 4 * 16 ^ (d + 1) := fun a ha _ => by rw [← rv_s (f := f) (d := d) (v := v) a]; exact rv_lt h4 ha (d + 1) (up_lt hfn (by omega))
        have hYB : 4 * 16 ^ (d + 1) ≤ 2 ^ 40 := by rw [Nat.pow_succ]; have := p16 (show d ≤ 8 by omega); omega
        refine g_aldn C0 dX0_write_41 rfl ?_
        refine g_aldn C0 dX0_write_42 rfl ?_
        refine g_ildn C0 dX0_write_43 rfl ?_
        refine g_ildn C0 dX0_write_44 rfl ?_
        refine g_ild C0 dX0_write_45 rfl ?_
        refine g_callV (As := [.ref (Z.2.2.1 2 g), .int (nI d), .int (nI tk), .int (nI v)]) (st := []) C0 (c_X0_bound hA hv hg (dp := d) (tk := tk) (v := v) (by omega) htk.1 (show v < n by omega) (r := rv T L g f d) (fun a ha hb => by rw [ch_22]; exact hR a ha hb) (YB := 4 * 16 ^ (d + 1)) hYB hyy (by omega)) wX0_bound iX0_bound sX0_bound mX0_63 20 0 (by decide) (by decide) rfl rfl rfl rfl rfl rfl rfl (Bool.and_eq_true_iff.mpr ⟨Nat.ble_eq.mpr (by omega), Nat.ble_eq.mpr (by omega)⟩) dX0_write_47 ?_
        rintro v9 I9 J9 ⟨D3, s, h91, h92, h93, k1, k2, k3⟩
        rw [h91, h92, h93, ch25]
        clear h91 h92 h93 v9 I9 J9
        show G X _ Z _ I (CH J (J 9) (J 22) (up2 (J 23) 0 d (lN le)) D3) 50 [(0, .ref (Z.2.2.1 20 0)), (1, .ref (Z.2.2.1 2 g)), (2, .int (nI d)), (3, .int (nI tk)), (4, .int (nI fd)), (5, .int (nI v))] []
        refine g_iinc (lv' := [(5, .int (nI (v + 1))), (0, .ref (Z.2.2.1 20 0)), (1, .ref (Z.2.2.1 2 g)), (2, .int (nI d)), (3, .int (nI tk)), (4, .int (nI fd))]) C0 ((nI (v + 1))) dX0_write_50 rfl (inc1 _) rfl rfl ?_
        refine g_goto (tgt := 21) C0 dX0_write_53 rfl ?_
        refine g_lv [1, 2, 3, 4, 5, 0] rfl ?_
        refine ih (v + 1) D3 (va_up b v (fun i => if i < d then Rq T L g f i else if i = d then le else s (i - (d + 1)) * 16 ^ (i - (d + 1)))) (by omega) (by omega) (fun r h => by rw [k1.1 r (by omega), ch_25]; exact hD1 r h) (fun u hu hb => ?_)
        by_cases q : u = v
        · subst q; rw [va_up_self]; exact ⟨bnd.mk hn9 (by omega) h4 hfn htk.2 hrv.symm (by omega) k2 hcs, bvals (fun i hi => by rw [ch_23, up2_ne (by omega)]; exact hC i hi) (by rw [ch_23, up2_self]) k1 k3 hcs⟩
        · rw [va_up_ne _ _ q]; obtain ⟨q1, q2⟩ := hD2 u (by omega) hb; exact ⟨q1, fun i hi => by rw [k1.1 (d * 9 + u) (by omega), ch_25]; exact q2 i hi⟩

set_option maxRecDepth 100000 in
set_option maxHeartbeats 4000000 in
/-- write, over writeVertex -/
theorem c_X0_write_s {l : Launch} {Y : Yk} (hA : AJ Y.2.2) {I : SI} {J : SJ} {n : Nat} {T : Nat → Nat → Nat} {L : Nat → Nat → Nat → Nat} {g : Nat} {lk : Nat → Nat} (hg : g < 2) {e : Nat} (he : 0 < e) (hrec : (∀ (I : SI) (J : SJ) (f : Nat → Nat) (d tk v : Nat) (B : Nat → Nat), d + e = n → fsPre I J n T L g lk f d tk B → v < n → tk.testBit v = false → J 23 0 d = lN (rv T L g f d v) → (d + 1 = n → lx n (Rq T L g (va_up f d v)) B) → MX l Y yX0_writeVertex cX0_writeVertex 7 none (2 * e + 3) (40 * (2 * e + 3)) [.ref (Y.2.2 20 0), .ref (Y.2.2 2 g), .int (nI d), .int (nI tk), .int (nI v)] I J (fPost n T L g (va_up f d v) (d + 1) d B I J))) {f : Nat → Nat} {d tk : Nat} {B : Nat → Nat} (hd : d + e = n) (hpre : fsPre I J n T L g lk f d tk B)  : MX l Y yX0_write cX0_write 7 (none) (2 * e + 4) (40 * (2 * e + 4)) [.ref (Y.2.2 20 0), .ref (Y.2.2 2 g), .int (nI d), .int (nI tk)] I J (fPost n T L g f d d B I J) := by
  refine MX.of hA (by decide) (own := RX0) rfl rfl rfl ?_
  intro X Z hl hY1 hY2 hY3 C hr
  obtain ⟨D0, ca0, ad0⟩ := Y
  dsimp only at hA hY1 hY2 hY3
  subst hY1; subst hY2; subst hY3; subst hl
  show G X 7 Z (QG X Z _) I J 0 [(0, .ref (Z.2.2.1 20 0)), (1, .ref (Z.2.2.1 2 g)), (2, .int (nI d)), (3, .int (nI tk))] []
  obtain ⟨hv, hlk, htk, hfn, hfi, hC, hR, hB⟩ := id hpre
  obtain ⟨⟨hn1, hn9⟩, -⟩ := id hv
  have h4 := hv.s4 hg
  have htk9 : tk < 512 := htk.1
  refine g_ildn C dX0_write_0 rfl ?_
  refine g_aldn C dX0_write_1 rfl ?_
  refine g_get C 2 g (by decide) (show g < 2 by omega) u1 rfl 0 rfl fX0_40 rfl rfl dX0_write_2 ?_
  refine g_top (y := (nI n)) (hv.sz hg) ?_
  refine n_icmp_lt (tgt := 9) C dX0_write_5 rfl (by omega) (by omega) (fun c5 => ?_) (fun c5 => ?_)
  · refine g_aldn C dX0_write_9 rfl ?_
    refine g_aldn C dX0_write_10 rfl ?_
    refine g_ildn C dX0_write_11 rfl ?_
    refine g_ildn C dX0_write_12 rfl ?_
    refine g_callV (As := [.ref (Z.2.2.1 2 g), .int (nI d), .int (nI tk)]) (st := []) C (c_X0_candidates hA hv hg (dp := d) (tk := tk) (by omega) htk.1 (lk := lk) (r := rv T L g f d) (fun a ha => ⟨(hlk a ha).1, (hlk a ha).2.1⟩) (fun a ha hb => ⟨hR a ha hb, by have := rv_lt (f := f) h4 ha d hfn; have := p16 (show d ≤ 8 by omega); omega⟩)) wX0_candidates iX0_candidates sX0_candidates mX0_59 20 0 (by decide) (by decide) rfl rfl rfl rfl rfl rfl rfl (Bool.and_eq_true_iff.mpr ⟨Nat.ble_eq.mpr (by omega), Nat.ble_eq.mpr (by omega)⟩) dX0_write_13 ?_
    rintro v9 I9 J9 ⟨fd, le, h91, h92, h93, hcn⟩
    rw [h91, h92, h93, ch_23i]
    clear h91 h92 h93 v9 I9 J9
    show G X _ Z _ I (CH J (J 9) (J 22) (up2 (J 23) 0 d (lN le)) (J 25)) 16 [(0, .ref (Z.2.2.1 20 0)), (1, .ref (Z.2.2.1 2 g)), (2, .int (nI d)), (3, .int (nI tk))] [.int (nI fd)]
    refine g_ist (lv' := [(4, .int (nI fd)), (0, .ref (Z.2.2.1 20 0)), (1, .ref (Z.2.2.1 2 g)), (2, .int (nI d)), (3, .int (nI tk))]) C dX0_write_16 rfl rfl ?_
    refine g_iconst C ((nI 0)) dX0_write_18 (by decide) ?_
    refine g_ist (lv' := [(5, .int (nI 0)), (4, .int (nI fd)), (0, .ref (Z.2.2.1 20 0)), (1, .ref (Z.2.2.1 2 g)), (2, .int (nI d)), (3, .int (nI tk))]) C dX0_write_19 rfl rfl ?_
    refine g_lv [2, 3, 4, 5, 1, 0] rfl ?_
    exact l_X0_write_21 hA C hr hg he hrec hd hpre hcn (n + 1) 0 (J 25) (fun _ _ => 0) (by omega) (by omega) (fun _ _ => rfl) (fun u hu => absurd hu (by omega))
  · exact absurd c5 (by omega)

theorem c_X0_write {l : Launch} {Y : Yk} (hA : AJ Y.2.2) {n : Nat} {T : Nat → Nat → Nat} {L : Nat → Nat → Nat → Nat} {g : Nat} {lk : Nat → Nat} (hg : g < 2) : ∀ e, 0 < e → (∀ (I : SI) (J : SJ) (f : Nat → Nat) (d tk : Nat) (B : Nat → Nat), d + e = n → fsPre I J n T L g lk f d tk B → MX l Y yX0_write cX0_write 7 none (2 * e + 4) (40 * (2 * e + 4)) [.ref (Y.2.2 20 0), .ref (Y.2.2 2 g), .int (nI d), .int (nI tk)] I J (fPost n T L g f d d B I J)) := by
  intro e
  induction e with
  | zero => intro h; exact absurd h (by omega)
  | succ e ih =>
    intro _ I J f d tk B hd hpre
    exact c_X0_write_s hA hg (Nat.succ_pos e) (fun I J f d tk v B hd hpre h1 h2 h3 h4 => c_X0_writeVertex_s hA hg (Nat.succ_pos e) (fun e' h5 h6 => (show e' = e by omega) ▸ ih ((show e' = e by omega) ▸ h6)) hd hpre h1 h2 h3 h4) hd hpre
