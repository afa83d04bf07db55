/-! ===== colours part nothing that a naming joins ===== -/
theorem RK_mono {n : Nat} {lt : Nat → Nat → Prop} (hw : WO lt) {a b : Nat} (ha : thr n a) (h : lt a b) : RK n lt a < RK n lt b := by
  obtain ⟨r, r1, r2, r3, r4⟩ := fst_rep hw (a + 1) a (by omega) ha
  have h1 := RK_up hw r1 r2 r3 r4 (P := fun y => ¬ lt a y) (fun y _ => Iff.rfl)
  have h2 : ∀ m, ct (fun y => dc (thr n y ∧ ¬ lt a y ∧ ∀ z, z < y → thr n z → lt z y ∨ lt y z)) m ≤ ct (fun y => dc (thr n y ∧ lt y b ∧ ∀ z, z < y → thr n z → lt z y ∨ lt y z)) m := by
    intro m
    induction m with
    | zero => exact Nat.le_refl _
    | succ m ih =>
      rw [ct_s, ct_s]
      cases hd : dc (thr n m ∧ ¬ lt a m ∧ ∀ z, z < m → thr n z → lt z m ∨ lt m z) with
      | false => simp; omega
      | true =>
        obtain ⟨q1, q2, q3⟩ := dc_t.mp hd
        have : dc (thr n m ∧ lt m b ∧ ∀ z, z < m → thr n z → lt z m ∨ lt m z) = true := dc_t.mpr ⟨q1, by
          cases hq : dc (lt m b) with
          | true => exact dc_t.mp hq
          | false => exact absurd h (hw.2.2 a m b q2 (fun z => by rw [dc_t.mpr z] at hq; exact absurd hq (by decide))), q3⟩
        rw [this]
        omega
  have := h2 18
  unfold RK at h1 ⊢
  omega
/-- the colours by graph and vertex -/
noncomputable def col (n : Nat) (T : Nat → Nat → Nat) (L : Nat → Nat → Nat → Nat) (k : Nat) : Nat → Nat → Nat := fun g v => cs n T L k (9 * g + v)
theorem cs_fine {n : Nat} {T : Nat → Nat → Nat} {L : Nat → Nat → Nat → Nat} : ∀ k {a b : Nat}, thr n a → thr n b → cs n T L k a = cs n T L k b → T (a / 9) (a % 9) = T (b / 9) (b % 9)
  | 0, a, b, ha, hb, e => by
    rcases Nat.lt_trichotomy (T (a / 9) (a % 9)) (T (b / 9) (b % 9)) with q | q | q
    · have := RK_mono (WO_tlt T) ha (show tlt T a b from q)
      have e2 : RK n (tlt T) a = RK n (tlt T) b := e
      omega
    · exact q
    · have := RK_mono (WO_tlt T) hb (show tlt T b a from q)
      have e2 : RK n (tlt T) a = RK n (tlt T) b := e
      omega
  | k + 1, a, b, ha, hb, e => by
    refine cs_fine (L := L) k ha hb ?_
    have e2 : RK n (slt n L (cs n T L k)) a = RK n (slt n L (cs n T L k)) b := e
    rcases Nat.lt_trichotomy (cs n T L k a) (cs n T L k b) with q | q | q
    · have := RK_mono (WO_slt n L (cs n T L k)) ha (Or.inl q : slt n L (cs n T L k) a b)
      omega
    · exact q
    · have := RK_mono (WO_slt n L (cs n T L k)) hb (Or.inl q : slt n L (cs n T L k) b a)
      omega
theorem tr_nmg {n : Nat} {K : Nat → Nat → Nat} {L : Nat → Nat → Nat → Nat} {g h : Nat} {f : Nat → Nat} (ht : tr n K L g h f n) : nmg n f := by
  refine ⟨fun i hi => (ht i hi).1, fun i j hi hj e => ?_⟩
  rcases Nat.lt_trichotomy i j with q | q | q
  · exact absurd e ((ht j hj).2.1 i q)
  · exact q
  · exact absurd e.symm ((ht i hi).2.1 j q)
theorem tr_l {n : Nat} {K : Nat → Nat → Nat} {L : Nat → Nat → Nat → Nat} {g h : Nat} {f : Nat → Nat} (ht : tr n K L g h f n) {u v : Nat} (hu : u < n) (hv : v < n) (hne : u ≠ v) : L g u v = L h (f u) (f v) := by
  rcases Nat.lt_or_gt_of_ne hne with q | q
  · exact ((ht v hv).2.2.2 u q).2
  · exact ((ht u hu).2.2.2 v q).1
theorem cs_iso {n : Nat} {T : Nat → Nat → Nat} {L : Nat → Nat → Nat → Nat} {g h : Nat} (hn : n ≤ 9) (hg : g < 2) (hh : h < 2) {f : Nat → Nat} (ht : tr n T L g h f n) : ∀ k v, v < n → cs n T L k (9 * g + v) = cs n T L k (9 * h + f v) := by
  have hf := tr_nmg ht
  intro k
  induction k with
  | zero =>
    intro v hv
    have hfv := hf.1 v hv
    have e := (ht v hv).2.2.1
    refine RK_eq (WO_tlt T) ?_ ?_
    · unfold tlt
      rw [show (9 * g + v) / 9 = g by omega, show (9 * g + v) % 9 = v by omega, show (9 * h + f v) / 9 = h by omega, show (9 * h + f v) % 9 = f v by omega]
      omega
    · unfold tlt
      rw [show (9 * g + v) / 9 = g by omega, show (9 * g + v) % 9 = v by omega, show (9 * h + f v) / 9 = h by omega, show (9 * h + f v) % 9 = f v by omega]
      omega
  | succ k ih =>
    intro v hv
    have hfv := hf.1 v hv
    have ec := ih v hv
    have ek : ∀ x, kn n L (cs n T L k) (9 * g + v) x = kn n L (cs n T L k) (9 * h + f v) x := fun x => by
      unfold kn ky1
      rw [show (9 * g + v) / 9 = g by omega, show (9 * g + v) % 9 = v by omega, show (9 * h + f v) / 9 = h by omega, show (9 * h + f v) % 9 = f v by omega]
      rw [← ct_perm n f (fun w => sel 0 (f v) w && decide (pr L h (f v) w * 18 + cs n T L k (9 * h + w) = x)) hf]
      refine ct_congr n (fun w hw => ?_)
      show (sel 0 v w && decide (pr L g v w * 18 + cs n T L k (9 * g + w) = x)) = (sel 0 (f v) (f w) && decide (pr L h (f v) (f w) * 18 + cs n T L k (9 * h + f w) = x))
      by_cases e : w = v
      · rw [sel_v e, sel_v (congrArg f e)]
        rfl
      · rw [sel_t e (Nat.zero_testBit w), sel_t (fun q => e (hf.2 w v hw hv q)) (Nat.zero_testBit _), ih w hw]
        unfold pr
        rw [tr_l ht hv hw (Ne.symm e), tr_l ht hw hv e]
    refine RK_eq (WO_slt n L (cs n T L k)) ?_ ?_
    · rintro (q | ⟨_, x, _, q⟩)
      · omega
      · rw [ek x] at q; omega
    · rintro (q | ⟨_, x, _, q⟩)
      · omega
      · rw [ek x] at q; omega
/-- full namings that fit by colours are those that fit by tints -/
theorem tr_col {n : Nat} {T : Nat → Nat → Nat} {L : Nat → Nat → Nat → Nat} {g h : Nat} (hn : n ≤ 9) (hg : g < 2) (hh : h < 2) (k : Nat) {f : Nat → Nat} : tr n (col n T L k) L g h f n ↔ tr n T L g h f n := by
  constructor
  · intro ht i hi
    obtain ⟨h1, h2, h3, h4⟩ := ht i hi
    refine ⟨h1, h2, ?_, h4⟩
    have e : cs n T L k (9 * g + i) = cs n T L k (9 * h + f i) := h3
    have := cs_fine (T := T) (L := L) k (a := 9 * g + i) (b := 9 * h + f i) ⟨by omega, by omega⟩ ⟨by omega, by omega⟩ e
    rw [show (9 * g + i) / 9 = g by omega, show (9 * g + i) % 9 = i by omega, show (9 * h + f i) / 9 = h by omega, show (9 * h + f i) % 9 = f i by omega] at this
    exact this
  · intro ht i hi
    obtain ⟨h1, h2, _, h4⟩ := ht i hi
    exact ⟨h1, h2, cs_iso hn hg hh ht k i hi, h4⟩
theorem syn_col {n : Nat} {T : Nat → Nat → Nat} {L : Nat → Nat → Nat → Nat} {g : Nat} (hn : n ≤ 9) (hg : g < 2) (k : Nat) {v w : Nat} {f : Nat → Nat} : syn n (col n T L k) L g v w f ↔ syn n T L g v w f := by
  unfold syn
  rw [tr_col hn hg hg k]
theorem sn_col {n : Nat} {T : Nat → Nat → Nat} {L : Nat → Nat → Nat → Nat} {g : Nat} (hn : n ≤ 9) (hg : g < 2) (k : Nat) : ∀ v, sn n (col n T L k) L g v = sn n T L g v
  | 0 => rfl
  | v + 1 => by
    show sn n (col n T L k) L g v * (1 + ct (fun w => dc (v < w ∧ ∃ f, syn n (col n T L k) L g v w f)) n) = sn n T L g v * (1 + ct (fun w => dc (v < w ∧ ∃ f, syn n T L g v w f)) n)
    have e : ct (fun w => dc (v < w ∧ ∃ f, syn n (col n T L k) L g v w f)) n = ct (fun w => dc (v < w ∧ ∃ f, syn n T L g v w f)) n := ct_congr n (fun w _ => dc_congr ⟨fun q => ⟨q.1, q.2.elim (fun f b => ⟨f, (syn_col hn hg k).mp b⟩)⟩, fun q => ⟨q.1, q.2.elim (fun f b => ⟨f, (syn_col hn hg k).mpr b⟩)⟩⟩)
    rw [sn_col hn hg k v, e]
theorem OR_col {n : Nat} {T : Nat → Nat → Nat} {L : Nat → Nat → Nat → Nat} {g : Nat} (hn : n ≤ 9) (hg : g < 2) (k : Nat) {o : Nat → Nat} {D : Nat → Nat → Prop} (h : OR n (col n T L k) L g o D) : OR n T L g o D :=
  ⟨h.1, fun v w h1 h2 h3 ⟨f, h4⟩ => by
    obtain ⟨f2, e1, e2⟩ := h.2.1 v w h1 h2 h3 ⟨f, (syn_col hn hg k).mpr h4⟩
    exact ⟨f2, (syn_col hn hg k).mp e1, e2⟩, fun R hR r1 => h.2.2 R hR (fun f hf => r1 f ((tr_col hn hg hg k).mp hf))⟩
