/-! ===== the reference: what its object means; begin, label, tint, exchange, copy, count, image ===== -/
/-- number m of row i of a graph that f writes down -/
def dg (T : Nat → Nat → Nat) (L : Nat → Nat → Nat → Nat) (g : Nat) (f : Nat → Nat) (i m : Nat) : Nat := if m = 0 then T g (f i) else if m % 2 = 1 then L g (f i) (f ((m - 1) / 2)) else L g (f ((m - 2) / 2)) (f i)
/-- the row in which number k stands -/
def isq : Nat → Nat
  | 0 => 0
  | k + 1 => if (isq k + 1) * (isq k + 1) ≤ k + 1 then isq k + 1 else isq k
theorem isq_sp : ∀ k, isq k * isq k ≤ k ∧ k < (isq k + 1) * (isq k + 1)
  | 0 => by decide
  | k + 1 => by
    obtain ⟨h1, h2⟩ := isq_sp k
    show (if (isq k + 1) * (isq k + 1) ≤ k + 1 then isq k + 1 else isq k) * (if (isq k + 1) * (isq k + 1) ≤ k + 1 then isq k + 1 else isq k) ≤ k + 1 ∧ k + 1 < ((if (isq k + 1) * (isq k + 1) ≤ k + 1 then isq k + 1 else isq k) + 1) * ((if (isq k + 1) * (isq k + 1) ≤ k + 1 then isq k + 1 else isq k) + 1)
    by_cases h : (isq k + 1) * (isq k + 1) ≤ k + 1
    · rw [if_pos h]
      refine ⟨h, ?_⟩
      have e : (isq k + 1 + 1) * (isq k + 1 + 1) = (isq k + 1) * (isq k + 1) + 2 * (isq k + 1) + 1 := by rw [Nat.add_mul, Nat.mul_add, Nat.mul_add]; omega
      omega
    · rw [if_neg h]
      exact ⟨by omega, by omega⟩
theorem isq_un {k r : Nat} (h1 : r * r ≤ k) (h2 : k < (r + 1) * (r + 1)) : isq k = r := by
  obtain ⟨g1, g2⟩ := isq_sp k
  rcases Nat.lt_trichotomy (isq k) r with q | q | q
  · have := Nat.mul_le_mul (show isq k + 1 ≤ r from q) (show isq k + 1 ≤ r from q); omega
  · exact q
  · have := Nat.mul_le_mul (show r + 1 ≤ isq k from q) (show r + 1 ≤ isq k from q); omega
theorem isq_at {r m : Nat} (h : m ≤ 2 * r) : isq (r * r + m) = r := isq_un (by omega) (by rw [Nat.add_mul, Nat.mul_add]; omega)
theorem isq_lt {n k : Nat} (h : k < n * n) : isq k < n := by
  obtain ⟨g1, _⟩ := isq_sp k
  rcases Nat.lt_or_ge (isq k) n with q | q
  · exact q
  · have := Nat.mul_le_mul q q; omega
/-- a graph as f writes it down -/
def Df (T : Nat → Nat → Nat) (L : Nat → Nat → Nat → Nat) (g : Nat) (f : Nat → Nat) (k : Nat) : Nat := dg T L g f (isq k) (k - isq k * isq k)
/-- R is the form -/
def mfr (n : Nat) (T : Nat → Nat → Nat) (L : Nat → Nat → Nat → Nat) (g : Nat) (R : Nat → Nat) : Prop := (∃ f, nmg n f ∧ ∀ k, k < n * n → R k = Df T L g f k) ∧ ∀ f, nmg n f → lxe (n * n) R (Df T L g f)
def rn2 (n : Nat) (T : Nat → Nat → Nat) (L : Nat → Nat → Nat → Nat) (k : Nat) : Prop := 1 ≤ k ∧ (∀ j, 1 ≤ j → j < k → ms n T L (j - 1) < ms n T L j) ∧ ¬ ms n T L (k - 1) < ms n T L k
def MPk (I : SI) (n : Nat) (T : Nat → Nat → Nat) (L : Nat → Nat → Nat → Nat) : Prop := ∃ k, rn2 n T L k ∧ I 27 0 13 = nI (ms n T L k) ∧ ∀ s, thr n s → I 36 0 s = nI (cs n T L k s)
def MFk (I : SI) (n : Nat) (T : Nat → Nat → Nat) (L : Nat → Nat → Nat → Nat) (g : Nat) : Prop := ∃ R : Nat → Nat, (∀ k, k < n * n → I 34 0 (81 * g + k) = nI (R k) ∧ R k < 4) ∧ mfr n T L g R
/-- what the reference's object means -/
def MI (I : SI) (n : Nat) (T : Nat → Nat → Nat) (L : Nat → Nat → Nat → Nat) (ah : Bool) (nm : Nat → Nat) : Prop :=
  MV I n T L ∧ I 27 0 3 = bI ah ∧ (ah = true → ∀ i, i < n → I 30 0 i = nI (nm i)) ∧ (∃ ic : Bool, I 27 0 10 = bI ic ∧ (ic = true → MPk I n T L)) ∧ ∀ g, g < 2 → ∃ hf : Bool, I 33 0 g = bI hf ∧ (hf = true → MFk I n T L g)
theorem MI.keep {I I' : SI} {n : Nat} {T : Nat → Nat → Nat} {L : Nat → Nat → Nat → Nat} {ah : Bool} {nm : Nat → Nat} (h : MI I n T L ah nm) (hk : keep I I') : MI I' n T L ah nm := by
  unfold MI MV MPk MFk
  rw [hk 27 (by decide), hk 28 (by decide), hk 29 (by decide), hk 30 (by decide), hk 33 (by decide), hk 34 (by decide), hk 36 (by decide)]
  exact h
theorem CI.keep {I I' : SI} {J : SJ} {n : Nat} {T : Nat → Nat → Nat} {L : Nat → Nat → Nat → Nat} {ah : Bool} {nm : Nat → Nat} (h : CI I J n T L ah nm) (hk : ∀ q, q < 27 → I' q = I q) : CI I' J n T L ah nm := by
  unfold CI CV PTk ATk SF SYk
  rw [hk 0 (by decide), hk 2 (by decide), hk 3 (by decide), hk 5 (by decide), hk 7 (by decide), hk 8 (by decide), hk 10 (by decide), hk 18 (by decide)]
  exact h
/-- a call of the reference: it answered r, its object is as told, the class's cells stay -/
def mP (I : SI) (J : SJ) (r : Int32) (n : Nat) (T : Nat → Nat → Nat) (L : Nat → Nat → Nat → Nat) (ah : Bool) (nm : Nat → Nat) : Option Value → SI → SJ → Prop := fun v' I' J' => v' = some (.int r) ∧ J' = J ∧ (∀ q, q < 27 → I' q = I q) ∧ MI I' n T L ah nm
theorem isV_eq (n : Nat) (g v : Int32) : isV n g v = (isG g && isW n v) := rfl
theorem mc_fin {I I1 I9 : SI} {J : SJ} {n : Nat} {T : Nat → Nat → Nat} {L : Nat → Nat → Nat → Nat} {r : Int32} (nm : Nat → Nat) (hv : MV I1 n T L) (hk : ∀ q, q < 27 → I1 q = I q) (e9 : I9 = sK (sK I1 27 (up2 (up2 (I1 27) 0 3 (nI 0)) 0 10 (nI 0))) 33 (up2 (up2 (I1 33) 0 0 (nI 0)) 0 1 (nI 0))) : mP I J r n T L false nm (some (.int r)) I9 J := by
  have e27 : I9 27 = up2 (up2 (I1 27) 0 3 (nI 0)) 0 10 (nI 0) := by rw [e9, sK_ne (by decide), sK_self]
  have e33 : I9 33 = up2 (up2 (I1 33) 0 0 (nI 0)) 0 1 (nI 0) := by rw [e9, sK_self]
  have eo : ∀ q, q ≠ 27 → q ≠ 33 → I9 q = I1 q := fun q a b => by rw [e9, sK_ne b, sK_ne a]
  refine ⟨rfl, rfl, fun q hq => (eo q (by omega) (by omega)).trans (hk q hq), hv.of (by rw [e27, up2_ne (by decide), up2_ne (by decide)]) (eo 28 (by decide) (by decide)) (eo 29 (by decide) (by decide)), by rw [e27, up2_ne (by decide), up2_self]; rfl, fun q => absurd q (by decide), ⟨false, by rw [e27, up2_self]; rfl, fun q => absurd q (by decide)⟩, fun g hg => ⟨false, ?_, fun q => absurd q (by decide)⟩⟩
  rw [e33]
  rcases (show g = 0 ∨ g = 1 by omega) with q | q <;> subst q <;> simp [up2_at] <;> rfl
set_option maxRecDepth 100000 in
set_option maxHeartbeats 4000000 in
theorem l_X6_begin_20 {X : Pk} {Z : Zk} {Q : State → Prop} {I : SI} {J : SJ} (hA : AJ Z.2.2.1) (C : Cx X cX6_begin 3 RX6 Z 2 80) (hr : (xE X).sig.returnType = some .int) {m : Nat} (hex : G X 3 Z Q (sK I 28 (va_up (I 28) 0 (fl (I 28 0) 162 (nI 0)))) J 40 [(0, .ref (Z.2.2.1 27 0)), (1, .int (nI m)), (2, .int (nI 162))] []) : ∀ (k : Nat) (k2 : Nat), 162 - k2 < k → (k2 ≤ 162) → G X 3 Z (Q) (sK I 28 (va_up (I 28) 0 (fl (I 28 0) k2 (nI 0)))) (J) 20 [(0, .ref (Z.2.2.1 27 0)), (1, .int (nI m)), (2, .int (nI k2))] [] := by
  intro k
  induction k with
  | zero => intro k2 h; exact absurd h (by omega)
  | succ k ih =>
    intro k2 hk hk2
    refine g_ildn C dX6_begin_20 rfl ?_
    refine g_sipush C ((nI 162)) dX6_begin_21 (by decide) ?_
    refine n_icmp_ge (tgt := 40) C dX6_begin_24 rfl (by omega) (by omega) (fun c_1 => ?_) (fun c_1 => ?_)
    · refine g_lv [0, 1, 2] rfl ?_
      have e : k2 = 162 := by omega
      subst e
      exact hex
    · refine g_aldn C dX6_begin_27 rfl ?_
      refine g_get C 27 0 (by decide) (by decide) u6 rfl 1 rfl fX6_13 rfl rfl dX6_begin_28 ?_
      refine g_ildn C dX6_begin_31 rfl ?_
      refine g_iconst C ((nI 0)) dX6_begin_32 (by decide) ?_
      refine g_iast C 28 0 (by decide) (by decide) (fun _ _ => rfl) k2 (show k2 < 162 by omega) rfl dX6_begin_33 ?_
      refine g_I (I1 := sK I 28 (va_up (I 28) 0 (fl (I 28 0) (k2 + 1) (nI 0)))) (by rw [sK_self, sK_sK, up2_row_self, fl_s]) ?_
      refine g_iinc (lv' := [(2, .int (nI (k2 + 1))), (0, .ref (Z.2.2.1 27 0)), (1, .int (nI m))]) C ((nI (k2 + 1))) dX6_begin_34 rfl (inc1 _) rfl rfl ?_
      refine g_goto (tgt := 20) C dX6_begin_37 rfl ?_
      refine g_lv [1, 2, 0] rfl ?_
      exact ih (k2 + 1) (by omega) (by omega)

set_option maxRecDepth 100000 in
set_option maxHeartbeats 4000000 in
theorem l_X6_begin_42 {X : Pk} {Z : Zk} {Q : State → Prop} {I : SI} {J : SJ} (hA : AJ Z.2.2.1) (C : Cx X cX6_begin 3 RX6 Z 2 80) (hr : (xE X).sig.returnType = some .int) {m : Nat} (hex : G X 3 Z Q (sK I 29 (va_up (I 29) 0 (fl (I 29 0) 18 (nI 0)))) J 61 [(0, .ref (Z.2.2.1 27 0)), (1, .int (nI m)), (2, .int (nI 18))] []) : ∀ (k : Nat) (k2 : Nat), 18 - k2 < k → (k2 ≤ 18) → G X 3 Z (Q) (sK I 29 (va_up (I 29) 0 (fl (I 29 0) k2 (nI 0)))) (J) 42 [(0, .ref (Z.2.2.1 27 0)), (1, .int (nI m)), (2, .int (nI k2))] [] := by
  intro k
  induction k with
  | zero => intro k2 h; exact absurd h (by omega)
  | succ k ih =>
    intro k2 hk hk2
    refine g_ildn C dX6_begin_42 rfl ?_
    refine g_bipush C ((nI 18)) dX6_begin_43 (by decide) ?_
    refine n_icmp_ge (tgt := 61) C dX6_begin_45 rfl (by omega) (by omega) (fun c_1 => ?_) (fun c_1 => ?_)
    · refine g_lv [0, 1, 2] rfl ?_
      have e : k2 = 18 := by omega
      subst e
      exact hex
    · refine g_aldn C dX6_begin_48 rfl ?_
      refine g_get C 27 0 (by decide) (by decide) u6 rfl 2 rfl fX6_17 rfl rfl dX6_begin_49 ?_
      refine g_ildn C dX6_begin_52 rfl ?_
      refine g_iconst C ((nI 0)) dX6_begin_53 (by decide) ?_
      refine g_iast C 29 0 (by decide) (by decide) (fun _ _ => rfl) k2 (show k2 < 18 by omega) rfl dX6_begin_54 ?_
      refine g_I (I1 := sK I 29 (va_up (I 29) 0 (fl (I 29 0) (k2 + 1) (nI 0)))) (by rw [sK_self, sK_sK, up2_row_self, fl_s]) ?_
      refine g_iinc (lv' := [(2, .int (nI (k2 + 1))), (0, .ref (Z.2.2.1 27 0)), (1, .int (nI m))]) C ((nI (k2 + 1))) dX6_begin_55 rfl (inc1 _) rfl rfl ?_
      refine g_goto (tgt := 42) C dX6_begin_58 rfl ?_
      refine g_lv [1, 2, 0] rfl ?_
      exact ih (k2 + 1) (by omega) (by omega)

theorem bgm_cv {I : SI} {m : Nat} (h1 : 1 ≤ m) (h9 : m ≤ 9) : MV (sK (sK (sK I 27 (up2 (I 27) 0 0 (nI m))) 28 (va_up (I 28) 0 (fl (I 28 0) 162 (nI 0)))) 29 (va_up (I 29) 0 (fl (I 29 0) 18 (nI 0)))) m (fun _ _ => 0) (fun _ _ _ => 0) := by
  refine ⟨⟨h1, h9⟩, by rw [sK_ne (by decide), sK_ne (by decide), sK_self, up2_self], fun g v hg hv => ⟨?_, Nat.zero_lt_succ 3⟩, fun g u v hg hu hv => ⟨?_, Nat.zero_lt_succ 3⟩⟩
  · rw [sK_self, va_up_self, fl_lt (by omega)]
  · rw [sK_ne (by decide), sK_self, va_up_self, fl_lt (by omega)]
set_option maxRecDepth 100000 in
set_option maxHeartbeats 4000000 in
/-- begin -/
theorem c_X6_begin {l : Launch} {Y : Yk} (hA : AJ Y.2.2) {I : SI} {J : SJ} {n : Nat} {T : Nat → Nat → Nat} {L : Nat → Nat → Nat → Nat} {ah : Bool} {nm : Nat → Nat} (hm : MI I n T L ah nm) (x : Int32) : MX l Y yX6_begin cX6_begin 3 (some .int) 2 80 [.ref (Y.2.2 27 0), .int x] I J (fun v' I' J' => if ¬ x < nI 1 ∧ x ≤ nI 9 then ∃ m, 1 ≤ m ∧ m ≤ 9 ∧ x = nI m ∧ mP I J (nI 0) m (fun _ _ => 0) (fun _ _ _ => 0) false nm v' I' J' else mP I J (-1) n T L ah nm v' I' J') := by
  refine MX.of hA (by decide) (own := RX6) rfl rfl rfl ?_
  intro X Z hl hY1 hY2 hY3 C hr
  obtain ⟨D0, ca0, ad0⟩ := Y
  dsimp only at hA hY1 hY2 hY3
  subst hY1; subst hY2; subst hY3; subst hl
  show G X 3 Z (QG X Z _) I J 0 [(0, .ref (Z.2.2.1 27 0)), (1, .int x)] []
  refine g_ildn C dX6_begin_0 rfl ?_
  refine g_iconst C ((nI 1)) dX6_begin_1 (by decide) ?_
  refine g_icmp_lt (tgt := 11) C dX6_begin_2 rfl (fun c2 => ?_) (fun c2 => ?_)
  · refine g_iconst C ((-1)) dX6_begin_11 (by decide) ?_
    exact g_ireturn C hr dX6_begin_12 (by rw [if_neg (fun q => by first | exact q.1 c2 | exact c8 q.2)]; exact ⟨rfl, rfl, fun _ _ => rfl, hm⟩)
  · refine g_ildn C dX6_begin_5 rfl ?_
    refine g_bipush C ((nI 9)) dX6_begin_6 (by decide) ?_
    refine g_icmp_le (tgt := 13) C dX6_begin_8 rfl (fun c8 => ?_) (fun c8 => ?_)
    · have hok : ¬ x < nI 1 ∧ x ≤ nI 9 := ⟨c2, c8⟩
      obtain ⟨m, h1, h9, rfl⟩ := bg_t c2 c8
      refine g_aldn C dX6_begin_13 rfl ?_
      refine g_ildn C dX6_begin_14 rfl ?_
      refine g_put C 27 0 (by decide) (by decide) tyX6 tyX6_ok nmX6 u6 rfl 0 rfl fX6_7 rfl (fun _ _ => rfl) (by simp [va_up]) rfl rfl rfl dX6_begin_15 ?_
      refine g_I (I1 := sK I 27 (up2 (I 27) 0 0 (nI m))) rfl ?_
      refine g_iconst C ((nI 0)) dX6_begin_18 (by decide) ?_
      refine g_istn (lv' := [(2, .int (nI 0)), (0, .ref (Z.2.2.1 27 0)), (1, .int (nI m))]) C dX6_begin_19 rfl rfl ?_
      refine g_lv [1, 2, 0] rfl ?_
      refine g_I (I1 := sK (sK I 27 (up2 (I 27) 0 0 (nI m))) 28 (va_up ((sK I 27 (up2 (I 27) 0 0 (nI m))) 28) 0 (fl ((sK I 27 (up2 (I 27) 0 0 (nI m))) 28 0) 0 (nI 0)))) (by rw [fl_0, va_up_id, sK_id]) ?_
      refine l_X6_begin_20 (I := (sK I 27 (up2 (I 27) 0 0 (nI m)))) hA C hr ?_ 200 0 (by omega) (by omega)
      refine g_I (I1 := sK (sK I 27 (up2 (I 27) 0 0 (nI m))) 28 (va_up (I 28) 0 (fl (I 28 0) 162 (nI 0)))) (by rw [sK_ne (by decide : (28 : Nat) ≠ 27)]) ?_
      refine g_iconst C ((nI 0)) dX6_begin_40 (by decide) ?_
      refine g_istn (lv' := [(2, .int (nI 0)), (0, .ref (Z.2.2.1 27 0)), (1, .int (nI m))]) C dX6_begin_41 rfl rfl ?_
      refine g_lv [1, 2, 0] rfl ?_
      refine g_I (I1 := sK (sK (sK I 27 (up2 (I 27) 0 0 (nI m))) 28 (va_up (I 28) 0 (fl (I 28 0) 162 (nI 0)))) 29 (va_up ((sK (sK I 27 (up2 (I 27) 0 0 (nI m))) 28 (va_up (I 28) 0 (fl (I 28 0) 162 (nI 0)))) 29) 0 (fl ((sK (sK I 27 (up2 (I 27) 0 0 (nI m))) 28 (va_up (I 28) 0 (fl (I 28 0) 162 (nI 0)))) 29 0) 0 (nI 0)))) (by rw [fl_0, va_up_id, sK_id]) ?_
      refine l_X6_begin_42 (I := (sK (sK I 27 (up2 (I 27) 0 0 (nI m))) 28 (va_up (I 28) 0 (fl (I 28 0) 162 (nI 0))))) hA C hr ?_ 200 0 (by omega) (by omega)
      refine g_I (I1 := sK (sK (sK I 27 (up2 (I 27) 0 0 (nI m))) 28 (va_up (I 28) 0 (fl (I 28 0) 162 (nI 0)))) 29 (va_up (I 29) 0 (fl (I 29 0) 18 (nI 0)))) (by rw [sK_ne (by decide : (29 : Nat) ≠ 28), sK_ne (by decide : (29 : Nat) ≠ 27)]) ?_
      refine g_aldn C dX6_begin_61 rfl ?_
      refine g_callV (As := []) (st := []) C (c_X6_changed hA) wX6_changed iX6_changed sX6_changed mX6_52 27 0 (by decide) (by decide) rfl rfl rfl rfl rfl rfl rfl rfl dX6_begin_62 ?_
      rintro v9 I9 J9 ⟨h91, e9, h93⟩
      rw [h91, h93]
      clear h91 h93 v9 J9
      show G X _ Z _ I9 J 65 [(0, .ref (Z.2.2.1 27 0)), (1, .int (nI m)), (2, .int (nI 18))] []
      refine g_iconst C ((nI 0)) dX6_begin_65 (by decide) ?_
      exact g_ireturn C hr dX6_begin_66 (by rw [if_pos hok]; exact ⟨m, h1, h9, rfl, mc_fin nm (bgm_cv h1 h9) (fun q hq => by rw [sK_ne (by omega), sK_ne (by omega), sK_ne (by omega)]) e9⟩)
    · refine g_iconst C ((-1)) dX6_begin_11 (by decide) ?_
      exact g_ireturn C hr dX6_begin_12 (by rw [if_neg (fun q => by first | exact q.1 c2 | exact c8 q.2)]; exact ⟨rfl, rfl, fun _ _ => rfl, hm⟩)

theorem lbm_cv {I : SI} {n : Nat} {T : Nat → Nat → Nat} {L : Nat → Nat → Nat → Nat} {a b c y : Nat} (h : MV I n T L) (ha : a < 2) (hb : b < n) (hc : c < n) (hy : y < 4) : MV (sK I 28 (up2 (I 28) 0 (81 * a + 9 * b + c) (nI y))) n T (upL L a b c y) := by
  have hn9 := h.1.2
  refine ⟨h.1, by rw [sK_ne (by decide)]; exact h.2.1, by rw [sK_ne (by decide)]; exact h.2.2.1, fun g u v hg hu hv => ?_⟩
  rw [sK_self, up2_at]
  unfold upL
  by_cases e : g = a ∧ u = b ∧ v = c
  · rw [if_pos ⟨rfl, by omega⟩, if_pos e]; exact ⟨rfl, hy⟩
  · rw [if_neg (fun q => e (by omega)), if_neg e]; exact h.2.2.2 g u v hg hu hv
theorem tnm_cv {I : SI} {n : Nat} {T : Nat → Nat → Nat} {L : Nat → Nat → Nat → Nat} {a b y : Nat} (h : MV I n T L) (ha : a < 2) (hb : b < n) (hy : y < 4) : MV (sK I 29 (up2 (I 29) 0 (9 * a + b) (nI y))) n (upT T a b y) L := by
  have hn9 := h.1.2
  refine ⟨h.1, by rw [sK_ne (by decide)]; exact h.2.1, fun g v hg hv => ?_, by rw [sK_ne (by decide)]; exact h.2.2.2⟩
  rw [sK_self, up2_at]
  unfold upT
  by_cases e : g = a ∧ v = b
  · rw [if_pos ⟨rfl, by omega⟩, if_pos e]; exact ⟨rfl, hy⟩
  · rw [if_neg (fun q => e (by omega)), if_neg e]; exact h.2.2.1 g v hg hv
set_option maxRecDepth 100000 in
set_option maxHeartbeats 4000000 in
/-- label -/
theorem c_X6_label {l : Launch} {Y : Yk} (hA : AJ Y.2.2) {I : SI} {J : SJ} {n : Nat} {T : Nat → Nat → Nat} {L : Nat → Nat → Nat → Nat} {ah : Bool} {nm : Nat → Nat} (hm : MI I n T L ah nm) (g u v lb : Int32) : MX l Y yX6_label cX6_label 6 (some .int) 2 80 [.ref (Y.2.2 27 0), .int g, .int u, .int v, .int lb] I J (fun v' I' J' => if isV n g u && (isV n g v && (isM lb && decide (u ≠ v))) then ∃ a b c x, a < 2 ∧ b < n ∧ c < n ∧ x < 4 ∧ g = nI a ∧ u = nI b ∧ v = nI c ∧ lb = nI x ∧ mP I J (nI (L a b c)) n T (upL L a b c x) false nm v' I' J' else mP I J (-1) n T L ah nm v' I' J') := by
  refine MX.of hA (by decide) (own := RX6) rfl rfl rfl ?_
  intro X Z hl hY1 hY2 hY3 C hr
  obtain ⟨D0, ca0, ad0⟩ := Y
  dsimp only at hA hY1 hY2 hY3
  subst hY1; subst hY2; subst hY3; subst hl
  show G X 6 Z (QG X Z _) I J 0 [(0, .ref (Z.2.2.1 27 0)), (1, .int g), (2, .int u), (3, .int v), (4, .int lb)] []
  have hv := hm.1
  obtain ⟨⟨hn1, hn9⟩, -⟩ := id hv
  refine g_ildn C dX6_label_0 rfl ?_
  refine g_callS (As := [.int g]) (st := []) C (c_X6_isGraph hA g) wX6_isGraph tX6_isGraph mX6_55 rfl rfl rfl rfl dX6_label_1 ?_
  rintro v9 I9 J9 ⟨h91, h92, h93⟩
  rw [h91, h92, h93]
  clear h91 h92 h93 v9 I9 J9
  show G X _ Z _ I J 4 [(0, .ref (Z.2.2.1 27 0)), (1, .int g), (2, .int u), (3, .int v), (4, .int lb)] [.int (bI (isG g))]
  refine b_if_eq (tgt := 39) C dX6_label_4 rfl (fun c4 => ?_) (fun c4 => ?_)
  · refine g_iconst C ((-1)) dX6_label_39 (by decide) ?_
    exact g_ireturn C hr dX6_label_40 (by rw [if_neg (by rw [isV_eq, isV_eq]; first | (rw [c4]; simp; done) | (rw [c12]; simp; done) | (rw [c20]; simp; done) | (rw [show decide (u ≠ v) = false from decide_eq_false (fun q => q c25)]; simp; done) | (rw [show isM lb = false from decide_eq_false (fun q => by first | exact absurd q.1 (Int32.not_le.mpr c30) | exact c36 q.2)]; simp; done))]; exact ⟨rfl, rfl, fun _ _ => rfl, hm⟩)
  · refine g_aldn C dX6_label_7 rfl ?_
    refine g_ildn C dX6_label_8 rfl ?_
    refine g_callV (As := [.int u]) (st := []) C (c_X6_isVertex hA hm.1 u) wX6_isVertex iX6_isVertex sX6_isVertex mX6_59 27 0 (by decide) (by decide) rfl rfl rfl rfl rfl rfl rfl rfl dX6_label_9 ?_
    rintro v9 I9 J9 ⟨h91, h92, h93⟩
    rw [h91, h92, h93]
    clear h91 h92 h93 v9 I9 J9
    show G X _ Z _ I J 12 [(0, .ref (Z.2.2.1 27 0)), (1, .int g), (2, .int u), (3, .int v), (4, .int lb)] [.int (bI (isW n u))]
    refine b_if_eq (tgt := 39) C dX6_label_12 rfl (fun c12 => ?_) (fun c12 => ?_)
    · refine g_iconst C ((-1)) dX6_label_39 (by decide) ?_
      exact g_ireturn C hr dX6_label_40 (by rw [if_neg (by rw [isV_eq, isV_eq]; first | (rw [c4]; simp; done) | (rw [c12]; simp; done) | (rw [c20]; simp; done) | (rw [show decide (u ≠ v) = false from decide_eq_false (fun q => q c25)]; simp; done) | (rw [show isM lb = false from decide_eq_false (fun q => by first | exact absurd q.1 (Int32.not_le.mpr c30) | exact c36 q.2)]; simp; done))]; exact ⟨rfl, rfl, fun _ _ => rfl, hm⟩)
    · refine g_aldn C dX6_label_15 rfl ?_
      refine g_ildn C dX6_label_16 rfl ?_
      refine g_callV (As := [.int v]) (st := []) C (c_X6_isVertex hA hm.1 v) wX6_isVertex iX6_isVertex sX6_isVertex mX6_59 27 0 (by decide) (by decide) rfl rfl rfl rfl rfl rfl rfl rfl dX6_label_17 ?_
      rintro v9 I9 J9 ⟨h91, h92, h93⟩
      rw [h91, h92, h93]
      clear h91 h92 h93 v9 I9 J9
      show G X _ Z _ I J 20 [(0, .ref (Z.2.2.1 27 0)), (1, .int g), (2, .int u), (3, .int v), (4, .int lb)] [.int (bI (isW n v))]
      refine b_if_eq (tgt := 39) C dX6_label_20 rfl (fun c20 => ?_) (fun c20 => ?_)
      · refine g_iconst C ((-1)) dX6_label_39 (by decide) ?_
        exact g_ireturn C hr dX6_label_40 (by rw [if_neg (by rw [isV_eq, isV_eq]; first | (rw [c4]; simp; done) | (rw [c12]; simp; done) | (rw [c20]; simp; done) | (rw [show decide (u ≠ v) = false from decide_eq_false (fun q => q c25)]; simp; done) | (rw [show isM lb = false from decide_eq_false (fun q => by first | exact absurd q.1 (Int32.not_le.mpr c30) | exact c36 q.2)]; simp; done))]; exact ⟨rfl, rfl, fun _ _ => rfl, hm⟩)
      · refine g_ildn C dX6_label_23 rfl ?_
        refine g_ildn C dX6_label_24 rfl ?_
        refine g_icmp_eq (tgt := 39) C dX6_label_25 rfl (fun c25 => ?_) (fun c25 => ?_)
        · refine g_iconst C ((-1)) dX6_label_39 (by decide) ?_
          exact g_ireturn C hr dX6_label_40 (by rw [if_neg (by rw [isV_eq, isV_eq]; first | (rw [c4]; simp; done) | (rw [c12]; simp; done) | (rw [c20]; simp; done) | (rw [show decide (u ≠ v) = false from decide_eq_false (fun q => q c25)]; simp; done) | (rw [show isM lb = false from decide_eq_false (fun q => by first | exact absurd q.1 (Int32.not_le.mpr c30) | exact c36 q.2)]; simp; done))]; exact ⟨rfl, rfl, fun _ _ => rfl, hm⟩)
        · refine g_ild C dX6_label_28 rfl ?_
          refine g_if_lt (tgt := 39) C dX6_label_30 rfl (fun c30 => ?_) (fun c30 => ?_)
          · refine g_iconst C ((-1)) dX6_label_39 (by decide) ?_
            exact g_ireturn C hr dX6_label_40 (by rw [if_neg (by rw [isV_eq, isV_eq]; first | (rw [c4]; simp; done) | (rw [c12]; simp; done) | (rw [c20]; simp; done) | (rw [show decide (u ≠ v) = false from decide_eq_false (fun q => q c25)]; simp; done) | (rw [show isM lb = false from decide_eq_false (fun q => by first | exact absurd q.1 (Int32.not_le.mpr c30) | exact c36 q.2)]; simp; done))]; exact ⟨rfl, rfl, fun _ _ => rfl, hm⟩)
          · refine g_ild C dX6_label_33 rfl ?_
            refine g_iconst C ((nI 3)) dX6_label_35 (by decide) ?_
            refine g_icmp_le (tgt := 41) C dX6_label_36 rfl (fun c36 => ?_) (fun c36 => ?_)
            · have c36b : isM lb = true := decide_eq_true ⟨Int32.not_lt.mp c30, c36⟩
              have hok : (isV n g u && (isV n g v && (isM lb && decide (u ≠ v)))) = true := by rw [isV_eq, isV_eq, c4, c12, c20, c36b, decide_eq_true c25]; rfl
              obtain ⟨a, ha, rfl⟩ := isG_t c4
              obtain ⟨b, hb, rfl⟩ := isW_t (by omega) c12
              obtain ⟨cc, hc2, rfl⟩ := isW_t (by omega) c20
              obtain ⟨y, hy, rfl⟩ := isM_t c36b
              refine g_aldn C dX6_label_41 rfl ?_
              refine g_ildn C dX6_label_42 rfl ?_
              refine g_ildn C dX6_label_43 rfl ?_
              refine g_ildn C dX6_label_44 rfl ?_
              refine g_callV (As := [.int (nI a), .int (nI b), .int (nI cc)]) (st := []) C (c_X6_labelOf hA hv (show a < 2 by omega) (show b < n by omega) (show cc < n by omega)) wX6_labelOf iX6_labelOf sX6_labelOf mX6_62 27 0 (by decide) (by decide) rfl rfl rfl rfl rfl rfl rfl rfl dX6_label_45 ?_
              rintro v9 I9 J9 ⟨h91, h92, h93⟩
              rw [h91, h92, h93]
              clear h91 h92 h93 v9 I9 J9
              show G X _ Z _ I J 48 [(0, .ref (Z.2.2.1 27 0)), (1, .int (nI a)), (2, .int (nI b)), (3, .int (nI cc)), (4, .int (nI y))] [.int (nI (L a b cc))]
              refine g_ist (lv' := [(5, .int (nI (L a b cc))), (0, .ref (Z.2.2.1 27 0)), (1, .int (nI a)), (2, .int (nI b)), (3, .int (nI cc)), (4, .int (nI y))]) C dX6_label_48 rfl rfl ?_
              refine g_aldn C dX6_label_50 rfl ?_
              refine g_get C 27 0 (by decide) (by decide) u6 rfl 1 rfl fX6_13 rfl rfl dX6_label_51 ?_
              refine g_bipush C ((nI 81)) dX6_label_54 (by decide) ?_
              refine g_ildn C dX6_label_56 rfl ?_
              refine g_imul (v := (nI (81 * a))) C dX6_label_57 (pk_mul _ _) ?_
              refine g_bipush C ((nI 9)) dX6_label_58 (by decide) ?_
              refine g_ildn C dX6_label_60 rfl ?_
              refine g_imul (v := (nI (9 * b))) C dX6_label_61 (pk_mul _ _) ?_
              refine g_iadd (v := (nI (81 * a + 9 * b))) C dX6_label_62 (nI_add _ _) ?_
              refine g_ildn C dX6_label_63 rfl ?_
              refine g_iadd (v := (nI (81 * a + 9 * b + cc))) C dX6_label_64 (nI_add _ _) ?_
              refine g_ild C dX6_label_65 rfl ?_
              refine g_iast C 28 0 (by decide) (by decide) (fun _ _ => rfl) (81 * a + 9 * b + cc) (show 81 * a + 9 * b + cc < 162 by omega) rfl dX6_label_67 ?_
              refine g_I (I1 := sK I 28 (up2 (I 28) 0 (81 * a + 9 * b + cc) (nI y))) rfl ?_
              refine g_aldn C dX6_label_68 rfl ?_
              refine g_callV (As := []) (st := []) C (c_X6_changed hA) wX6_changed iX6_changed sX6_changed mX6_52 27 0 (by decide) (by decide) rfl rfl rfl rfl rfl rfl rfl rfl dX6_label_69 ?_
              rintro v9 I9 J9 ⟨h91, e9, h93⟩
              rw [h91, h93]
              clear h91 h93 v9 J9
              show G X _ Z _ I9 J 72 [(5, .int (nI (L a b cc))), (0, .ref (Z.2.2.1 27 0)), (1, .int (nI a)), (2, .int (nI b)), (3, .int (nI cc)), (4, .int (nI y))] []
              refine g_ild C dX6_label_72 rfl ?_
              exact g_ireturn C hr dX6_label_74 (by rw [if_pos hok]; exact ⟨a, b, cc, y, ha, hb, hc2, hy, rfl, rfl, rfl, rfl, mc_fin nm (lbm_cv hv ha hb hc2 hy) (fun q hq => sK_ne (by omega)) e9⟩)
            · refine g_iconst C ((-1)) dX6_label_39 (by decide) ?_
              exact g_ireturn C hr dX6_label_40 (by rw [if_neg (by rw [isV_eq, isV_eq]; first | (rw [c4]; simp; done) | (rw [c12]; simp; done) | (rw [c20]; simp; done) | (rw [show decide (u ≠ v) = false from decide_eq_false (fun q => q c25)]; simp; done) | (rw [show isM lb = false from decide_eq_false (fun q => by first | exact absurd q.1 (Int32.not_le.mpr c30) | exact c36 q.2)]; simp; done))]; exact ⟨rfl, rfl, fun _ _ => rfl, hm⟩)

set_option maxRecDepth 100000 in
set_option maxHeartbeats 4000000 in
/-- tint -/
theorem c_X6_tint {l : Launch} {Y : Yk} (hA : AJ Y.2.2) {I : SI} {J : SJ} {n : Nat} {T : Nat → Nat → Nat} {L : Nat → Nat → Nat → Nat} {ah : Bool} {nm : Nat → Nat} (hm : MI I n T L ah nm) (g v t : Int32) : MX l Y yX6_tint cX6_tint 5 (some .int) 2 80 [.ref (Y.2.2 27 0), .int g, .int v, .int t] I J (fun v' I' J' => if isV n g v && isM t then ∃ a b x, a < 2 ∧ b < n ∧ x < 4 ∧ g = nI a ∧ v = nI b ∧ t = nI x ∧ mP I J (nI (T a b)) n (upT T a b x) L false nm v' I' J' else mP I J (-1) n T L ah nm v' I' J') := by
  refine MX.of hA (by decide) (own := RX6) rfl rfl rfl ?_
  intro X Z hl hY1 hY2 hY3 C hr
  obtain ⟨D0, ca0, ad0⟩ := Y
  dsimp only at hA hY1 hY2 hY3
  subst hY1; subst hY2; subst hY3; subst hl
  show G X 5 Z (QG X Z _) I J 0 [(0, .ref (Z.2.2.1 27 0)), (1, .int g), (2, .int v), (3, .int t)] []
  have hv := hm.1
  obtain ⟨⟨hn1, hn9⟩, -⟩ := id hv
  refine g_ildn C dX6_tint_0 rfl ?_
  refine g_callS (As := [.int g]) (st := []) C (c_X6_isGraph hA g) wX6_isGraph tX6_isGraph mX6_55 rfl rfl rfl rfl dX6_tint_1 ?_
  rintro v9 I9 J9 ⟨h91, h92, h93⟩
  rw [h91, h92, h93]
  clear h91 h92 h93 v9 I9 J9
  show G X _ Z _ I J 4 [(0, .ref (Z.2.2.1 27 0)), (1, .int g), (2, .int v), (3, .int t)] [.int (bI (isG g))]
  refine b_if_eq (tgt := 24) C dX6_tint_4 rfl (fun c4 => ?_) (fun c4 => ?_)
  · refine g_iconst C ((-1)) dX6_tint_24 (by decide) ?_
    exact g_ireturn C hr dX6_tint_25 (by rw [if_neg (by rw [isV_eq]; first | (rw [c4]; simp; done) | (rw [c12]; simp; done) | (rw [show isM t = false from decide_eq_false (fun q => by first | exact absurd q.1 (Int32.not_le.mpr c16) | exact c21 q.2)]; simp; done))]; exact ⟨rfl, rfl, fun _ _ => rfl, hm⟩)
  · refine g_aldn C dX6_tint_7 rfl ?_
    refine g_ildn C dX6_tint_8 rfl ?_
    refine g_callV (As := [.int v]) (st := []) C (c_X6_isVertex hA hm.1 v) wX6_isVertex iX6_isVertex sX6_isVertex mX6_59 27 0 (by decide) (by decide) rfl rfl rfl rfl rfl rfl rfl rfl dX6_tint_9 ?_
    rintro v9 I9 J9 ⟨h91, h92, h93⟩
    rw [h91, h92, h93]
    clear h91 h92 h93 v9 I9 J9
    show G X _ Z _ I J 12 [(0, .ref (Z.2.2.1 27 0)), (1, .int g), (2, .int v), (3, .int t)] [.int (bI (isW n v))]
    refine b_if_eq (tgt := 24) C dX6_tint_12 rfl (fun c12 => ?_) (fun c12 => ?_)
    · refine g_iconst C ((-1)) dX6_tint_24 (by decide) ?_
      exact g_ireturn C hr dX6_tint_25 (by rw [if_neg (by rw [isV_eq]; first | (rw [c4]; simp; done) | (rw [c12]; simp; done) | (rw [show isM t = false from decide_eq_false (fun q => by first | exact absurd q.1 (Int32.not_le.mpr c16) | exact c21 q.2)]; simp; done))]; exact ⟨rfl, rfl, fun _ _ => rfl, hm⟩)
    · refine g_ildn C dX6_tint_15 rfl ?_
      refine g_if_lt (tgt := 24) C dX6_tint_16 rfl (fun c16 => ?_) (fun c16 => ?_)
      · refine g_iconst C ((-1)) dX6_tint_24 (by decide) ?_
        exact g_ireturn C hr dX6_tint_25 (by rw [if_neg (by rw [isV_eq]; first | (rw [c4]; simp; done) | (rw [c12]; simp; done) | (rw [show isM t = false from decide_eq_false (fun q => by first | exact absurd q.1 (Int32.not_le.mpr c16) | exact c21 q.2)]; simp; done))]; exact ⟨rfl, rfl, fun _ _ => rfl, hm⟩)
      · refine g_ildn C dX6_tint_19 rfl ?_
        refine g_iconst C ((nI 3)) dX6_tint_20 (by decide) ?_
        refine g_icmp_le (tgt := 26) C dX6_tint_21 rfl (fun c21 => ?_) (fun c21 => ?_)
        · have c36b : isM t = true := decide_eq_true ⟨Int32.not_lt.mp c16, c21⟩
          have hok : (isV n g v && isM t) = true := by rw [isV_eq, c4, c12, c36b]; rfl
          obtain ⟨a, ha, rfl⟩ := isG_t c4
          obtain ⟨b, hb, rfl⟩ := isW_t (by omega) c12
          obtain ⟨y, hy, rfl⟩ := isM_t c36b
          refine g_aldn C dX6_tint_26 rfl ?_
          refine g_get C 27 0 (by decide) (by decide) u6 rfl 2 rfl fX6_17 rfl rfl dX6_tint_27 ?_
          refine g_bipush C ((nI 9)) dX6_tint_30 (by decide) ?_
          refine g_ildn C dX6_tint_32 rfl ?_
          refine g_imul (v := (nI (9 * a))) C dX6_tint_33 (pk_mul _ _) ?_
          refine g_ildn C dX6_tint_34 rfl ?_
          refine g_iadd (v := (nI (9 * a + b))) C dX6_tint_35 (nI_add _ _) ?_
          refine g_iald C 29 0 (by decide) (by decide) (fun _ _ => rfl) (9 * a + b) (show 9 * a + b < 18 by omega) rfl dX6_tint_36 (v := (nI (T a b))) (hv.t ha hb) ?_
          refine g_ist (lv' := [(4, .int (nI (T a b))), (0, .ref (Z.2.2.1 27 0)), (1, .int (nI a)), (2, .int (nI b)), (3, .int (nI y))]) C dX6_tint_37 rfl rfl ?_
          refine g_aldn C dX6_tint_39 rfl ?_
          refine g_get C 27 0 (by decide) (by decide) u6 rfl 2 rfl fX6_17 rfl rfl dX6_tint_40 ?_
          refine g_bipush C ((nI 9)) dX6_tint_43 (by decide) ?_
          refine g_ildn C dX6_tint_45 rfl ?_
          refine g_imul (v := (nI (9 * a))) C dX6_tint_46 (pk_mul _ _) ?_
          refine g_ildn C dX6_tint_47 rfl ?_
          refine g_iadd (v := (nI (9 * a + b))) C dX6_tint_48 (nI_add _ _) ?_
          refine g_ildn C dX6_tint_49 rfl ?_
          refine g_iast C 29 0 (by decide) (by decide) (fun _ _ => rfl) (9 * a + b) (show 9 * a + b < 18 by omega) rfl dX6_tint_50 ?_
          refine g_I (I1 := sK I 29 (up2 (I 29) 0 (9 * a + b) (nI y))) rfl ?_
          refine g_aldn C dX6_tint_51 rfl ?_
          refine g_callV (As := []) (st := []) C (c_X6_changed hA) wX6_changed iX6_changed sX6_changed mX6_52 27 0 (by decide) (by decide) rfl rfl rfl rfl rfl rfl rfl rfl dX6_tint_52 ?_
          rintro v9 I9 J9 ⟨h91, e9, h93⟩
          rw [h91, h93]
          clear h91 h93 v9 J9
          show G X _ Z _ I9 J 55 [(4, .int (nI (T a b))), (0, .ref (Z.2.2.1 27 0)), (1, .int (nI a)), (2, .int (nI b)), (3, .int (nI y))] []
          refine g_ild C dX6_tint_55 rfl ?_
          exact g_ireturn C hr dX6_tint_57 (by rw [if_pos hok]; exact ⟨a, b, y, ha, hb, hy, rfl, rfl, rfl, mc_fin nm (tnm_cv hv ha hb hy) (fun q hq => sK_ne (by omega)) e9⟩)
        · refine g_iconst C ((-1)) dX6_tint_24 (by decide) ?_
          exact g_ireturn C hr dX6_tint_25 (by rw [if_neg (by rw [isV_eq]; first | (rw [c4]; simp; done) | (rw [c12]; simp; done) | (rw [show isM t = false from decide_eq_false (fun q => by first | exact absurd q.1 (Int32.not_le.mpr c16) | exact c21 q.2)]; simp; done))]; exact ⟨rfl, rfl, fun _ _ => rfl, hm⟩)

set_option maxRecDepth 100000 in
set_option maxHeartbeats 4000000 in
/-- count -/
theorem c_X6_count {l : Launch} {Y : Yk} (hA : AJ Y.2.2) {I : SI} {J : SJ} {n : Nat} {T : Nat → Nat → Nat} {L : Nat → Nat → Nat → Nat} {ah : Bool} {nm : Nat → Nat} (hm : MI I n T L ah nm) (hd : ∀ g v, g < 2 → v < n → L g v v = 0) (w : Int32) : MX l Y yX6_count cX6_count 2 (some .int) 3 120 [.ref (Y.2.2 27 0), .int w] I J (mP I J (cntA n L ah w) n T L ah nm) := by
  refine MX.of hA (by decide) (own := RX6) rfl rfl rfl ?_
  intro X Z hl hY1 hY2 hY3 C hr
  obtain ⟨D0, ca0, ad0⟩ := Y
  dsimp only at hA hY1 hY2 hY3
  subst hY1; subst hY2; subst hY3; subst hl
  show G X 2 Z (QG X Z _) I J 0 [(0, .ref (Z.2.2.1 27 0)), (1, .int w)] []
  have hv := hm.1
  obtain ⟨⟨hn1, hn9⟩, -⟩ := id hv
  refine g_ildn C dX6_count_0 rfl ?_
  rcases tab5 w with hw | hw | hw | hw | hw | hw
  · subst hw
    refine g_tabIn (tgt := 36) C dX6_count_1 (by decide) (by decide) rfl rfl ?_
    refine g_aldn C dX6_count_36 rfl ?_
    refine g_get C 27 0 (by decide) (by decide) u6 rfl 0 rfl fX6_7 rfl rfl dX6_count_37 ?_
    refine g_top (y := (nI n)) hv.2.1 ?_
    exact g_ireturn C hr dX6_count_40 ⟨rfl, rfl, fun _ _ => rfl, hm⟩
  · subst hw
    refine g_tabIn (tgt := 41) C dX6_count_1 (by decide) (by decide) rfl rfl ?_
    refine g_aldn C dX6_count_41 rfl ?_
    refine g_iconst C ((nI 0)) dX6_count_42 (by decide) ?_
    refine g_callV (As := [.int (nI 0)]) (st := []) C (c_X6_edges hA hv (show 0 < 2 by decide) (fun v h => hd 0 v (by decide) h)) wX6_edges iX6_edges sX6_edges mX6_118 27 0 (by decide) (by decide) rfl rfl rfl rfl rfl rfl rfl rfl dX6_count_43 ?_
    rintro v9 I9 J9 ⟨h91, h92, h93⟩
    rw [h91, h92, h93]
    clear h91 h92 h93 v9 I9 J9
    show G X _ Z _ I J 46 [(0, .ref (Z.2.2.1 27 0)), (1, .int (1 : Int32))] [.int (nI (ed n L 0))]
    exact g_ireturn C hr dX6_count_46 ⟨rfl, rfl, fun _ _ => rfl, hm⟩
  · subst hw
    refine g_tabIn (tgt := 47) C dX6_count_1 (by decide) (by decide) rfl rfl ?_
    refine g_aldn C dX6_count_47 rfl ?_
    refine g_iconst C ((nI 1)) dX6_count_48 (by decide) ?_
    refine g_callV (As := [.int (nI 1)]) (st := []) C (c_X6_edges hA hv (show 1 < 2 by decide) (fun v h => hd 1 v (by decide) h)) wX6_edges iX6_edges sX6_edges mX6_118 27 0 (by decide) (by decide) rfl rfl rfl rfl rfl rfl rfl rfl dX6_count_49 ?_
    rintro v9 I9 J9 ⟨h91, h92, h93⟩
    rw [h91, h92, h93]
    clear h91 h92 h93 v9 I9 J9
    show G X _ Z _ I J 52 [(0, .ref (Z.2.2.1 27 0)), (1, .int (2 : Int32))] [.int (nI (ed n L 1))]
    exact g_ireturn C hr dX6_count_52 ⟨rfl, rfl, fun _ _ => rfl, hm⟩
  · subst hw
    refine g_tabIn (tgt := 53) C dX6_count_1 (by decide) (by decide) rfl rfl ?_
    refine g_aldn C dX6_count_53 rfl ?_
    refine g_get C 27 0 (by decide) (by decide) u6 rfl 3 rfl fX6_45 rfl rfl dX6_count_54 ?_
    refine g_top (y := (bI ah)) hm.2.1 ?_
    refine b_if_eq (tgt := 64) C dX6_count_57 rfl (fun c57 => ?_) (fun c57 => ?_)
    · refine g_iconst C ((nI 0)) dX6_count_64 (by decide) ?_
      exact g_ireturn C hr dX6_count_65 ⟨by rw [cntA_3, c57]; rfl, rfl, fun _ _ => rfl, hm⟩
    · refine g_iconst C ((nI 1)) dX6_count_60 (by decide) ?_
      refine g_goto (tgt := 65) C dX6_count_61 rfl ?_
      exact g_ireturn C hr dX6_count_65 ⟨by rw [cntA_3, c57]; rfl, rfl, fun _ _ => rfl, hm⟩
  · subst hw
    refine g_tabIn (tgt := 66) C dX6_count_1 (by decide) (by decide) rfl rfl ?_
    refine g_aldn C dX6_count_66 rfl ?_
    refine g_get C 27 0 (by decide) (by decide) u6 rfl 0 rfl fX6_7 rfl rfl dX6_count_67 ?_
    refine g_top (y := (nI n)) hv.2.1 ?_
    refine g_aldn C dX6_count_70 rfl ?_
    refine g_get C 27 0 (by decide) (by decide) u6 rfl 0 rfl fX6_7 rfl rfl dX6_count_71 ?_
    refine g_top (y := (nI n)) hv.2.1 ?_
    refine g_imul (v := (nI (n * n))) C dX6_count_74 (pk_mul _ _) ?_
    exact g_ireturn C hr dX6_count_75 ⟨rfl, rfl, fun _ _ => rfl, hm⟩
  · refine g_tabOut (tgt := 76) C dX6_count_1 hw.1 rfl ?_
    refine g_iconst C ((-1)) dX6_count_76 (by decide) ?_
    exact g_ireturn C hr dX6_count_77 ⟨by rw [hw.2], rfl, fun _ _ => rfl, hm⟩

set_option maxRecDepth 100000 in
set_option maxHeartbeats 4000000 in
/-- image -/
theorem c_X6_image {l : Launch} {Y : Yk} (hA : AJ Y.2.2) {I : SI} {J : SJ} {n : Nat} {T : Nat → Nat → Nat} {L : Nat → Nat → Nat → Nat} {ah : Bool} {nm : Nat → Nat} (hm : MI I n T L ah nm) (v : Int32) : MX l Y yX6_image cX6_image 2 (some .int) 2 80 [.ref (Y.2.2 27 0), .int v] I J (fun v' I' J' => if ah && isV n (nI 0) v then ∃ b, b < n ∧ v = nI b ∧ mP I J (nI (nm b)) n T L ah nm v' I' J' else mP I J (-1) n T L ah nm v' I' J') := by
  refine MX.of hA (by decide) (own := RX6) rfl rfl rfl ?_
  intro X Z hl hY1 hY2 hY3 C hr
  obtain ⟨D0, ca0, ad0⟩ := Y
  dsimp only at hA hY1 hY2 hY3
  subst hY1; subst hY2; subst hY3; subst hl
  show G X 2 Z (QG X Z _) I J 0 [(0, .ref (Z.2.2.1 27 0)), (1, .int v)] []
  have hv := hm.1
  obtain ⟨⟨hn1, hn9⟩, -⟩ := id hv
  refine g_aldn C dX6_image_0 rfl ?_
  refine g_ildn C dX6_image_1 rfl ?_
  refine g_callV (As := [.int v]) (st := []) C (c_X6_isVertex hA hm.1 v) wX6_isVertex iX6_isVertex sX6_isVertex mX6_59 27 0 (by decide) (by decide) rfl rfl rfl rfl rfl rfl rfl rfl dX6_image_2 ?_
  rintro v9 I9 J9 ⟨h91, h92, h93⟩
  rw [h91, h92, h93]
  clear h91 h92 h93 v9 I9 J9
  show G X _ Z _ I J 5 [(0, .ref (Z.2.2.1 27 0)), (1, .int v)] [.int (bI (isW n v))]
  refine b_if_eq (tgt := 24) C dX6_image_5 rfl (fun c5 => ?_) (fun c5 => ?_)
  · refine g_iconst C ((-1)) dX6_image_24 (by decide) ?_
    exact g_ireturn C hr dX6_image_25 (by rw [if_neg (by rw [isV_eq]; first | (rw [c5]; simp; done) | (rw [c12]; simp; done))]; exact ⟨rfl, rfl, fun _ _ => rfl, hm⟩)
  · refine g_aldn C dX6_image_8 rfl ?_
    refine g_get C 27 0 (by decide) (by decide) u6 rfl 3 rfl fX6_45 rfl rfl dX6_image_9 ?_
    refine g_top (y := (bI ah)) hm.2.1 ?_
    refine b_if_eq (tgt := 24) C dX6_image_12 rfl (fun c12 => ?_) (fun c12 => ?_)
    · refine g_iconst C ((-1)) dX6_image_24 (by decide) ?_
      exact g_ireturn C hr dX6_image_25 (by rw [if_neg (by rw [isV_eq]; first | (rw [c5]; simp; done) | (rw [c12]; simp; done))]; exact ⟨rfl, rfl, fun _ _ => rfl, hm⟩)
    · have hok : (ah && isV n (nI 0) v) = true := by rw [isV_eq, c12, c5]; rfl
      obtain ⟨b, hb, rfl⟩ := isW_t (by omega) c5
      refine g_aldn C dX6_image_15 rfl ?_
      refine g_get C 27 0 (by decide) (by decide) u6 rfl 4 rfl fX6_20 rfl rfl dX6_image_16 ?_
      refine g_ildn C dX6_image_19 rfl ?_
      refine g_iald C 30 0 (by decide) (by decide) (fun _ _ => rfl) b (show b < 9 by omega) rfl dX6_image_20 (v := (nI (nm b))) (hm.2.2.1 c12 b hb) ?_
      refine g_goto (tgt := 25) C dX6_image_21 rfl ?_
      exact g_ireturn C hr dX6_image_25 (by rw [if_pos hok]; exact ⟨b, hb, rfl, rfl, rfl, fun _ _ => rfl, hm⟩)

