/-! ===== the reference: paint, colours, colour ===== -/
/-- the colours that tints give, before place x of round t -/
def tcP (n : Nat) (T : Nat → Nat → Nat) (t x : Nat) (B : Nat → Nat → Int32) : Prop := ∀ s, thr n s → (T (s / 9) (s % 9) < t ∨ (T (s / 9) (s % 9) = t ∧ s < x)) → B 0 s = nI (ct (ntp n T) (T (s / 9) (s % 9)))
theorem tcP.skip {n : Nat} {T : Nat → Nat → Nat} {t x : Nat} {B : Nat → Nat → Int32} (h : tcP n T t x B) (hx : ¬ (thr n x ∧ T (x / 9) (x % 9) = t)) : tcP n T t (x + 1) B := fun s hs q => h s hs (by
  rcases q with q | ⟨q1, q2⟩
  · exact Or.inl q
  · exact Or.inr ⟨q1, by rcases Nat.lt_or_eq_of_le (Nat.le_of_lt_succ q2) with z | z; exact z; subst z; exact absurd ⟨hs, q1⟩ hx⟩)
theorem tcP.step {n : Nat} {T : Nat → Nat → Nat} {t x : Nat} {B : Nat → Nat → Int32} (h : tcP n T t x B) (hx : T (x / 9) (x % 9) = t) : tcP n T t (x + 1) (up2 B 0 x (nI (ct (ntp n T) t))) := fun s hs q => by
  rw [up2_at]
  by_cases e : s = x
  · rw [if_pos ⟨rfl, e⟩, e, hx]
  · rw [if_neg (fun z => e z.2)]
    exact h s hs (by omega)
theorem tcP.next {n : Nat} {T : Nat → Nat → Nat} {t : Nat} {B : Nat → Nat → Int32} (h : tcP n T t 18 B) : tcP n T (t + 1) 0 B := fun s hs q => h s hs (by have := hs.1; omega)
set_option maxRecDepth 100000 in
set_option maxHeartbeats 4000000 in
theorem l_X6_paint_29 {X : Pk} {Z : Zk} {Q : State → Prop} {I : SI} {J : SJ} (hA : AJ Z.2.2.1) (C : Cx X cX6_paint 9 RX6 Z 3 130) (hr : (xE X).sig.returnType = none) {n : Nat} {T : Nat → Nat → Nat} {L : Nat → Nat → Nat → Nat} (hv : MV I n T L) {t : Nat} (ht : t < 4) (hm : I 27 0 13 = nI (ct (ntp n T) t)) (hex : ∀ B, tcP n T (t + 1) 0 B → G X 9 Z Q (sK I 36 B) J 71 [(0, .ref (Z.2.2.1 27 0)), (1, .int (nI t)), (2, .int (bI (ntp n T t)))] []) : ∀ (k : Nat) (x : Nat) (B : Nat → Nat → Int32), 18 - x < k → (x ≤ 18) → (tcP n T t x B) → G X 9 Z (Q) (sK I 36 B) (J) 29 [(0, .ref (Z.2.2.1 27 0)), (1, .int (nI t)), (2, .int (bI (dc (∃ s, s < x ∧ thr n s ∧ T (s / 9) (s % 9) = t)))), (3, .int (nI x))] [] := by
  obtain ⟨⟨hn1, hn9⟩, -⟩ := id hv
  intro k
  induction k with
  | zero => intro x B h; exact absurd h (by omega)
  | succ k ih =>
    intro x B hk hx hB
    refine g_ildn C dX6_paint_29 rfl ?_
    refine g_bipush C ((nI 18)) dX6_paint_30 (by decide) ?_
    refine n_icmp_ge (tgt := 71) C dX6_paint_32 rfl (by omega) (by omega) (fun c32 => ?_) (fun c32 => ?_)
    · have e : x = 18 := by omega
      subst e
      refine g_lv (lv1 := [(0, .ref (Z.2.2.1 27 0)), (1, .int (nI t)), (2, .int (bI (ntp n T t)))]) [0, 1, 2] (by rw [show ntp n T t = dc (∃ s, s < 18 ∧ thr n s ∧ T (s / 9) (s % 9) = t) from dc_congr ⟨fun ⟨s, q1, q2⟩ => ⟨s, q1.1, q1, q2⟩, fun ⟨s, _, q1, q2⟩ => ⟨s, q1, q2⟩⟩]; rfl) ?_
      exact hex B hB.next
    · refine g_aldn C dX6_paint_35 rfl ?_
      refine g_ildn C dX6_paint_36 rfl ?_
      refine g_callV (As := [.int (nI x)]) (st := []) C (c_X6_isThere hA (hv.of (I' := sK I 36 B) (by rw [sK_ne (by decide)]) (sK_ne (by decide)) (sK_ne (by decide))) (x := x) (by omega)) wX6_isThere iX6_isThere sX6_isThere mX6_76 27 0 (by decide) (by decide) rfl rfl rfl rfl rfl rfl rfl rfl dX6_paint_37 ?_
      rintro v9 I9 J9 ⟨h91, h92, h93⟩
      rw [h91, h92, h93]
      clear h91 h92 h93 v9 I9 J9
      show G X _ Z _ (sK I 36 B) J 40 [(0, .ref (Z.2.2.1 27 0)), (1, .int (nI t)), (2, .int (bI (dc (∃ s, s < x ∧ thr n s ∧ T (s / 9) (s % 9) = t)))), (3, .int (nI x))] [.int (bI (decide (x % 9 < n)))]
      refine b_if_eq (tgt := 65) C dX6_paint_40 rfl (fun c40 => ?_) (fun c40 => ?_)
      · refine g_iinc (lv' := [(3, .int (nI (x + 1))), (0, .ref (Z.2.2.1 27 0)), (1, .int (nI t)), (2, .int (bI (dc (∃ s, s < x ∧ thr n s ∧ T (s / 9) (s % 9) = t))))]) C ((nI (x + 1))) dX6_paint_65 rfl (inc1 _) rfl rfl ?_
        refine g_goto (tgt := 29) C dX6_paint_68 rfl ?_
        have hno : ¬ (thr n x ∧ T (x / 9) (x % 9) = t) := fun q => by first | exact thr_n c40 q.1 | exact c50 q.2
        refine g_lv (lv1 := [(0, .ref (Z.2.2.1 27 0)), (1, .int (nI t)), (2, .int (bI (dc (∃ s, s < (x + 1) ∧ thr n s ∧ T (s / 9) (s % 9) = t)))), (3, .int (nI (x + 1)))]) [1, 2, 3, 0] (by rw [show dc (∃ s, s < (x + 1) ∧ thr n s ∧ T (s / 9) (s % 9) = t) = dc (∃ s, s < x ∧ thr n s ∧ T (s / 9) (s % 9) = t) from dc_congr ⟨fun ⟨s, q1, q2⟩ => ⟨s, by rcases Nat.lt_or_eq_of_le (Nat.le_of_lt_succ q1) with z | z; exact z; rw [z] at q2; exact absurd q2 hno, q2⟩, fun ⟨s, q1, q2⟩ => ⟨s, by omega, q2⟩⟩]; rfl) ?_
        exact ih (x + 1) B (by omega) (by omega) (hB.skip hno)
      · have h4 := (hv.ts (thr_d (show x < 18 by omega) c40)).2
        refine g_aldn C dX6_paint_43 rfl ?_
        refine g_get C 27 0 (by decide) (by decide) u6 rfl 2 rfl fX6_17 rfl rfl dX6_paint_44 ?_
        refine g_ildn C dX6_paint_47 rfl ?_
        refine g_iald C 29 0 (by decide) (by decide) (fun _ _ => rfl) x (show x < 18 by omega) rfl dX6_paint_48 (v := (nI (T (x / 9) (x % 9)))) (by rw [sK_ne (by decide)]; exact (hv.ts (thr_d (by omega) c40)).1) ?_
        refine g_ildn C dX6_paint_49 rfl ?_
        refine n_icmp_ne (tgt := 65) C dX6_paint_50 rfl (by omega) (by omega) (fun c50 => ?_) (fun c50 => ?_)
        · refine g_iinc (lv' := [(3, .int (nI (x + 1))), (0, .ref (Z.2.2.1 27 0)), (1, .int (nI t)), (2, .int (bI (dc (∃ s, s < x ∧ thr n s ∧ T (s / 9) (s % 9) = t))))]) C ((nI (x + 1))) dX6_paint_65 rfl (inc1 _) rfl rfl ?_
          refine g_goto (tgt := 29) C dX6_paint_68 rfl ?_
          have hno : ¬ (thr n x ∧ T (x / 9) (x % 9) = t) := fun q => by first | exact thr_n c40 q.1 | exact c50 q.2
          refine g_lv (lv1 := [(0, .ref (Z.2.2.1 27 0)), (1, .int (nI t)), (2, .int (bI (dc (∃ s, s < (x + 1) ∧ thr n s ∧ T (s / 9) (s % 9) = t)))), (3, .int (nI (x + 1)))]) [1, 2, 3, 0] (by rw [show dc (∃ s, s < (x + 1) ∧ thr n s ∧ T (s / 9) (s % 9) = t) = dc (∃ s, s < x ∧ thr n s ∧ T (s / 9) (s % 9) = t) from dc_congr ⟨fun ⟨s, q1, q2⟩ => ⟨s, by rcases Nat.lt_or_eq_of_le (Nat.le_of_lt_succ q1) with z | z; exact z; rw [z] at q2; exact absurd q2 hno, q2⟩, fun ⟨s, q1, q2⟩ => ⟨s, by omega, q2⟩⟩]; rfl) ?_
          exact ih (x + 1) B (by omega) (by omega) (hB.skip hno)
        · refine g_aldn C dX6_paint_53 rfl ?_
          refine g_get C 27 0 (by decide) (by decide) u6 rfl 11 rfl fX6_39 rfl rfl dX6_paint_54 ?_
          refine g_ildn C dX6_paint_57 rfl ?_
          refine g_aldn C dX6_paint_58 rfl ?_
          refine g_get C 27 0 (by decide) (by decide) u6 rfl 13 rfl fX6_69 rfl rfl dX6_paint_59 ?_
          refine g_top (y := (nI (ct (ntp n T) t))) (by rw [sK_ne (by decide)]; exact hm) ?_
          refine g_iast C 36 0 (by decide) (by decide) (fun _ _ => rfl) x (show x < 18 by omega) rfl dX6_paint_62 ?_
          refine g_I (I1 := sK I 36 (up2 B 0 x (nI (ct (ntp n T) t)))) (by rw [sK_self, sK_sK]) ?_
          refine g_iconst C ((nI 1)) dX6_paint_63 (by decide) ?_
          refine g_istn (lv' := [(2, .int (nI 1)), (0, .ref (Z.2.2.1 27 0)), (1, .int (nI t)), (3, .int (nI x))]) C dX6_paint_64 rfl rfl ?_
          refine g_iinc (lv' := [(3, .int (nI (x + 1))), (2, .int (nI 1)), (0, .ref (Z.2.2.1 27 0)), (1, .int (nI t))]) C ((nI (x + 1))) dX6_paint_65 rfl (inc1 _) rfl rfl ?_
          refine g_goto (tgt := 29) C dX6_paint_68 rfl ?_
          refine g_lv (lv1 := [(0, .ref (Z.2.2.1 27 0)), (1, .int (nI t)), (2, .int (bI (dc (∃ s, s < (x + 1) ∧ thr n s ∧ T (s / 9) (s % 9) = t)))), (3, .int (nI (x + 1)))]) [2, 3, 1, 0] (by rw [show dc (∃ s, s < (x + 1) ∧ thr n s ∧ T (s / 9) (s % 9) = t) = true from dc_t.mpr ⟨x, by omega, thr_d (by omega) c40, c50⟩]; rfl) ?_
          exact ih (x + 1) _ (by omega) (by omega) (hB.step c50)

set_option maxRecDepth 100000 in
set_option maxHeartbeats 4000000 in
theorem l_X6_paint_20 {X : Pk} {Z : Zk} {Q : State → Prop} {I : SI} {J : SJ} (hA : AJ Z.2.2.1) (C : Cx X cX6_paint 9 RX6 Z 3 130) (hr : (xE X).sig.returnType = none) {n : Nat} {T : Nat → Nat → Nat} {L : Nat → Nat → Nat → Nat} (hv : MV I n T L) {A0 : Nat → Nat → Int32} (hA0 : A0 0 0 = I 27 0 0) (hex : ∀ B, tcP n T 4 0 B → G X 9 Z Q (sK (sK I 27 (up2 A0 0 13 (nI (ct (ntp n T) 4)))) 36 B) J 95 [(0, .ref (Z.2.2.1 27 0))] []) : ∀ (k : Nat) (t : Nat) (B : Nat → Nat → Int32), 4 - t < k → (t ≤ 4) → (tcP n T t 0 B) → G X 9 Z (Q) (sK (sK I 27 (up2 A0 0 13 (nI (ct (ntp n T) t)))) 36 B) (J) 20 [(0, .ref (Z.2.2.1 27 0)), (1, .int (nI t))] [] := by
  obtain ⟨⟨hn1, hn9⟩, -⟩ := id hv
  intro k
  induction k with
  | zero => intro t B h; exact absurd h (by omega)
  | succ k ih =>
    intro t B hk ht hB
    have hct := ct_le (ntp n T) t
    refine g_ildn C dX6_paint_20 rfl ?_
    refine g_iconst C ((nI 4)) dX6_paint_21 (by decide) ?_
    refine n_icmp_ge (tgt := 95) C dX6_paint_22 rfl (by omega) (by omega) (fun c22 => ?_) (fun c22 => ?_)
    · have e : t = 4 := by omega
      subst e
      refine g_lv [0] rfl ?_
      exact hex B hB
    · refine g_iconst C ((nI 0)) dX6_paint_25 (by decide) ?_
      refine g_istn (lv' := [(2, .int (nI 0)), (0, .ref (Z.2.2.1 27 0)), (1, .int (nI t))]) C dX6_paint_26 rfl rfl ?_
      refine g_iconst C ((nI 0)) dX6_paint_27 (by decide) ?_
      refine g_istn (lv' := [(3, .int (nI 0)), (2, .int (nI 0)), (0, .ref (Z.2.2.1 27 0)), (1, .int (nI t))]) C dX6_paint_28 rfl rfl ?_
      refine g_lv (lv1 := [(0, .ref (Z.2.2.1 27 0)), (1, .int (nI t)), (2, .int (bI (dc (∃ s, s < 0 ∧ thr n s ∧ T (s / 9) (s % 9) = t)))), (3, .int (nI 0))]) [2, 3, 1, 0] (by rw [show dc (∃ s, s < 0 ∧ thr n s ∧ T (s / 9) (s % 9) = t) = false from dc_f (fun ⟨s, q, _⟩ => absurd q (Nat.not_lt_zero s))]; rfl) ?_
      refine l_X6_paint_29 hA C hr (hv.of (I' := sK I 27 (up2 A0 0 13 (nI (ct (ntp n T) t)))) (by rw [sK_self, up2_ne (by decide)]; exact hA0) (sK_ne (by decide)) (sK_ne (by decide))) (t := t) (by omega) (by rw [sK_self, up2_self]) ?_ 19 0 B (by omega) (by omega) hB
      intro B2 hB2
      refine g_aldn C dX6_paint_71 rfl ?_
      refine g_dup C dX6_paint_72 rfl ?_
      refine g_get C 27 0 (by decide) (by decide) u6 rfl 13 rfl fX6_69 rfl rfl dX6_paint_73 ?_
      refine g_top (y := (nI (ct (ntp n T) t))) (by rw [sK_ne (by decide), sK_self, up2_self]) ?_
      refine g_ildn C dX6_paint_76 rfl ?_
      refine b_if_eq (tgt := 84) C dX6_paint_77 rfl (fun c77 => ?_) (fun c77 => ?_)
      · refine g_iconst C ((nI 0)) dX6_paint_84 (by decide) ?_
        refine g_iadd (v := (nI (ct (ntp n T) t + 0))) C dX6_paint_85 (nI_add _ _) ?_
        refine g_put C 27 0 (by decide) (by decide) tyX6 tyX6_ok nmX6 u6 rfl 13 rfl fX6_69 rfl (fun _ _ => rfl) (by simp [va_up]) rfl rfl rfl dX6_paint_86 ?_
        refine g_I (I1 := sK (sK I 27 (up2 A0 0 13 (nI (ct (ntp n T) (t + 1))))) 36 B2) (by rw [sK_ne (by decide : (27 : Nat) ≠ 36), sK_self, sK_swap _ (by decide : (36 : Nat) ≠ 27), sK_sK, up2_up2, show ct (ntp n T) (t + 1) = ct (ntp n T) t + 0 from ct_f c77]) ?_
        refine g_iinc (lv' := [(1, .int (nI (t + 1))), (0, .ref (Z.2.2.1 27 0)), (2, .int (bI (ntp n T t)))]) C ((nI (t + 1))) dX6_paint_89 rfl (inc1 _) rfl rfl ?_
        refine g_goto (tgt := 20) C dX6_paint_92 rfl ?_
        refine g_lv [1, 0] rfl ?_
        exact ih (t + 1) B2 (by omega) (by omega) hB2
      · refine g_iconst C ((nI 1)) dX6_paint_80 (by decide) ?_
        refine g_goto (tgt := 85) C dX6_paint_81 rfl ?_
        refine g_iadd (v := (nI (ct (ntp n T) t + 1))) C dX6_paint_85 (nI_add _ _) ?_
        refine g_put C 27 0 (by decide) (by decide) tyX6 tyX6_ok nmX6 u6 rfl 13 rfl fX6_69 rfl (fun _ _ => rfl) (by simp [va_up]) rfl rfl rfl dX6_paint_86 ?_
        refine g_I (I1 := sK (sK I 27 (up2 A0 0 13 (nI (ct (ntp n T) (t + 1))))) 36 B2) (by rw [sK_ne (by decide : (27 : Nat) ≠ 36), sK_self, sK_swap _ (by decide : (36 : Nat) ≠ 27), sK_sK, up2_up2, show ct (ntp n T) (t + 1) = ct (ntp n T) t + 1 from ct_t c77]) ?_
        refine g_iinc (lv' := [(1, .int (nI (t + 1))), (0, .ref (Z.2.2.1 27 0)), (2, .int (bI (ntp n T t)))]) C ((nI (t + 1))) dX6_paint_89 rfl (inc1 _) rfl rfl ?_
        refine g_goto (tgt := 20) C dX6_paint_92 rfl ?_
        refine g_lv [1, 0] rfl ?_
        exact ih (t + 1) B2 (by omega) (by omega) hB2

def ppP (I : SI) (J : SJ) (n : Nat) (T : Nat → Nat → Nat) (L : Nat → Nat → Nat → Nat) (ah : Bool) (nm : Nat → Nat) : Option Value → SI → SJ → Prop := fun v' I' J' => v' = none ∧ J' = J ∧ (∀ q, q < 27 → I' q = I q) ∧ MI I' n T L ah nm ∧ MPk I' n T L
theorem pp_fin {I : SI} {J : SJ} {n : Nat} {T : Nat → Nat → Nat} {L : Nat → Nat → Nat → Nat} {ah : Bool} {nm : Nat → Nat} {A0 B E : Nat → Nat → Int32} {j : Nat} (hm : MI I n T L ah nm) (eA : A0 = (up2 (I 27) 0 10 (nI 1))) (hj : rn2 n T L j) (hB : ∀ s, thr n s → B 0 s = nI (cs n T L j s)) : ppP I J n T L ah nm none (sK (sK (sK I 27 (up2 A0 0 13 (nI (ms n T L j)))) 36 B) 37 E) J := by
  subst eA
  have e27 : (sK (sK (sK I 27 (up2 (up2 (I 27) 0 10 (nI 1)) 0 13 (nI (ms n T L j)))) 36 B) 37 E) 27 = up2 (up2 (I 27) 0 10 (nI 1)) 0 13 (nI (ms n T L j)) := (sK_ne (by decide)).trans ((sK_ne (by decide)).trans (sK_self _ _ _))
  have e36 : (sK (sK (sK I 27 (up2 (up2 (I 27) 0 10 (nI 1)) 0 13 (nI (ms n T L j)))) 36 B) 37 E) 36 = B := (sK_ne (by decide)).trans (sK_self _ _ _)
  have eo : ∀ q, q ≠ 27 → q ≠ 36 → q ≠ 37 → (sK (sK (sK I 27 (up2 (up2 (I 27) 0 10 (nI 1)) 0 13 (nI (ms n T L j)))) 36 B) 37 E) q = I q := fun q a b c => by rw [sK_ne c, sK_ne b, sK_ne a]
  have hp : MPk (sK (sK (sK I 27 (up2 (up2 (I 27) 0 10 (nI 1)) 0 13 (nI (ms n T L j)))) 36 B) 37 E) n T L := ⟨j, hj, by rw [e27, up2_self], by rw [e36]; exact hB⟩
  refine ⟨rfl, rfl, fun q hq => eo q (by omega) (by omega) (by omega), ⟨hm.1.of (by rw [e27, up2_ne (by decide), up2_ne (by decide)]) (eo 28 (by decide) (by decide) (by decide)) (eo 29 (by decide) (by decide) (by decide)), by rw [e27, up2_ne (by decide), up2_ne (by decide)]; exact hm.2.1, by rw [eo 30 (by decide) (by decide) (by decide)]; exact hm.2.2.1, ⟨true, by rw [e27, up2_ne (by decide), up2_self]; rfl, fun _ => hp⟩, ?_⟩, hp⟩
  unfold MFk
  rw [eo 33 (by decide) (by decide) (by decide), eo 34 (by decide) (by decide) (by decide)]
  exact hm.2.2.2.2
set_option maxRecDepth 100000 in
set_option maxHeartbeats 4000000 in
theorem l_X6_paint_97 {X : Pk} {Z : Zk} {I : SI} {J : SJ} (hA : AJ Z.2.2.1) (C : Cx X cX6_paint 9 RX6 Z 3 130) (hr : (xE X).sig.returnType = none) {n : Nat} {T : Nat → Nat → Nat} {L : Nat → Nat → Nat → Nat} {ah : Bool} {nm : Nat → Nat} (hm : MI I n T L ah nm) {A0 : Nat → Nat → Int32} (eA : A0 = (up2 (I 27) 0 10 (nI 1))) : ∀ (k : Nat) (j : Nat) (bf : Nat) (B : Nat → Nat → Int32) (E : Nat → Nat → Int32), 18 - bf < k → ((j = 0 ∧ bf = 0) ∨ (1 ≤ j ∧ bf = ms n T L (j - 1))) → (∀ i, 1 ≤ i → i < j → ms n T L (i - 1) < ms n T L i) → (∀ s, thr n s → B 0 s = nI (cs n T L j s)) → G X 9 Z (QG X Z (ppP I J n T L ah nm)) (sK (sK (sK I 27 (up2 A0 0 13 (nI (ms n T L j)))) 36 B) 37 E) (J) 97 [(0, .ref (Z.2.2.1 27 0)), (1, .int (nI bf))] [] := by
  intro k
  induction k with
  | zero => intro j bf B E h; exact absurd h (by omega)
  | succ k ih =>
    intro j bf B E hk hb hup hB
    have hv := hm.1
    obtain ⟨⟨hn1, hn9⟩, -⟩ := id hv
    have hA0 : A0 0 0 = I 27 0 0 := by rw [eA, up2_ne (by decide)]
    have hml := ms_le n T L j
    have hmm := ms_le n T L (j + 1)
    have hbf : bf ≤ 18 := by rcases hb with ⟨q1, q2⟩ | ⟨q1, q2⟩; omega; rw [q2]; exact ms_le n T L (j - 1)
    refine g_ildn C dX6_paint_97 rfl ?_
    refine g_aldn C dX6_paint_98 rfl ?_
    refine g_get C 27 0 (by decide) (by decide) u6 rfl 13 rfl fX6_69 rfl rfl dX6_paint_99 ?_
    refine g_top (y := (nI (ms n T L j))) (by rw [sK_ne (by decide), sK_ne (by decide), sK_self, up2_self]) ?_
    refine n_icmp_ge (tgt := 331) C dX6_paint_102 rfl (by omega) (by omega) (fun c102 => ?_) (fun c102 => ?_)
    · exact g_return C hr dX6_paint_331 (pp_fin hm eA (by rcases hb with ⟨q1, q2⟩ | ⟨q1, q2⟩; exact absurd (ms_pos hn1 T L j) (by omega); exact ⟨q1, hup, by rw [← q2]; omega⟩) hB)
    · refine g_aldn C dX6_paint_105 rfl ?_
      refine g_get C 27 0 (by decide) (by decide) u6 rfl 13 rfl fX6_69 rfl rfl dX6_paint_106 ?_
      refine g_top (y := (nI (ms n T L j))) (by rw [sK_ne (by decide), sK_ne (by decide), sK_self, up2_self]) ?_
      refine g_istn (lv' := [(1, .int (nI (ms n T L j))), (0, .ref (Z.2.2.1 27 0))]) C dX6_paint_109 rfl rfl ?_
      refine g_iconst C ((nI 0)) dX6_paint_110 (by decide) ?_
      refine g_istn (lv' := [(2, .int (nI 0)), (1, .int (nI (ms n T L j))), (0, .ref (Z.2.2.1 27 0))]) C dX6_paint_111 rfl rfl ?_
      refine g_iconst C ((nI 0)) dX6_paint_112 (by decide) ?_
      refine g_istn (lv' := [(3, .int (nI 0)), (2, .int (nI 0)), (1, .int (nI (ms n T L j))), (0, .ref (Z.2.2.1 27 0))]) C dX6_paint_113 rfl rfl ?_
      refine g_lv [3, 2, 1, 0] rfl ?_
      refine l_X6_paint_114 (I := (sK (sK I 27 (up2 A0 0 13 (nI (ms n T L j)))) 36 B)) (m := ms n T L j) (c := cs n T L j) (bf := ms n T L j) hA C hr (hv.of (I' := (sK (sK I 27 (up2 A0 0 13 (nI (ms n T L j)))) 36 B)) (by rw [sK_ne (by decide), sK_self, up2_ne (by decide)]; exact hA0) (by rw [sK_ne (by decide), sK_ne (by decide)]) (by rw [sK_ne (by decide), sK_ne (by decide)])) (show MC (sK (sK I 27 (up2 A0 0 13 (nI (ms n T L j)))) 36 B) n (cs n T L j) from fun s hs => ⟨by rw [sK_self]; exact hB s hs, cs_lt j hs⟩) (show (sK (sK I 27 (up2 A0 0 13 (nI (ms n T L j)))) 36 B) 27 0 13 = nI (ms n T L j) by rw [sK_ne (by decide), sK_self, up2_self]) (ms_le n T L j) (fun s hs => cs_ms j hs) ?_ 19 0 E (by omega) (by omega) (fun r q => absurd q (Nat.not_lt_zero r))
      intro E2 hE2
      show G X 9 Z _ (sK (sK (sK I 27 (up2 A0 0 13 (nI (ms n T L j)))) 36 B) 37 E2) J 297 [(0, .ref (Z.2.2.1 27 0)), (1, .int (nI (ms n T L j))), (2, .int (nI (ms n T L (j + 1)))), (3, .int (nI 18))] []
      refine g_iconst C ((nI 0)) dX6_paint_297 (by decide) ?_
      refine g_istn (lv' := [(3, .int (nI 0)), (0, .ref (Z.2.2.1 27 0)), (1, .int (nI (ms n T L j))), (2, .int (nI (ms n T L (j + 1))))]) C dX6_paint_298 rfl rfl ?_
      refine g_lv [1, 2, 3, 0] rfl ?_
      refine g_I (I1 := sK (sK (sK I 27 (up2 A0 0 13 (nI (ms n T L j)))) 37 E2) 36 B) (by rw [sK_swap _ (by decide : (36 : Nat) ≠ 37)]) ?_
      refine l_X6_paint_299 (I := (sK (sK I 27 (up2 A0 0 13 (nI (ms n T L j)))) 37 E2)) hA C hr ?_ 19 0 B (by omega) (by omega) (fun r q => absurd q (Nat.not_lt_zero r))
      intro B2 hB2
      refine g_I (I1 := sK (sK (sK I 27 (up2 A0 0 13 (nI (ms n T L j)))) 36 B2) 37 E2) (by rw [sK_swap _ (by decide : (37 : Nat) ≠ 36)]) ?_
      have hB3 : ∀ s, thr n s → B2 0 s = nI (cs n T L (j + 1) s) := fun s hs => by
        rw [hB2 s hs.1, sK_self]
        exact hE2 s hs.1 hs
      refine g_aldn C dX6_paint_323 rfl ?_
      refine g_ildn C dX6_paint_324 rfl ?_
      refine g_put C 27 0 (by decide) (by decide) tyX6 tyX6_ok nmX6 u6 rfl 13 rfl fX6_69 rfl (fun _ _ => rfl) (by simp [va_up]) rfl rfl rfl dX6_paint_325 ?_
      refine g_I (I1 := sK (sK (sK I 27 (up2 A0 0 13 (nI (ms n T L (j + 1))))) 36 B2) 37 E2) (by rw [sK_ne (by decide : (27 : Nat) ≠ 37), sK_ne (by decide : (27 : Nat) ≠ 36), sK_self, sk3a _ (by decide) (by decide), up2_up2]) ?_
      refine g_goto (tgt := 97) C dX6_paint_328 rfl ?_
      refine g_lv [0, 1] rfl ?_
      exact ih (j + 1) (ms n T L j) B2 E2 (by omega) (Or.inr ⟨by omega, rfl⟩) (fun i h1 h2 => by rcases Nat.lt_or_eq_of_le (Nat.le_of_lt_succ h2) with z | z; exact hup i h1 z; subst z; rcases hb with ⟨q1, q2⟩ | ⟨q1, q2⟩; omega; rw [← q2]; exact c102) hB3

set_option maxRecDepth 100000 in
set_option maxHeartbeats 4000000 in
/-- paint -/
theorem c_X6_paint {l : Launch} {Y : Yk} (hA : AJ Y.2.2) {I : SI} {J : SJ} {n : Nat} {T : Nat → Nat → Nat} {L : Nat → Nat → Nat → Nat} {ah : Bool} {nm : Nat → Nat} (hm : MI I n T L ah nm)  : MX l Y yX6_paint cX6_paint 9 (none) 3 130 [.ref (Y.2.2 27 0)] I J (ppP I J n T L ah nm) := by
  refine MX.of hA (by decide) (own := RX6) rfl rfl rfl ?_
  intro X Z hl hY1 hY2 hY3 C hr
  obtain ⟨D0, ca0, ad0⟩ := Y
  dsimp only at hA hY1 hY2 hY3
  subst hY1; subst hY2; subst hY3; subst hl
  show G X 9 Z (QG X Z _) I J 0 [(0, .ref (Z.2.2.1 27 0))] []
  have hv := hm.1
  obtain ⟨⟨hn1, hn9⟩, -⟩ := id hv
  obtain ⟨ic, hic1, hic2⟩ := hm.2.2.2.1
  refine g_aldn C dX6_paint_0 rfl ?_
  refine g_get C 27 0 (by decide) (by decide) u6 rfl 10 rfl fX6_49 rfl rfl dX6_paint_1 ?_
  refine g_top (y := (bI ic)) hic1 ?_
  refine b_if_eq (tgt := 8) C dX6_paint_4 rfl (fun c4 => ?_) (fun c4 => ?_)
  · refine g_aldn C dX6_paint_8 rfl ?_
    refine g_iconst C ((nI 1)) dX6_paint_9 (by decide) ?_
    refine g_put C 27 0 (by decide) (by decide) tyX6 tyX6_ok nmX6 u6 rfl 10 rfl fX6_49 rfl (fun _ _ => rfl) (by simp [va_up]) rfl (by decide) (by decide) dX6_paint_10 ?_
    refine g_I (I1 := sK I 27 (up2 (I 27) 0 10 (nI 1))) rfl ?_
    refine g_aldn C dX6_paint_13 rfl ?_
    refine g_iconst C ((nI 0)) dX6_paint_14 (by decide) ?_
    refine g_put C 27 0 (by decide) (by decide) tyX6 tyX6_ok nmX6 u6 rfl 13 rfl fX6_69 rfl (fun _ _ => rfl) (by simp [va_up]) rfl rfl rfl dX6_paint_15 ?_
    refine g_I (I1 := sK I 27 (up2 (up2 (I 27) 0 10 (nI 1)) 0 13 (nI 0))) (by rw [sK_self, sK_sK]) ?_
    refine g_iconst C ((nI 0)) dX6_paint_18 (by decide) ?_
    refine g_istn (lv' := [(1, .int (nI 0)), (0, .ref (Z.2.2.1 27 0))]) C dX6_paint_19 rfl rfl ?_
    refine g_lv [1, 0] rfl ?_
    refine g_I (I1 := sK (sK I 27 (up2 (up2 (I 27) 0 10 (nI 1)) 0 13 (nI (ct (ntp n T) 0)))) 36 (I 36)) (by rw [show I 36 = (sK I 27 (up2 (up2 (I 27) 0 10 (nI 1)) 0 13 (nI (ct (ntp n T) 0)))) 36 from (sK_ne (by decide)).symm, sK_id]; rfl) ?_
    refine l_X6_paint_20 hA C hr hv (A0 := (up2 (I 27) 0 10 (nI 1))) (by rw [up2_ne (by decide)]) ?_ 5 0 (I 36) (by omega) (by omega) (fun s hs q => by omega)
    intro B hB
    refine g_iconst C ((nI 0)) dX6_paint_95 (by decide) ?_
    refine g_istn (lv' := [(1, .int (nI 0)), (0, .ref (Z.2.2.1 27 0))]) C dX6_paint_96 rfl rfl ?_
    refine g_lv [1, 0] rfl ?_
    refine g_I (I1 := sK (sK (sK I 27 (up2 (up2 (I 27) 0 10 (nI 1)) 0 13 (nI (ms n T L 0)))) 36 B) 37 (I 37)) (by rw [show ms n T L 0 = ct (ntp n T) 4 from nt_cn (fun x hx => (hv.ts hx).2)]; rw [show I 37 = (sK (sK I 27 (up2 (up2 (I 27) 0 10 (nI 1)) 0 13 (nI (ct (ntp n T) 4)))) 36 B) 37 from ((sK_ne (by decide)).trans (sK_ne (by decide))).symm, sK_id]) ?_
    exact l_X6_paint_97 hA C hr hm rfl 19 0 0 B (I 37) (by omega) (Or.inl ⟨rfl, rfl⟩) (fun i h1 h2 => absurd h2 (by omega)) (fun s hs => by rw [hB s hs (Or.inl (hv.ts hs).2)]; exact congrArg nI (nt_rk T s).symm)
  · exact g_return C hr dX6_paint_7 ⟨rfl, rfl, fun _ _ => rfl, hm, hic2 c4⟩

set_option maxRecDepth 100000 in
set_option maxHeartbeats 4000000 in
/-- colours -/
theorem c_X6_colours {l : Launch} {Y : Yk} (hA : AJ Y.2.2) {I : SI} {J : SJ} {n : Nat} {T : Nat → Nat → Nat} {L : Nat → Nat → Nat → Nat} {ah : Bool} {nm : Nat → Nat} (hm : MI I n T L ah nm)  : MX l Y yX6_colours cX6_colours 1 (some .int) 4 180 [.ref (Y.2.2 27 0)] I J (fun v' I' J' => ∃ k, rn2 n T L k ∧ mP I J (nI (ms n T L k)) n T L ah nm v' I' J') := by
  refine MX.of hA (by decide) (own := RX6) rfl rfl rfl ?_
  intro X Z hl hY1 hY2 hY3 C hr
  obtain ⟨D0, ca0, ad0⟩ := Y
  dsimp only at hA hY1 hY2 hY3
  subst hY1; subst hY2; subst hY3; subst hl
  show G X 1 Z (QG X Z _) I J 0 [(0, .ref (Z.2.2.1 27 0))] []
  refine g_aldn C dX6_colours_0 rfl ?_
  refine g_callV (As := []) (st := []) C (c_X6_paint hA hm) wX6_paint iX6_paint sX6_paint mX6_83 27 0 (by decide) (by decide) rfl rfl rfl rfl rfl rfl rfl rfl dX6_colours_1 ?_
  rintro v9 I2 J9 ⟨h91, h93, hk2, hm2, k, hk, hp1, hp2⟩
  rw [h91, h93]
  clear h91 h93 v9 J9
  show G X _ Z _ I2 J 4 [(0, .ref (Z.2.2.1 27 0))] []
  refine g_aldn C dX6_colours_4 rfl ?_
  refine g_get C 27 0 (by decide) (by decide) u6 rfl 13 rfl fX6_69 rfl rfl dX6_colours_5 ?_
  refine g_top (y := (nI (ms n T L k))) hp1 ?_
  exact g_ireturn C hr dX6_colours_8 ⟨k, hk, rfl, rfl, hk2, hm2⟩

set_option maxRecDepth 100000 in
set_option maxHeartbeats 4000000 in
/-- colour -/
theorem c_X6_colour {l : Launch} {Y : Yk} (hA : AJ Y.2.2) {I : SI} {J : SJ} {n : Nat} {T : Nat → Nat → Nat} {L : Nat → Nat → Nat → Nat} {ah : Bool} {nm : Nat → Nat} (hm : MI I n T L ah nm) (g v : Int32) : MX l Y yX6_colour cX6_colour 3 (some .int) 4 180 [.ref (Y.2.2 27 0), .int g, .int v] I J (fun v' I' J' => if isV n g v then ∃ k a b, rn2 n T L k ∧ a < 2 ∧ b < n ∧ g = nI a ∧ v = nI b ∧ mP I J (nI (col n T L k a b)) n T L ah nm v' I' J' else mP I J (-1) n T L ah nm v' I' J') := by
  refine MX.of hA (by decide) (own := RX6) rfl rfl rfl ?_
  intro X Z hl hY1 hY2 hY3 C hr
  obtain ⟨D0, ca0, ad0⟩ := Y
  dsimp only at hA hY1 hY2 hY3
  subst hY1; subst hY2; subst hY3; subst hl
  show G X 3 Z (QG X Z _) I J 0 [(0, .ref (Z.2.2.1 27 0)), (1, .int g), (2, .int v)] []
  have hv := hm.1
  obtain ⟨⟨hn1, hn9⟩, -⟩ := id hv
  refine g_ildn C dX6_colour_0 rfl ?_
  refine g_callS (As := [.int g]) (st := []) C (c_X6_isGraph hA g) wX6_isGraph tX6_isGraph mX6_55 rfl rfl rfl rfl dX6_colour_1 ?_
  rintro v9 I9 J9 ⟨h91, h92, h93⟩
  rw [h91, h92, h93]
  clear h91 h92 h93 v9 I9 J9
  show G X _ Z _ I J 4 [(0, .ref (Z.2.2.1 27 0)), (1, .int g), (2, .int v)] [.int (bI (isG g))]
  refine b_if_eq (tgt := 15) C dX6_colour_4 rfl (fun c4 => ?_) (fun c4 => ?_)
  · refine g_iconst C ((-1)) dX6_colour_15 (by decide) ?_
    exact g_ireturn C hr dX6_colour_16 (by rw [if_neg (by rw [isV_eq]; first | (rw [c4]; simp; done) | (rw [c12]; simp; done))]; exact ⟨rfl, rfl, fun _ _ => rfl, hm⟩)
  · refine g_aldn C dX6_colour_7 rfl ?_
    refine g_ildn C dX6_colour_8 rfl ?_
    refine g_callV (As := [.int v]) (st := []) C (c_X6_isVertex hA hm.1 v) wX6_isVertex iX6_isVertex sX6_isVertex mX6_59 27 0 (by decide) (by decide) rfl rfl rfl rfl rfl rfl rfl rfl dX6_colour_9 ?_
    rintro v9 I9 J9 ⟨h91, h92, h93⟩
    rw [h91, h92, h93]
    clear h91 h92 h93 v9 I9 J9
    show G X _ Z _ I J 12 [(0, .ref (Z.2.2.1 27 0)), (1, .int g), (2, .int v)] [.int (bI (isW n v))]
    refine b_if_ne (tgt := 17) C dX6_colour_12 rfl (fun c12 => ?_) (fun c12 => ?_)
    · have hok : isV n g v = true := by rw [isV_eq, c4, c12]; rfl
      obtain ⟨a, ha, rfl⟩ := isG_t c4
      obtain ⟨b, hb, rfl⟩ := isW_t (by omega) c12
      refine g_aldn C dX6_colour_17 rfl ?_
      refine g_callV (As := []) (st := []) C (c_X6_paint hA hm) wX6_paint iX6_paint sX6_paint mX6_83 27 0 (by decide) (by decide) rfl rfl rfl rfl rfl rfl rfl rfl dX6_colour_18 ?_
      rintro v9 I2 J9 ⟨h91, h93, hk2, hm2, k, hk, hp1, hp2⟩
      rw [h91, h93]
      clear h91 h93 v9 J9
      show G X _ Z _ I2 J 21 [(0, .ref (Z.2.2.1 27 0)), (1, .int (nI a)), (2, .int (nI b))] []
      refine g_aldn C dX6_colour_21 rfl ?_
      refine g_get C 27 0 (by decide) (by decide) u6 rfl 11 rfl fX6_39 rfl rfl dX6_colour_22 ?_
      refine g_bipush C ((nI 9)) dX6_colour_25 (by decide) ?_
      refine g_ildn C dX6_colour_27 rfl ?_
      refine g_imul (v := (nI (9 * a))) C dX6_colour_28 (pk_mul _ _) ?_
      refine g_ildn C dX6_colour_29 rfl ?_
      refine g_iadd (v := (nI (9 * a + b))) C dX6_colour_30 (nI_add _ _) ?_
      refine g_iald C 36 0 (by decide) (by decide) (fun _ _ => rfl) (9 * a + b) (show 9 * a + b < 18 by omega) rfl dX6_colour_31 (v := (nI (col n T L k a b))) (hp2 (9 * a + b) ⟨by omega, by omega⟩) ?_
      exact g_ireturn C hr dX6_colour_32 (by rw [if_pos hok]; exact ⟨k, a, b, hk, ha, hb, rfl, rfl, rfl, rfl, hk2, hm2⟩)
    · refine g_iconst C ((-1)) dX6_colour_15 (by decide) ?_
      exact g_ireturn C hr dX6_colour_16 (by rw [if_neg (by rw [isV_eq]; first | (rw [c4]; simp; done) | (rw [c12]; simp; done))]; exact ⟨rfl, rfl, fun _ _ => rfl, hm⟩)

