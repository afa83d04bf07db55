/-! ===== the reference: search ===== -/
/-- a row of digits as a number -/
def hnm (f : Nat → Nat) : Nat → Nat
  | 0 => 0
  | v + 1 => hnm f v * 10 + f v
theorem hnm_congr {f f' : Nat → Nat} : ∀ v, (∀ i, i < v → f i = f' i) → hnm f v = hnm f' v
  | 0, _ => rfl
  | v + 1, h => by
    show hnm f v * 10 + f v = hnm f' v * 10 + f' v
    rw [hnm_congr v (fun i hi => h i (by omega)), h v (by omega)]
theorem hnm_lt {f : Nat → Nat} : ∀ v, (∀ i, i < v → f i ≤ 9) → hnm f v + 1 ≤ 10 ^ v
  | 0, _ => Nat.le_refl 1
  | v + 1, h => by
    have := hnm_lt v (fun i hi => h i (by omega))
    have h9 := h v (by omega)
    show hnm f v * 10 + f v + 1 ≤ 10 ^ (v + 1)
    rw [Nat.pow_succ]
    omega
theorem hnm_lx {n : Nat} {f f' : Nat → Nat} (hf : ∀ i, i < n → f i ≤ 9) (h : lx n f f') : hnm f n < hnm f' n := by
  obtain ⟨k, hk, h1, h2⟩ := h
  have key : ∀ d, k + 1 + d ≤ n → hnm f (k + 1 + d) < hnm f' (k + 1 + d) := fun d => by
    induction d with
    | zero =>
      intro _
      show hnm f k * 10 + f k < hnm f' k * 10 + f' k
      rw [hnm_congr k h1]
      omega
    | succ d ih =>
      intro hd
      have := ih (by omega)
      have h9 := hf (k + 1 + d) (by omega)
      show hnm f (k + 1 + d) * 10 + f (k + 1 + d) < hnm f' (k + 1 + d) * 10 + f' (k + 1 + d)
      omega
  have := key (n - (k + 1)) (by omega)
  rw [show k + 1 + (n - (k + 1)) = n by omega] at this
  exact this
/-- how far a search is: f's first v vertices stand, w is next -/
def mz (n : Nat) (f : Nat → Nat) (v w : Nat) : Nat := (hnm f v * 10 + w) * 10 ^ (n - 1 - v) * 10 + v
theorem mz_inc (n : Nat) (f : Nat → Nat) (v w : Nat) : mz n f v w < mz n f v (w + 1) := by
  unfold mz
  have hp : 0 < 10 ^ (n - 1 - v) := Nat.pow_pos (by decide)
  rw [show hnm f v * 10 + (w + 1) = (hnm f v * 10 + w) + 1 by omega, Nat.add_mul _ 1, Nat.one_mul]
  generalize (hnm f v * 10 + w) * 10 ^ (n - 1 - v) = a
  omega
theorem mz_back {n : Nat} {f : Nat → Nat} {v w : Nat} (hv : v + 1 < n) (hw : w ≤ 9) : mz n f (v + 1) w < mz n f v (f v + 1) := by
  unfold mz
  have hp : 0 < 10 ^ (n - 1 - (v + 1)) := Nat.pow_pos (by decide)
  rw [show n - 1 - v = n - 1 - (v + 1) + 1 by omega, Nat.pow_succ]
  show ((hnm f v * 10 + f v) * 10 + w) * 10 ^ (n - 1 - (v + 1)) * 10 + (v + 1) < (hnm f v * 10 + (f v + 1)) * (10 ^ (n - 1 - (v + 1)) * 10) * 10 + v
  rw [show hnm f v * 10 + (f v + 1) = (hnm f v * 10 + f v) + 1 by omega]
  generalize hnm f v * 10 + f v = H at *
  generalize 10 ^ (n - 1 - (v + 1)) = P at *
  have h1 : w * P ≤ 9 * P := Nat.mul_le_mul_right P hw
  have e1 : (H * 10 + w) * P = H * P * 10 + w * P := by rw [Nat.add_mul, Nat.mul_right_comm]
  have e2 : (H + 1) * (P * 10) = H * P * 10 + P * 10 := by rw [Nat.add_mul, Nat.one_mul, Nat.mul_assoc]
  rw [e1, e2]
  omega
theorem mz_adv {n : Nat} {f : Nat → Nat} {v w : Nat} (hv : v + 1 < n) : mz n f v w < mz n (va_up f v w) (v + 1) 0 := by
  unfold mz
  have e : hnm (va_up f v w) (v + 1) = hnm f v * 10 + w := by
    show hnm (va_up f v w) v * 10 + va_up f v w v = _
    rw [va_up_self, hnm_congr v (fun i hi => va_up_ne _ _ (by omega))]
  rw [e, show n - 1 - v = n - 1 - (v + 1) + 1 by omega, Nat.pow_succ]
  generalize hnm f v * 10 + w = H
  generalize 10 ^ (n - 1 - (v + 1)) = P
  have e1 : (H * 10 + 0) * P = H * (P * 10) := by rw [Nat.add_zero, Nat.mul_assoc, Nat.mul_comm 10 P]
  rw [e1]
  omega
theorem mz_bd {n : Nat} {f : Nat → Nat} {v w : Nat} (hn : n ≤ 9) (hf : ∀ i, i < v → f i ≤ 9) (hv : v < n) (hw : w ≤ 9) : mz n f v w < 10 ^ n * 10 + 10 := by
  have h1 := hnm_lt v hf
  have h2 : (hnm f v * 10 + w + 1) ≤ 10 ^ (v + 1) := by rw [Nat.pow_succ]; omega
  have h3 : (hnm f v * 10 + w + 1) * 10 ^ (n - 1 - v) ≤ 10 ^ n := by
    rw [show n = v + 1 + (n - 1 - v) by omega, Nat.pow_add, show v + 1 + (n - 1 - v) - 1 - v = n - 1 - v by omega]
    exact Nat.mul_le_mul_right _ h2
  rw [Nat.add_mul _ 1, Nat.one_mul] at h3
  unfold mz
  have hp : 0 < 10 ^ (n - 1 - v) := Nat.pow_pos (by decide)
  generalize (hnm f v * 10 + w) * 10 ^ (n - 1 - v) = a at *
  omega
/-! ===== what the search keeps ===== -/
def lu (f : Nat → Nat) (v w : Nat) : Nat → Nat := va_up f v w
theorem lx_back {v : Nat} {f f2 : Nat → Nat} {w : Nat} (h : lx (v + 1) f2 (va_up f v (f v + 1))) (hn : ¬ lx (v + 2) f2 (va_up f (v + 1) w)) : (∀ i, i < v + 1 → f2 i = f i) ∧ w ≤ f2 (v + 1) := by
  obtain ⟨k, hk, h1, h2⟩ := h
  have hpre : ∀ i, i < v + 1 → f2 i = f i := by
    rcases Nat.lt_or_eq_of_le (Nat.le_of_lt_succ hk) with q | q
    · exfalso
      rw [va_up_ne _ _ (by omega)] at h2
      exact hn ⟨k, by omega, fun j hj => by have := h1 j hj; rw [va_up_ne _ _ (by omega)] at this; rw [va_up_ne _ _ (by omega)]; exact this, by rw [va_up_ne _ _ (by omega)]; exact h2⟩
    · subst q
      rw [va_up_self] at h2
      have hp : ∀ j, j < k → f2 j = f j := fun j hj => by have := h1 j hj; rw [va_up_ne _ _ (by omega)] at this; exact this
      have hk2 : f2 k = f k := by
        rcases Nat.lt_or_eq_of_le (Nat.le_of_lt_succ h2) with z | z
        · exfalso
          exact hn ⟨k, by omega, fun j hj => by rw [va_up_ne _ _ (by omega)]; exact hp j hj, by rw [va_up_ne _ _ (by omega)]; exact z⟩
        · exact z
      intro i hi
      rcases Nat.lt_or_eq_of_le (Nat.le_of_lt_succ hi) with z | z
      · exact hp i z
      · rw [z]; exact hk2
  refine ⟨hpre, ?_⟩
  rcases Nat.lt_or_ge (f2 (v + 1)) w with z | z
  · exfalso
    exact hn ⟨v + 1, by omega, fun j hj => by rw [va_up_ne _ _ (by omega)]; exact hpre j hj, by rw [va_up_self]; exact z⟩
  · exact z
theorem lx_gt_back {v w : Nat} {f f0 : Nat → Nat} (h : lx (v + 2) f0 (va_up f (v + 1) w)) : lx (v + 1) f0 (va_up f v (f v + 1)) := by
  obtain ⟨k, hk, h1, h2⟩ := h
  have hp : ∀ j, j < k → j < v + 1 → f0 j = f j := fun j hj hv => by have := h1 j hj; rw [va_up_ne _ _ (by omega)] at this; exact this
  rcases Nat.lt_trichotomy k v with q | q | q
  · rw [va_up_ne _ _ (by omega)] at h2
    exact ⟨k, by omega, fun j hj => by rw [va_up_ne _ _ (by omega)]; exact hp j hj (by omega), by rw [va_up_ne _ _ (by omega)]; exact h2⟩
  · subst q
    rw [va_up_ne _ _ (by omega)] at h2
    exact ⟨k, by omega, fun j hj => by rw [va_up_ne _ _ (by omega)]; exact hp j hj (by omega), by rw [va_up_self]; omega⟩
  · exact ⟨v, by omega, fun j hj => by rw [va_up_ne _ _ (by omega)]; exact hp j (by omega) (by omega), by rw [va_up_self, hp v (by omega) (by omega)]; omega⟩
theorem lx_inc {v w : Nat} {f f2 : Nat → Nat} (h : lx (v + 1) f2 (va_up f v (w + 1))) (hn : ¬ lx (v + 1) f2 (va_up f v w)) : (∀ i, i < v → f2 i = f i) ∧ f2 v = w := by
  obtain ⟨k, hk, h1, h2⟩ := h
  have hp : ∀ j, j < k → f2 j = f j := fun j hj => by have := h1 j hj; rw [va_up_ne _ _ (by omega)] at this; exact this
  rcases Nat.lt_or_eq_of_le (Nat.le_of_lt_succ hk) with q | q
  · exfalso
    rw [va_up_ne _ _ (by omega)] at h2
    exact hn ⟨k, hk, fun j hj => by rw [va_up_ne _ _ (by omega)]; exact hp j hj, by rw [va_up_ne _ _ (by omega)]; exact h2⟩
  · subst q
    rw [va_up_self] at h2
    refine ⟨hp, ?_⟩
    rcases Nat.lt_or_eq_of_le (Nat.le_of_lt_succ h2) with z | z
    · exact absurd ⟨k, hk, fun j hj => by rw [va_up_ne _ _ (by omega)]; exact hp j hj, by rw [va_up_self]; exact z⟩ hn
    · exact z
theorem lx_gt_inc {v w : Nat} {f f0 : Nat → Nat} (h : lx (v + 1) f0 (va_up f v w)) : lx (v + 1) f0 (va_up f v (w + 1)) := by
  obtain ⟨k, hk, h1, h2⟩ := h
  refine ⟨k, hk, fun j hj => by have := h1 j hj; rw [va_up_ne _ _ (by omega)] at this; rw [va_up_ne _ _ (by omega)]; exact this, ?_⟩
  by_cases e : k = v
  · subst e; rw [va_up_self] at h2; rw [va_up_self]; omega
  · rw [va_up_ne _ _ e] at h2; rw [va_up_ne _ _ e]; exact h2
theorem lx_adv {v : Nat} {f f2 : Nat → Nat} (h : lx (v + 2) f2 (va_up f (v + 1) 0)) : lx (v + 1) f2 f := by
  obtain ⟨k, hk, h1, h2⟩ := h
  have hk2 : k ≠ v + 1 := fun e => by subst e; rw [va_up_self] at h2; omega
  rw [va_up_ne _ _ hk2] at h2
  exact ⟨k, by omega, fun j hj => by have := h1 j hj; rw [va_up_ne _ _ (by omega)] at this; exact this, h2⟩
theorem lx_gt_adv {v : Nat} {f f0 : Nat → Nat} (h : lx (v + 1) f0 f) : lx (v + 2) f0 (va_up f (v + 1) 0) := by
  obtain ⟨k, hk, h1, h2⟩ := h
  exact ⟨k, by omega, fun j hj => by rw [va_up_ne _ _ (by omega)]; exact h1 j hj, by rw [va_up_ne _ _ (by omega)]; exact h2⟩
/-- what a search seeks -/
def SC (n : Nat) (T : Nat → Nat → Nat) (L : Nat → Nat → Nat → Nat) (g h : Nat) (fx : Nat → Nat → Prop) (rs : Bool) (f0 f2 : Nat → Nat) : Prop := tr n T L g h f2 n ∧ (∀ i, i < n → fx i (f2 i)) ∧ (rs = true → lx n f0 f2)
def sfx (I : SI) (i x : Nat) : Prop := I 32 0 i = -1 ∨ I 32 0 i = nI x
def seP (n : Nat) (T : Nat → Nat → Nat) (L : Nat → Nat → Nat → Nat) (g h : Nat) (fx : Nat → Nat → Prop) (rs : Bool) (f0 : Nat → Nat) (I : SI) (J : SJ) : Option Value → SI → SJ → Prop := fun v' I' J' =>
  ∃ (b : Bool) (F : Nat → Nat → Int32), v' = some (.int (bI b)) ∧ I' = sK I 31 F ∧ J' = J ∧ (b = true → ∃ f', (∀ i, i < n → F 0 i = nI (f' i)) ∧ SC n T L g h fx rs f0 f' ∧ ∀ f2, SC n T L g h fx rs f0 f2 → lxe n f' f2) ∧ (b = false → ∀ f2, ¬ SC n T L g h fx rs f0 f2)
set_option maxRecDepth 100000 in
set_option maxHeartbeats 4000000 in
theorem l_X6_fits_52 {X : Pk} {Z : Zk} {I : SI} {J : SJ} (hA : AJ Z.2.2.1) (C : Cx X cX6_fits 6 RX6 Z 1 60) (hr : (xE X).sig.returnType = some .boolean) {n : Nat} {T : Nat → Nat → Nat} {L : Nat → Nat → Nat → Nat} (hv : MV I n T L) {g h : Nat} (hg : g < 2) (hh : h < 2) {f : Nat → Nat} {v w : Nat} (hvn : v < n) (hwn : w < n) (hf : ∀ i, i < v → I 31 0 i = nI (f i) ∧ f i < n) (e1 : T g v = T h w) (e2 : sfx I v w) : ∀ (k : Nat) (u : Nat), v - u < k → (u ≤ v) → (∀ a, a < u → f a ≠ w ∧ L g v a = L h w (f a) ∧ L g a v = L h (f a) w) → G X 6 Z (QG X Z (fun v' I' J' => ∃ b : Bool, v' = some (.int (bI b)) ∧ (b = true ↔ T g v = T h w ∧ sfx I v w ∧ ∀ u, u < v → f u ≠ w ∧ L g v u = L h w (f u) ∧ L g u v = L h (f u) w) ∧ I' = I ∧ J' = J)) (I) (J) 52 [(0, .ref (Z.2.2.1 27 0)), (1, .int (nI g)), (2, .int (nI h)), (3, .int (nI v)), (4, .int (nI w)), (5, .int (nI u))] [] := by
  obtain ⟨⟨hn1, hn9⟩, -⟩ := id hv
  intro k
  induction k with
  | zero => intro u h; exact absurd h (by omega)
  | succ k ih =>
    intro u hk hu hin
    have hfu : u < v → f u < n := fun h => (hf u h).2
    have q1 : u < v → L g v u < 4 := fun h => hv.l4 hg hvn (by omega)
    have q2 : u < v → L h w (f u) < 4 := fun hx => hv.l4 hh hwn (hfu hx)
    have q3 : u < v → L g u v < 4 := fun h => hv.l4 hg (by omega) hvn
    have q4 : u < v → L h (f u) w < 4 := fun hx => hv.l4 hh (hfu hx) hwn
    refine g_ild C dX6_fits_52 rfl ?_
    refine g_ildn C dX6_fits_54 rfl ?_
    refine n_icmp_ge (tgt := 128) C dX6_fits_55 rfl (by omega) (by omega) (fun c55 => ?_) (fun c55 => ?_)
    · refine g_iconst C ((nI 1)) dX6_fits_128 (by decide) ?_
      exact g_zreturn C hr (by decide) dX6_fits_129 ⟨true, rfl, ⟨fun _ => ⟨e1, e2, fun a ha => hin a (by omega)⟩, fun _ => rfl⟩, rfl, rfl⟩
    · refine g_aldn C dX6_fits_58 rfl ?_
      refine g_get C 27 0 (by decide) (by decide) u6 rfl 5 rfl fX6_23 rfl rfl dX6_fits_59 ?_
      refine g_ild C dX6_fits_62 rfl ?_
      refine g_iald C 31 0 (by decide) (by decide) (fun _ _ => rfl) u (show u < 9 by omega) rfl dX6_fits_64 (v := (nI (f u))) (hf u (by omega)).1 ?_
      refine g_ild C dX6_fits_65 rfl ?_
      refine n_icmp_eq (tgt := 120) C dX6_fits_67 rfl (by omega) (by omega) (fun c67 => ?_) (fun c67 => ?_)
      · refine g_iconst C ((nI 0)) dX6_fits_120 (by decide) ?_
        exact g_zreturn C hr (by decide) dX6_fits_121 ⟨false, rfl, ⟨fun h => absurd h (by decide), fun h => by first | exact absurd c67 (h.2.2 u (by omega)).1 | exact absurd (h.2.2 u (by omega)).2.1 c92 | exact absurd (h.2.2 u (by omega)).2.2 c117⟩, rfl, rfl⟩
      · refine g_aldn C dX6_fits_70 rfl ?_
        refine g_ildn C dX6_fits_71 rfl ?_
        refine g_ildn C dX6_fits_72 rfl ?_
        refine g_ild C dX6_fits_73 rfl ?_
        refine g_callV (As := [.int (nI g), .int (nI v), .int (nI u)]) (st := []) C (c_X6_labelOf hA hv (show g < 2 by omega) (show v < n by omega) (show u < n by omega)) wX6_labelOf iX6_labelOf sX6_labelOf mX6_62 27 0 (by decide) (by decide) rfl rfl rfl rfl rfl rfl rfl rfl dX6_fits_75 ?_
        rintro v9 I9 J9 ⟨h91, h92, h93⟩
        rw [h91, h92, h93]
        clear h91 h92 h93 v9 I9 J9
        show G X _ Z _ I J 78 [(0, .ref (Z.2.2.1 27 0)), (1, .int (nI g)), (2, .int (nI h)), (3, .int (nI v)), (4, .int (nI w)), (5, .int (nI u))] [.int (nI (L g v u))]
        refine g_aldn C dX6_fits_78 rfl ?_
        refine g_ildn C dX6_fits_79 rfl ?_
        refine g_ild C dX6_fits_80 rfl ?_
        refine g_aldn C dX6_fits_82 rfl ?_
        refine g_get C 27 0 (by decide) (by decide) u6 rfl 5 rfl fX6_23 rfl rfl dX6_fits_83 ?_
        refine g_ild C dX6_fits_86 rfl ?_
        refine g_iald C 31 0 (by decide) (by decide) (fun _ _ => rfl) u (show u < 9 by omega) rfl dX6_fits_88 (v := (nI (f u))) (hf u (by omega)).1 ?_
        refine g_callV (As := [.int (nI h), .int (nI w), .int (nI (f u))]) (st := [.int (nI (L g v u))]) C (c_X6_labelOf hA hv (show h < 2 by omega) (show w < n by omega) (show f u < n by omega)) wX6_labelOf iX6_labelOf sX6_labelOf mX6_62 27 0 (by decide) (by decide) rfl rfl rfl rfl rfl rfl rfl rfl dX6_fits_89 ?_
        rintro v9 I9 J9 ⟨h91, h92, h93⟩
        rw [h91, h92, h93]
        clear h91 h92 h93 v9 I9 J9
        show G X _ Z _ I J 92 [(0, .ref (Z.2.2.1 27 0)), (1, .int (nI g)), (2, .int (nI h)), (3, .int (nI v)), (4, .int (nI w)), (5, .int (nI u))] [.int (nI (L h w (f u))), .int (nI (L g v u))]
        refine n_icmp_ne (tgt := 120) C dX6_fits_92 rfl (by omega) (by omega) (fun c92 => ?_) (fun c92 => ?_)
        · refine g_iconst C ((nI 0)) dX6_fits_120 (by decide) ?_
          exact g_zreturn C hr (by decide) dX6_fits_121 ⟨false, rfl, ⟨fun h => absurd h (by decide), fun h => by first | exact absurd c67 (h.2.2 u (by omega)).1 | exact absurd (h.2.2 u (by omega)).2.1 c92 | exact absurd (h.2.2 u (by omega)).2.2 c117⟩, rfl, rfl⟩
        · refine g_aldn C dX6_fits_95 rfl ?_
          refine g_ildn C dX6_fits_96 rfl ?_
          refine g_ild C dX6_fits_97 rfl ?_
          refine g_ildn C dX6_fits_99 rfl ?_
          refine g_callV (As := [.int (nI g), .int (nI u), .int (nI v)]) (st := []) C (c_X6_labelOf hA hv (show g < 2 by omega) (show u < n by omega) (show v < n by omega)) wX6_labelOf iX6_labelOf sX6_labelOf mX6_62 27 0 (by decide) (by decide) rfl rfl rfl rfl rfl rfl rfl rfl dX6_fits_100 ?_
          rintro v9 I9 J9 ⟨h91, h92, h93⟩
          rw [h91, h92, h93]
          clear h91 h92 h93 v9 I9 J9
          show G X _ Z _ I J 103 [(0, .ref (Z.2.2.1 27 0)), (1, .int (nI g)), (2, .int (nI h)), (3, .int (nI v)), (4, .int (nI w)), (5, .int (nI u))] [.int (nI (L g u v))]
          refine g_aldn C dX6_fits_103 rfl ?_
          refine g_ildn C dX6_fits_104 rfl ?_
          refine g_aldn C dX6_fits_105 rfl ?_
          refine g_get C 27 0 (by decide) (by decide) u6 rfl 5 rfl fX6_23 rfl rfl dX6_fits_106 ?_
          refine g_ild C dX6_fits_109 rfl ?_
          refine g_iald C 31 0 (by decide) (by decide) (fun _ _ => rfl) u (show u < 9 by omega) rfl dX6_fits_111 (v := (nI (f u))) (hf u (by omega)).1 ?_
          refine g_ild C dX6_fits_112 rfl ?_
          refine g_callV (As := [.int (nI h), .int (nI (f u)), .int (nI w)]) (st := [.int (nI (L g u v))]) C (c_X6_labelOf hA hv (show h < 2 by omega) (show f u < n by omega) (show w < n by omega)) wX6_labelOf iX6_labelOf sX6_labelOf mX6_62 27 0 (by decide) (by decide) rfl rfl rfl rfl rfl rfl rfl rfl dX6_fits_114 ?_
          rintro v9 I9 J9 ⟨h91, h92, h93⟩
          rw [h91, h92, h93]
          clear h91 h92 h93 v9 I9 J9
          show G X _ Z _ I J 117 [(0, .ref (Z.2.2.1 27 0)), (1, .int (nI g)), (2, .int (nI h)), (3, .int (nI v)), (4, .int (nI w)), (5, .int (nI u))] [.int (nI (L h (f u) w)), .int (nI (L g u v))]
          refine n_icmp_eq (tgt := 122) C dX6_fits_117 rfl (by omega) (by omega) (fun c117 => ?_) (fun c117 => ?_)
          · refine g_iinc (lv' := [(5, .int (nI (u + 1))), (0, .ref (Z.2.2.1 27 0)), (1, .int (nI g)), (2, .int (nI h)), (3, .int (nI v)), (4, .int (nI w))]) C ((nI (u + 1))) dX6_fits_122 rfl (inc1 _) rfl rfl ?_
            refine g_goto (tgt := 52) C dX6_fits_125 rfl ?_
            refine g_lv [1, 2, 3, 4, 5, 0] rfl ?_
            exact ih (u + 1) (by omega) (by omega) (fun a ha => (Nat.lt_or_eq_of_le (Nat.le_of_lt_succ ha)).elim (hin a) (fun e => by subst e; exact ⟨c67, c92, c117⟩))
          · refine g_iconst C ((nI 0)) dX6_fits_120 (by decide) ?_
            exact g_zreturn C hr (by decide) dX6_fits_121 ⟨false, rfl, ⟨fun h => absurd h (by decide), fun h => by first | exact absurd c67 (h.2.2 u (by omega)).1 | exact absurd (h.2.2 u (by omega)).2.1 c92 | exact absurd (h.2.2 u (by omega)).2.2 c117⟩, rfl, rfl⟩

set_option maxRecDepth 100000 in
set_option maxHeartbeats 4000000 in
/-- fits -/
theorem c_X6_fits {l : Launch} {Y : Yk} (hA : AJ Y.2.2) {I : SI} {J : SJ} {n : Nat} {T : Nat → Nat → Nat} {L : Nat → Nat → Nat → Nat} (hv : MV I n T L) {g h : Nat} (hg : g < 2) (hh : h < 2) {f : Nat → Nat} {v w : Nat} (hvn : v < n) (hwn : w < n) (hf : ∀ i, i < v → I 31 0 i = nI (f i) ∧ f i < n)  : MX l Y yX6_fits cX6_fits 6 (some .boolean) 1 60 [.ref (Y.2.2 27 0), .int (nI g), .int (nI h), .int (nI v), .int (nI w)] I J (fun v' I' J' => ∃ b : Bool, v' = some (.int (bI b)) ∧ (b = true ↔ T g v = T h w ∧ sfx I v w ∧ ∀ u, u < v → f u ≠ w ∧ L g v u = L h w (f u) ∧ L g u v = L h (f u) w) ∧ I' = I ∧ J' = J) := by
  refine MX.of hA (by decide) (own := RX6) rfl rfl rfl ?_
  intro X Z hl hY1 hY2 hY3 C hr
  obtain ⟨D0, ca0, ad0⟩ := Y
  dsimp only at hA hY1 hY2 hY3
  subst hY1; subst hY2; subst hY3; subst hl
  show G X 6 Z (QG X Z _) I J 0 [(0, .ref (Z.2.2.1 27 0)), (1, .int (nI g)), (2, .int (nI h)), (3, .int (nI v)), (4, .int (nI w))] []
  obtain ⟨⟨hn1, hn9⟩, -⟩ := id hv
  have q1 := hv.t4 hg hvn
  have q2 := hv.t4 hh hwn
  refine g_aldn C dX6_fits_0 rfl ?_
  refine g_get C 27 0 (by decide) (by decide) u6 rfl 2 rfl fX6_17 rfl rfl dX6_fits_1 ?_
  refine g_bipush C ((nI 9)) dX6_fits_4 (by decide) ?_
  refine g_ildn C dX6_fits_6 rfl ?_
  refine g_imul (v := (nI (9 * g))) C dX6_fits_7 (pk_mul _ _) ?_
  refine g_ildn C dX6_fits_8 rfl ?_
  refine g_iadd (v := (nI (9 * g + v))) C dX6_fits_9 (nI_add _ _) ?_
  refine g_iald C 29 0 (by decide) (by decide) (fun _ _ => rfl) (9 * g + v) (show 9 * g + v < 18 by omega) rfl dX6_fits_10 (v := (nI (T g v))) (hv.t hg hvn) ?_
  refine g_aldn C dX6_fits_11 rfl ?_
  refine g_get C 27 0 (by decide) (by decide) u6 rfl 2 rfl fX6_17 rfl rfl dX6_fits_12 ?_
  refine g_bipush C ((nI 9)) dX6_fits_15 (by decide) ?_
  refine g_ildn C dX6_fits_17 rfl ?_
  refine g_imul (v := (nI (9 * h))) C dX6_fits_18 (pk_mul _ _) ?_
  refine g_ild C dX6_fits_19 rfl ?_
  refine g_iadd (v := (nI (9 * h + w))) C dX6_fits_21 (nI_add _ _) ?_
  refine g_iald C 29 0 (by decide) (by decide) (fun _ _ => rfl) (9 * h + w) (show 9 * h + w < 18 by omega) rfl dX6_fits_22 (v := (nI (T h w))) (hv.t hh hwn) ?_
  refine n_icmp_ne (tgt := 47) C dX6_fits_23 rfl (by omega) (by omega) (fun c23 => ?_) (fun c23 => ?_)
  · refine g_iconst C ((nI 0)) dX6_fits_47 (by decide) ?_
    exact g_zreturn C hr (by decide) dX6_fits_48 ⟨false, rfl, ⟨fun h => absurd h (by decide), fun h => by first | exact absurd h.1 c23 | exact (h.2.1.elim c33 c44).elim⟩, rfl, rfl⟩
  · refine g_aldn C dX6_fits_26 rfl ?_
    refine g_get C 27 0 (by decide) (by decide) u6 rfl 6 rfl fX6_26 rfl rfl dX6_fits_27 ?_
    refine g_ildn C dX6_fits_30 rfl ?_
    refine g_iald C 32 0 (by decide) (by decide) (fun _ _ => rfl) v (show v < 9 by omega) rfl dX6_fits_31 (v := (I 32 0 v)) rfl ?_
    refine g_iconst C ((-1)) dX6_fits_32 (by decide) ?_
    refine g_icmp_eq (tgt := 49) C dX6_fits_33 rfl (fun c33 => ?_) (fun c33 => ?_)
    · have e2 : sfx I v w := by first | exact Or.inl c33 | exact Or.inr c44
      refine g_iconst C ((nI 0)) dX6_fits_49 (by decide) ?_
      refine g_ist (lv' := [(5, .int (nI 0)), (0, .ref (Z.2.2.1 27 0)), (1, .int (nI g)), (2, .int (nI h)), (3, .int (nI v)), (4, .int (nI w))]) C dX6_fits_50 rfl rfl ?_
      refine g_lv [1, 2, 3, 4, 5, 0] rfl ?_
      exact l_X6_fits_52 hA C hr hv hg hh hvn hwn hf c23 e2 (v + 1) 0 (by omega) (by omega) (fun a h => absurd h (by omega))
    · refine g_aldn C dX6_fits_36 rfl ?_
      refine g_get C 27 0 (by decide) (by decide) u6 rfl 6 rfl fX6_26 rfl rfl dX6_fits_37 ?_
      refine g_ildn C dX6_fits_40 rfl ?_
      refine g_iald C 32 0 (by decide) (by decide) (fun _ _ => rfl) v (show v < 9 by omega) rfl dX6_fits_41 (v := (I 32 0 v)) rfl ?_
      refine g_ild C dX6_fits_42 rfl ?_
      refine g_icmp_eq (tgt := 49) C dX6_fits_44 rfl (fun c44 => ?_) (fun c44 => ?_)
      · have e2 : sfx I v w := by first | exact Or.inl c33 | exact Or.inr c44
        refine g_iconst C ((nI 0)) dX6_fits_49 (by decide) ?_
        refine g_ist (lv' := [(5, .int (nI 0)), (0, .ref (Z.2.2.1 27 0)), (1, .int (nI g)), (2, .int (nI h)), (3, .int (nI v)), (4, .int (nI w))]) C dX6_fits_50 rfl rfl ?_
        refine g_lv [1, 2, 3, 4, 5, 0] rfl ?_
        exact l_X6_fits_52 hA C hr hv hg hh hvn hwn hf c23 e2 (v + 1) 0 (by omega) (by omega) (fun a h => absurd h (by omega))
      · refine g_iconst C ((nI 0)) dX6_fits_47 (by decide) ?_
        exact g_zreturn C hr (by decide) dX6_fits_48 ⟨false, rfl, ⟨fun h => absurd h (by decide), fun h => by first | exact absurd h.1 c23 | exact (h.2.1.elim c33 c44).elim⟩, rfl, rfl⟩

/-- where a search stands: f's first v vertices, w next; nothing sought lies before, f0 does -/
def CU (n : Nat) (T : Nat → Nat → Nat) (L : Nat → Nat → Nat → Nat) (g h : Nat) (fx : Nat → Nat → Prop) (rs : Bool) (f0 f : Nat → Nat) (v w : Nat) : Prop :=
  v < n ∧ w ≤ n ∧ tr n T L g h f v ∧ (∀ i, i < v → fx i (f i)) ∧ (∀ f2, SC n T L g h fx rs f0 f2 → ¬ lx (v + 1) f2 (va_up f v w)) ∧ (rs = true → lx (v + 1) f0 (va_up f v w))
theorem CU.none {n : Nat} {T : Nat → Nat → Nat} {L : Nat → Nat → Nat → Nat} {g h : Nat} {fx : Nat → Nat → Prop} {rs : Bool} {f0 f : Nat → Nat} {w : Nat} (hc : CU n T L g h fx rs f0 f 0 w) (hw : n ≤ w) : ∀ f2, ¬ SC n T L g h fx rs f0 f2 := fun f2 hs => by
  refine hc.2.2.2.2.1 f2 hs ⟨0, by omega, fun j hj => absurd hj (Nat.not_lt_zero j), ?_⟩
  rw [va_up_self]
  have := (hs.1 0 hc.1).1
  omega
theorem CU.back {n : Nat} {T : Nat → Nat → Nat} {L : Nat → Nat → Nat → Nat} {g h : Nat} {fx : Nat → Nat → Prop} {rs : Bool} {f0 f : Nat → Nat} {v w : Nat} (hc : CU n T L g h fx rs f0 f (v + 1) w) (hw : n ≤ w) : CU n T L g h fx rs f0 f v (f v + 1) := by
  obtain ⟨h1, h2, h3, h4, h5, h6⟩ := hc
  refine ⟨by omega, (h3 v (by omega)).1, h3.sub (by omega), fun i hi => h4 i (by omega), fun f2 hs q => ?_, fun r => lx_gt_back (h6 r)⟩
  have := (lx_back q (h5 f2 hs)).2
  have := (hs.1 (v + 1) h1).1
  omega
theorem CU.inc {n : Nat} {T : Nat → Nat → Nat} {L : Nat → Nat → Nat → Nat} {g h : Nat} {fx : Nat → Nat → Prop} {rs : Bool} {f0 f : Nat → Nat} {v w : Nat} (hc : CU n T L g h fx rs f0 f v w) (hw : w < n) (hno : ¬ (T g v = T h w ∧ fx v w ∧ ∀ u, u < v → f u ≠ w ∧ L g v u = L h w (f u) ∧ L g u v = L h (f u) w)) : CU n T L g h fx rs f0 f v (w + 1) := by
  obtain ⟨h1, h2, h3, h4, h5, h6⟩ := hc
  refine ⟨h1, by omega, h3, h4, fun f2 hs q => hno ?_, fun r => lx_gt_inc (h6 r)⟩
  obtain ⟨a1, a2⟩ := lx_inc q (h5 f2 hs)
  obtain ⟨b1, b2, b3, b4⟩ := hs.1 v h1
  rw [a2] at b2 b3 b4
  exact ⟨b3, by rw [← a2]; exact hs.2.1 v h1, fun u hu => by rw [← a1 u hu]; exact ⟨b2 u hu, b4 u hu⟩⟩
theorem CU.bth {n : Nat} {T : Nat → Nat → Nat} {L : Nat → Nat → Nat → Nat} {g h : Nat} {fx : Nat → Nat → Prop} {rs : Bool} {f0 f : Nat → Nat} {v w : Nat} (hc : CU n T L g h fx rs f0 f v w) (hw : w < n) (hok : T g v = T h w ∧ fx v w ∧ ∀ u, u < v → f u ≠ w ∧ L g v u = L h w (f u) ∧ L g u v = L h (f u) w) : tr n T L g h (va_up f v w) (v + 1) ∧ ∀ i, i < v + 1 → fx i (va_up f v w i) := by
  obtain ⟨h1, h2, h3, h4, h5, h6⟩ := hc
  refine ⟨h3.step hw (fun j hj => (hok.2.2 j hj).1) ⟨hok.1, fun u hu => (hok.2.2 u hu).2⟩, fun i hi => ?_⟩
  rcases Nat.lt_or_eq_of_le (Nat.le_of_lt_succ hi) with z | z
  · rw [va_up_ne _ _ (by omega)]; exact h4 i z
  · rw [z, va_up_self]; exact hok.2.1
theorem CU.adv {n : Nat} {T : Nat → Nat → Nat} {L : Nat → Nat → Nat → Nat} {g h : Nat} {fx : Nat → Nat → Prop} {rs : Bool} {f0 f : Nat → Nat} {v w : Nat} (hc : CU n T L g h fx rs f0 f v w) (hv : v + 1 < n) (hw : w < n) (hok : T g v = T h w ∧ fx v w ∧ ∀ u, u < v → f u ≠ w ∧ L g v u = L h w (f u) ∧ L g u v = L h (f u) w) : CU n T L g h fx rs f0 (va_up f v w) (v + 1) 0 := by
  obtain ⟨t1, t2⟩ := hc.bth hw hok
  exact ⟨hv, Nat.zero_le n, t1, t2, fun f2 hs q => hc.2.2.2.2.1 f2 hs (lx_adv q), fun r => lx_gt_adv (hc.2.2.2.2.2 r)⟩
theorem CU.fnd {n : Nat} {T : Nat → Nat → Nat} {L : Nat → Nat → Nat → Nat} {g h : Nat} {fx : Nat → Nat → Prop} {rs : Bool} {f0 f : Nat → Nat} {v w : Nat} (hc : CU n T L g h fx rs f0 f v w) (hv : v + 1 = n) (hw : w < n) (hok : T g v = T h w ∧ fx v w ∧ ∀ u, u < v → f u ≠ w ∧ L g v u = L h w (f u) ∧ L g u v = L h (f u) w) : SC n T L g h fx rs f0 (va_up f v w) ∧ ∀ f2, SC n T L g h fx rs f0 f2 → lxe n (va_up f v w) f2 := by
  obtain ⟨t1, t2⟩ := hc.bth hw hok
  have h5 := hc.2.2.2.2.1
  have h6 := hc.2.2.2.2.2
  rw [hv] at t1 t2 h5 h6
  exact ⟨⟨t1, t2, h6⟩, fun f2 hs => lxe_of (h5 f2 hs)⟩
theorem CU.zero {n : Nat} {T : Nat → Nat → Nat} {L : Nat → Nat → Nat → Nat} {g h : Nat} {fx : Nat → Nat → Prop} {f0 f : Nat → Nat} (hn : 1 ≤ n) : CU n T L g h fx false f0 f 0 0 :=
  ⟨by omega, Nat.zero_le n, fun i hi => absurd hi (Nat.not_lt_zero i), fun i hi => absurd hi (Nat.not_lt_zero i), fun f2 _ ⟨k, hk, _, h2⟩ => by
    have e : k = 0 := by omega
    subst e
    rw [va_up_self] at h2
    omega, fun q => absurd q (by decide)⟩
theorem CU.last {n : Nat} {T : Nat → Nat → Nat} {L : Nat → Nat → Nat → Nat} {g h : Nat} {fx : Nat → Nat → Prop} {f : Nat → Nat} (hn : 1 ≤ n) (ht : tr n T L g h f n) (hx : ∀ i, i < n → fx i (f i)) : CU n T L g h fx true f f (n - 1) (f (n - 1) + 1) := by
  refine ⟨by omega, (ht (n - 1) (by omega)).1, ht.sub (by omega), fun i hi => hx i (by omega), fun f2 hs q => ?_, fun _ => ⟨n - 1, by omega, fun j hj => by rw [va_up_ne _ _ (by omega)], by rw [va_up_self]; omega⟩⟩
  obtain ⟨k1, a1, a2, a3⟩ := hs.2.2 rfl
  obtain ⟨k2, b1, b2, b3⟩ := q
  rcases Nat.lt_trichotomy k1 k2 with z | z | z
  · have := b2 k1 z
    rw [va_up_ne _ _ (by omega)] at this
    omega
  · subst z
    by_cases e : k1 = n - 1
    · subst e; rw [va_up_self] at b3; omega
    · rw [va_up_ne _ _ e] at b3; omega
  · have := a2 k2 z
    rw [va_up_ne _ _ (by omega)] at b3
    omega
set_option maxRecDepth 100000 in
set_option maxHeartbeats 4000000 in
theorem l_X6_search_3 {X : Pk} {Z : Zk} {I : SI} {J : SJ} (hA : AJ Z.2.2.1) (C : Cx X cX6_search 5 RX6 Z 2 110) (hr : (xE X).sig.returnType = some .boolean) {n : Nat} {T : Nat → Nat → Nat} {L : Nat → Nat → Nat → Nat} (hv : MV I n T L) {g h : Nat} (hg : g < 2) (hh : h < 2) {fr : Nat} {rs : Bool} {f0 : Nat → Nat} : ∀ (k : Nat) (f : Nat → Nat) (v : Nat) (w : Nat) (F : Nat → Nat → Int32), 10 ^ n * 10 + 10 - mz n f v w < k → (CU n T L g h (sfx I) rs f0 f v w) → (∀ i, i < v → F 0 i = nI (f i)) → (F 0 v + nI 1 = nI w) → G X 5 Z (QG X Z (seP n T L g h (sfx I) rs f0 I J)) (sK I 31 F) (J) 3 [(0, .ref (Z.2.2.1 27 0)), (1, .int (nI g)), (2, .int (nI h)), (3, .int (nI fr)), (4, .int (nI v))] [] := by
  obtain ⟨⟨hn1, hn9⟩, -⟩ := id hv
  intro k
  induction k with
  | zero => intro f v w F h; exact absurd h (by omega)
  | succ k ih =>
    intro f v w F hk hcu hF hFv
    have hvn := hcu.1
    have hwn := hcu.2.1
    refine g_ild C dX6_search_3 rfl ?_
    refine n_if_lt (tgt := 84) C dX6_search_5 rfl (by omega) (fun q => absurd q (by omega)) (fun _ => ?_)
    refine g_aldn C dX6_search_8 rfl ?_
    refine g_get C 27 0 (by decide) (by decide) u6 rfl 5 rfl fX6_23 rfl rfl dX6_search_9 ?_
    refine g_ild C dX6_search_12 rfl ?_
    refine g_dup2 C dX6_search_14 rfl rfl ?_
    refine g_iald C 31 0 (by decide) (by decide) (fun _ _ => rfl) v (show v < 9 by omega) rfl dX6_search_15 (v := (F 0 v)) (by rw [sK_self]) ?_
    refine g_iconst C ((nI 1)) dX6_search_16 (by decide) ?_
    refine g_iadd (v := (nI w)) C dX6_search_17 hFv ?_
    refine g_iast C 31 0 (by decide) (by decide) (fun _ _ => rfl) v (show v < 9 by omega) rfl dX6_search_18 ?_
    refine g_I (I1 := sK I 31 (up2 F 0 v (nI w))) (by rw [sK_self, sK_sK]) ?_
    refine g_aldn C dX6_search_19 rfl ?_
    refine g_get C 27 0 (by decide) (by decide) u6 rfl 5 rfl fX6_23 rfl rfl dX6_search_20 ?_
    refine g_ild C dX6_search_23 rfl ?_
    refine g_iald C 31 0 (by decide) (by decide) (fun _ _ => rfl) v (show v < 9 by omega) rfl dX6_search_25 (v := (nI w)) (by rw [sK_self, up2_self]) ?_
    refine g_aldn C dX6_search_26 rfl ?_
    refine g_get C 27 0 (by decide) (by decide) u6 rfl 0 rfl fX6_7 rfl rfl dX6_search_27 ?_
    refine g_top (y := (nI n)) (by rw [sK_ne (by decide)]; exact hv.2.1) ?_
    refine n_icmp_lt (tgt := 39) C dX6_search_30 rfl (by omega) (by omega) (fun c30 => ?_) (fun c30 => ?_)
    · refine g_aldn C dX6_search_39 rfl ?_
      refine g_ildn C dX6_search_40 rfl ?_
      refine g_ildn C dX6_search_41 rfl ?_
      refine g_ild C dX6_search_42 rfl ?_
      refine g_aldn C dX6_search_44 rfl ?_
      refine g_get C 27 0 (by decide) (by decide) u6 rfl 5 rfl fX6_23 rfl rfl dX6_search_45 ?_
      refine g_ild C dX6_search_48 rfl ?_
      refine g_iald C 31 0 (by decide) (by decide) (fun _ _ => rfl) v (show v < 9 by omega) rfl dX6_search_50 (v := (nI w)) (by rw [sK_self, up2_self]) ?_
      refine g_callV (As := [.int (nI g), .int (nI h), .int (nI v), .int (nI w)]) (st := []) C (c_X6_fits hA (hv.of (I' := sK I 31 (up2 F 0 v (nI w))) (by rw [sK_ne (by decide)]) (sK_ne (by decide)) (sK_ne (by decide))) hg hh (f := f) (v := v) (w := w) hcu.1 c30 (fun i hi => ⟨by rw [sK_self, up2_ne (by omega)]; exact hF i hi, (hcu.2.2.1 i hi).1⟩)) wX6_fits iX6_fits sX6_fits mX6_86 27 0 (by decide) (by decide) rfl rfl rfl rfl rfl rfl rfl rfl dX6_search_51 ?_
      rintro v9 I9 J9 ⟨b, h91, hb, h92, h93⟩
      rw [h91, h92, h93]
      clear h91 h92 h93 v9 I9 J9
      have hsf : sfx (sK I 31 (up2 F 0 v (nI w))) v w ↔ sfx I v w := by unfold sfx; rw [sK_ne (by decide)]
      rw [hsf] at hb
      show G X _ Z _ (sK I 31 (up2 F 0 v (nI w))) J 54 [(0, .ref (Z.2.2.1 27 0)), (1, .int (nI g)), (2, .int (nI h)), (3, .int (nI fr)), (4, .int (nI v))] [.int (bI b)]
      refine b_if_eq (tgt := 3) C dX6_search_54 rfl (fun c54 => ?_) (fun c54 => ?_)
      · refine g_lv [0, 1, 2, 3, 4] rfl ?_
        exact ih f v (w + 1) _ (by have := mz_inc n f v w; have := mz_bd (f := f) (v := v) (w := w + 1) hn9 (fun i hi => by have := (hcu.2.2.1 i hi).1; omega) hcu.1 (by omega); omega) (hcu.inc c30 (fun q => absurd (hb.mpr q) (by rw [c54]; decide))) (fun i hi => by rw [up2_ne (by omega)]; exact hF i hi) (by rw [up2_self]; exact nI_add _ _)
      · refine g_ild C dX6_search_57 rfl ?_
        refine g_aldn C dX6_search_59 rfl ?_
        refine g_get C 27 0 (by decide) (by decide) u6 rfl 0 rfl fX6_7 rfl rfl dX6_search_60 ?_
        refine g_top (y := (nI n)) (by rw [sK_ne (by decide)]; exact hv.2.1) ?_
        refine g_iconst C ((nI 1)) dX6_search_63 (by decide) ?_
        refine g_isub (v := (nI (n - 1))) C dX6_search_64 (pk_sub (by omega)) ?_
        refine n_icmp_ne (tgt := 70) C dX6_search_65 rfl (by omega) (by omega) (fun c65 => ?_) (fun c65 => ?_)
        · refine g_iinc (lv' := [(4, .int (nI (v + 1))), (0, .ref (Z.2.2.1 27 0)), (1, .int (nI g)), (2, .int (nI h)), (3, .int (nI fr))]) C ((nI (v + 1))) dX6_search_70 rfl (inc1 _) rfl rfl ?_
          refine g_aldn C dX6_search_73 rfl ?_
          refine g_get C 27 0 (by decide) (by decide) u6 rfl 5 rfl fX6_23 rfl rfl dX6_search_74 ?_
          refine g_ild C dX6_search_77 rfl ?_
          refine g_iconst C ((-1)) dX6_search_79 (by decide) ?_
          refine g_iast C 31 0 (by decide) (by decide) (fun _ _ => rfl) (v + 1) (show v + 1 < 9 by omega) rfl dX6_search_80 ?_
          refine g_I (I1 := sK I 31 (up2 (up2 F 0 v (nI w)) 0 (v + 1) (-1))) (by rw [sK_self, sK_sK]) ?_
          refine g_goto (tgt := 3) C dX6_search_81 rfl ?_
          refine g_lv [1, 2, 3, 4, 0] rfl ?_
          exact ih (va_up f v w) (v + 1) 0 _ (by have := mz_adv (n := n) (f := f) (v := v) (w := w) (by omega); have := mz_bd (f := va_up f v w) (v := v + 1) (w := 0) hn9 (fun i hi => by have := (((hcu.bth c30 (hb.mp c54)).1) i hi).1; omega) (by omega) (by omega); omega) (hcu.adv (by omega) c30 (hb.mp c54)) (fun i hi => by rw [up2_ne (by omega)]; by_cases e : i = v; rw [e, up2_self, va_up_self]; rw [up2_ne e, va_up_ne _ _ e]; exact hF i (by omega)) (by rw [up2_self]; decide)
        · refine g_iconst C ((nI 1)) dX6_search_68 (by decide) ?_
          exact g_zreturn C hr (by decide) dX6_search_69 ⟨true, _, rfl, rfl, rfl, fun _ => ⟨va_up f v w, fun i hi => by by_cases e : i = v; rw [e, up2_self, va_up_self]; rw [up2_ne e, va_up_ne _ _ e]; exact hF i (by omega), hcu.fnd (by omega) c30 (hb.mp c54)⟩, fun q => absurd q (by decide)⟩
    · have hz0 := mz_bd (f := f) hn9 (fun i hi => by have := (hcu.2.2.1 i hi).1; omega) hcu.1 (show w ≤ 9 by omega)
      cases v with
      | zero =>
        refine g_iinc (lv' := [(4, .int (-1)), (0, .ref (Z.2.2.1 27 0)), (1, .int (nI g)), (2, .int (nI h)), (3, .int (nI fr))]) C ((-1)) dX6_search_33 rfl (by decide) rfl rfl ?_
        refine g_goto (tgt := 3) C dX6_search_36 rfl ?_
        refine g_ild C dX6_search_3 rfl ?_
        refine g_if_lt (tgt := 84) C dX6_search_5 rfl (fun _ => ?_) (fun q => absurd (by decide) q)
        refine g_iconst C ((nI 0)) dX6_search_84 (by decide) ?_
        exact g_zreturn C hr (by decide) dX6_search_85 ⟨false, _, rfl, rfl, rfl, fun q => absurd q (by decide), fun _ => hcu.none c30⟩
      | succ v =>
        refine g_iinc (lv' := [(4, .int (nI (v + 1 - 1))), (0, .ref (Z.2.2.1 27 0)), (1, .int (nI g)), (2, .int (nI h)), (3, .int (nI fr))]) C ((nI (v + 1 - 1))) dX6_search_33 rfl (dec1 (by omega)) rfl rfl ?_
        refine g_goto (tgt := 3) C dX6_search_36 rfl ?_
        refine g_lv (lv1 := [(0, .ref (Z.2.2.1 27 0)), (1, .int (nI g)), (2, .int (nI h)), (3, .int (nI fr)), (4, .int (nI v))]) [1, 2, 3, 4, 0] rfl ?_
        exact ih f v (f v + 1) _ (by have := mz_back (n := n) (f := f) (v := v) (w := w) (by omega) (by omega); have := mz_bd (f := f) (v := v) (w := f v + 1) hn9 (fun i hi => by have := (hcu.2.2.1 i (by omega)).1; omega) (by omega) (by have := (hcu.2.2.1 v (by omega)).1; omega); omega) (hcu.back c30) (fun i hi => by rw [up2_ne (by omega)]; exact hF i (by omega)) (by rw [up2_ne (by omega), hF v (by omega)]; exact nI_add _ _)

set_option maxRecDepth 100000 in
set_option maxHeartbeats 4000000 in
/-- search -/
theorem c_X6_search {l : Launch} {Y : Yk} (hA : AJ Y.2.2) {I : SI} {J : SJ} {n : Nat} {T : Nat → Nat → Nat} {L : Nat → Nat → Nat → Nat} (hv : MV I n T L) {g h : Nat} (hg : g < 2) (hh : h < 2) {fr : Nat} {rs : Bool} {f0 f : Nat → Nat} {w : Nat} (hcu : CU n T L g h (sfx I) rs f0 f fr w) (hF : ∀ i, i < fr → I 31 0 i = nI (f i)) (hFv : I 31 0 fr + nI 1 = nI w) : MX l Y yX6_search cX6_search 5 (some .boolean) 2 110 [.ref (Y.2.2 27 0), .int (nI g), .int (nI h), .int (nI fr)] I J (seP n T L g h (sfx I) rs f0 I J) := by
  refine MX.of hA (by decide) (own := RX6) rfl rfl rfl ?_
  intro X Z hl hY1 hY2 hY3 C hr
  obtain ⟨D0, ca0, ad0⟩ := Y
  dsimp only at hA hY1 hY2 hY3
  subst hY1; subst hY2; subst hY3; subst hl
  show G X 5 Z (QG X Z _) I J 0 [(0, .ref (Z.2.2.1 27 0)), (1, .int (nI g)), (2, .int (nI h)), (3, .int (nI fr))] []
  obtain ⟨⟨hn1, hn9⟩, -⟩ := id hv
  refine g_ildn C dX6_search_0 rfl ?_
  refine g_ist (lv' := [(4, .int (nI fr)), (0, .ref (Z.2.2.1 27 0)), (1, .int (nI g)), (2, .int (nI h)), (3, .int (nI fr))]) C dX6_search_1 rfl rfl ?_
  refine g_lv [1, 2, 3, 4, 0] rfl ?_
  refine g_I (I1 := sK I 31 (I 31)) (by rw [sK_id]) ?_
  exact l_X6_search_3 hA C hr hv hg hh (10 ^ n * 10 + 10 - mz n f fr w + 1) f fr w (I 31) (by omega) hcu hF hFv

