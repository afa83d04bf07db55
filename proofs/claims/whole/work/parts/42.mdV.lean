/-! ===== the reference: exchange, copy ===== -/
/-- row holds the exchanged labels before place (x, y) -/
def eR (L : Nat → Nat → Nat → Nat) (n a b c x y : Nat) (A : Nat → Nat → Int32) : Prop := ∀ u v, u < n → v < n → (u < x ∨ (u = x ∧ v < y)) → A 0 (9 * u + v) = nI (L a (swp b c u) (swp b c v))
/-- labels are those of L' before place (x, y) of graph a -/
def eB (L L' : Nat → Nat → Nat → Nat) (n a x y : Nat) (B : Nat → Nat → Int32) : Prop := ∀ g u v, g < 2 → u < n → v < n → B 0 (81 * g + 9 * u + v) = nI (if g = a ∧ (u < x ∨ (u = x ∧ v < y)) then L' g u v else L g u v)
theorem eR.next {L : Nat → Nat → Nat → Nat} {n a b c x : Nat} {A : Nat → Nat → Int32} (h : eR L n a b c x n A) : eR L n a b c (x + 1) 0 A := fun u v hu hv q => h u v hu hv (by omega)
theorem eB.next {L L' : Nat → Nat → Nat → Nat} {n a x : Nat} {B : Nat → Nat → Int32} (h : eB L L' n a x n B) : eB L L' n a (x + 1) 0 B := fun g u v hg hu hv => by
  rw [h g u v hg hu hv]
  by_cases e : g = a ∧ (u < x ∨ (u = x ∧ v < n))
  · rw [if_pos e, if_pos (by omega)]
  · rw [if_neg e, if_neg (by omega)]
theorem eR.step {L : Nat → Nat → Nat → Nat} {n a b c x y : Nat} {A : Nat → Nat → Int32} (hn : n ≤ 9) (h : eR L n a b c x y A) (hx : x < n) (hy : y < n) : eR L n a b c x (y + 1) (up2 A 0 (9 * x + y) (nI (L a (swp b c x) (swp b c y)))) := fun u v hu hv q => by
  rw [up2_at]
  by_cases e : u = x ∧ v = y
  · rw [if_pos ⟨rfl, by omega⟩, e.1, e.2]
  · rw [if_neg (fun z => e (by omega))]; exact h u v hu hv (by omega)
theorem eB.step {L L' : Nat → Nat → Nat → Nat} {n a x y : Nat} {B : Nat → Nat → Int32} {t : Nat} (hn : n ≤ 9) (h : eB L L' n a x y B) (ha : a < 2) (hx : x < n) (hy : y < n) (ht : t = L' a x y) : eB L L' n a x (y + 1) (up2 B 0 (81 * a + 9 * x + y) (nI t)) := fun g u v hg hu hv => by
  rw [up2_at]
  by_cases e : g = a ∧ u = x ∧ v = y
  · obtain ⟨e1, e2, e3⟩ := e
    subst e1; subst e2; subst e3
    rw [if_pos ⟨rfl, rfl⟩, if_pos (by omega), ht]
  · rw [if_neg (fun z => e (by omega)), h g u v hg hu hv]
    by_cases e2 : g = a ∧ (u < x ∨ (u = x ∧ v < y))
    · rw [if_pos e2, if_pos (by omega)]
    · rw [if_neg e2, if_neg (by omega)]
theorem eB.zero {I : SI} {n : Nat} {T : Nat → Nat → Nat} {L : Nat → Nat → Nat → Nat} (hv : MV I n T L) (L' : Nat → Nat → Nat → Nat) (a : Nat) : eB L L' n a 0 0 (I 28) := fun g u v hg hu h => by
  rw [if_neg (by omega)]; exact hv.l hg hu h
theorem swp_l9 {n b c x : Nat} (hb : b < n) (hc : c < n) (hx : x < n) : swp b c x < n := swp_lt hb hc hx
set_option maxRecDepth 100000 in
set_option maxHeartbeats 4000000 in
theorem l_X6_exchange_40 {X : Pk} {Z : Zk} {Q : State → Prop} {I : SI} {J : SJ} (hA : AJ Z.2.2.1) (C : Cx X cX6_exchange 6 RX6 Z 2 80) (hr : (xE X).sig.returnType = some .int) {n : Nat} {T : Nat → Nat → Nat} {L : Nat → Nat → Nat → Nat} (hv : MV I n T L) {a b c : Nat} (ha : a < 2) (hb : b < n) (hc : c < n) {x : Nat} (hx : x < n) (hex : ∀ A, eR L n a b c x n A → G X 6 Z Q (sK I 35 A) J 87 [(0, .ref (Z.2.2.1 27 0)), (1, .int (nI a)), (2, .int (nI b)), (3, .int (nI c)), (4, .int (nI x)), (5, .int (nI n))] []) : ∀ (k : Nat) (y : Nat) (A : Nat → Nat → Int32), n - y < k → (y ≤ n) → (eR L n a b c x y A) → G X 6 Z (Q) (sK I 35 A) (J) 40 [(0, .ref (Z.2.2.1 27 0)), (1, .int (nI a)), (2, .int (nI b)), (3, .int (nI c)), (4, .int (nI x)), (5, .int (nI y))] [] := by
  obtain ⟨⟨hn1, hn9⟩, -⟩ := id hv
  intro k
  induction k with
  | zero => intro y A h; exact absurd h (by omega)
  | succ k ih =>
    intro y A hk hy hR
    have s1 := swp_lt hb hc hx
    have s2 : y < n → swp b c y < n := fun h => swp_lt hb hc h
    refine g_ild C dX6_exchange_40 rfl ?_
    refine g_aldn C dX6_exchange_42 rfl ?_
    refine g_get C 27 0 (by decide) (by decide) u6 rfl 0 rfl fX6_7 rfl rfl dX6_exchange_43 ?_
    refine g_top (y := (nI n)) (hv.of (I' := sK I 35 A) (by rw [sK_ne (by decide)]) (sK_ne (by decide)) (sK_ne (by decide))).2.1 ?_
    refine n_icmp_ge (tgt := 87) C dX6_exchange_46 rfl (by omega) (by omega) (fun c_1 => ?_) (fun c_1 => ?_)
    · have e : y = n := by omega
      subst e
      refine g_lv [0, 1, 2, 3, 4, 5] rfl ?_
      exact hex A hR
    · refine g_aldn C dX6_exchange_49 rfl ?_
      refine g_get C 27 0 (by decide) (by decide) u6 rfl 9 rfl fX6_36 rfl rfl dX6_exchange_50 ?_
      refine g_bipush C ((nI 9)) dX6_exchange_53 (by decide) ?_
      refine g_ild C dX6_exchange_55 rfl ?_
      refine g_imul (v := (nI (9 * x))) C dX6_exchange_57 (pk_mul _ _) ?_
      refine g_ild C dX6_exchange_58 rfl ?_
      refine g_iadd (v := (nI (9 * x + y))) C dX6_exchange_60 (nI_add _ _) ?_
      refine g_aldn C dX6_exchange_61 rfl ?_
      refine g_ildn C dX6_exchange_62 rfl ?_
      refine g_ild C dX6_exchange_63 rfl ?_
      refine g_ildn C dX6_exchange_65 rfl ?_
      refine g_ildn C dX6_exchange_66 rfl ?_
      refine g_callS (As := [.int (nI x), .int (nI b), .int (nI c)]) (st := [.int (nI a), .ref (Z.2.2.1 27 0), .int (nI (9 * x + y)), .ref (Z.2.2.1 35 0)]) C (c_X6_other hA (w := x) (u := b) (v := c) (by omega) (by omega) (by omega)) wX6_other tX6_other mX6_66 rfl rfl rfl rfl dX6_exchange_67 ?_
      rintro v9 I9 J9 ⟨h91, h92, h93⟩
      rw [h91, h92, h93]
      clear h91 h92 h93 v9 I9 J9
      show G X _ Z _ (sK I 35 A) J 70 [(0, .ref (Z.2.2.1 27 0)), (1, .int (nI a)), (2, .int (nI b)), (3, .int (nI c)), (4, .int (nI x)), (5, .int (nI y))] [.int (nI (swp b c x)), .int (nI a), .ref (Z.2.2.1 27 0), .int (nI (9 * x + y)), .ref (Z.2.2.1 35 0)]
      refine g_ild C dX6_exchange_70 rfl ?_
      refine g_ildn C dX6_exchange_72 rfl ?_
      refine g_ildn C dX6_exchange_73 rfl ?_
      refine g_callS (As := [.int (nI y), .int (nI b), .int (nI c)]) (st := [.int (nI (swp b c x)), .int (nI a), .ref (Z.2.2.1 27 0), .int (nI (9 * x + y)), .ref (Z.2.2.1 35 0)]) C (c_X6_other hA (w := y) (u := b) (v := c) (by omega) (by omega) (by omega)) wX6_other tX6_other mX6_66 rfl rfl rfl rfl dX6_exchange_74 ?_
      rintro v9 I9 J9 ⟨h91, h92, h93⟩
      rw [h91, h92, h93]
      clear h91 h92 h93 v9 I9 J9
      show G X _ Z _ (sK I 35 A) J 77 [(0, .ref (Z.2.2.1 27 0)), (1, .int (nI a)), (2, .int (nI b)), (3, .int (nI c)), (4, .int (nI x)), (5, .int (nI y))] [.int (nI (swp b c y)), .int (nI (swp b c x)), .int (nI a), .ref (Z.2.2.1 27 0), .int (nI (9 * x + y)), .ref (Z.2.2.1 35 0)]
      refine g_callV (As := [.int (nI a), .int (nI (swp b c x)), .int (nI (swp b c y))]) (st := [.int (nI (9 * x + y)), .ref (Z.2.2.1 35 0)]) C (c_X6_labelOf hA (hv.of (I' := sK I 35 A) (by rw [sK_ne (by decide)]) (sK_ne (by decide)) (sK_ne (by decide))) (show a < 2 by omega) (show swp b c x < n by omega) (show swp b c y < n by omega)) wX6_labelOf iX6_labelOf sX6_labelOf mX6_62 27 0 (by decide) (by decide) rfl rfl rfl rfl rfl rfl rfl rfl dX6_exchange_77 ?_
      rintro v9 I9 J9 ⟨h91, h92, h93⟩
      rw [h91, h92, h93]
      clear h91 h92 h93 v9 I9 J9
      show G X _ Z _ (sK I 35 A) J 80 [(0, .ref (Z.2.2.1 27 0)), (1, .int (nI a)), (2, .int (nI b)), (3, .int (nI c)), (4, .int (nI x)), (5, .int (nI y))] [.int (nI (L a (swp b c x) (swp b c y))), .int (nI (9 * x + y)), .ref (Z.2.2.1 35 0)]
      refine g_iast C 35 0 (by decide) (by decide) (fun _ _ => rfl) (9 * x + y) (show 9 * x + y < 81 by omega) rfl dX6_exchange_80 ?_
      refine g_I (I1 := sK I 35 (up2 A 0 (9 * x + y) (nI (L a (swp b c x) (swp b c y))))) (by rw [sK_self, sK_sK]) ?_
      refine g_iinc (lv' := [(5, .int (nI (y + 1))), (0, .ref (Z.2.2.1 27 0)), (1, .int (nI a)), (2, .int (nI b)), (3, .int (nI c)), (4, .int (nI x))]) C ((nI (y + 1))) dX6_exchange_81 rfl (inc1 _) rfl rfl ?_
      refine g_goto (tgt := 40) C dX6_exchange_84 rfl ?_
      refine g_lv [1, 2, 3, 4, 5, 0] rfl ?_
      exact ih (y + 1) _ (by omega) (by omega) (hR.step hn9 hx (by omega))

set_option maxRecDepth 100000 in
set_option maxHeartbeats 4000000 in
theorem l_X6_exchange_28 {X : Pk} {Z : Zk} {Q : State → Prop} {I : SI} {J : SJ} (hA : AJ Z.2.2.1) (C : Cx X cX6_exchange 6 RX6 Z 2 80) (hr : (xE X).sig.returnType = some .int) {n : Nat} {T : Nat → Nat → Nat} {L : Nat → Nat → Nat → Nat} (hv : MV I n T L) {a b c : Nat} (ha : a < 2) (hb : b < n) (hc : c < n) (hex : ∀ A, eR L n a b c n 0 A → G X 6 Z Q (sK I 35 A) J 93 [(0, .ref (Z.2.2.1 27 0)), (1, .int (nI a)), (2, .int (nI b)), (3, .int (nI c)), (4, .int (nI n))] []) : ∀ (k : Nat) (x : Nat) (A : Nat → Nat → Int32), n - x < k → (x ≤ n) → (eR L n a b c x 0 A) → G X 6 Z (Q) (sK I 35 A) (J) 28 [(0, .ref (Z.2.2.1 27 0)), (1, .int (nI a)), (2, .int (nI b)), (3, .int (nI c)), (4, .int (nI x))] [] := by
  obtain ⟨⟨hn1, hn9⟩, -⟩ := id hv
  intro k
  induction k with
  | zero => intro x A h; exact absurd h (by omega)
  | succ k ih =>
    intro x A hk hx hR
    refine g_ild C dX6_exchange_28 rfl ?_
    refine g_aldn C dX6_exchange_30 rfl ?_
    refine g_get C 27 0 (by decide) (by decide) u6 rfl 0 rfl fX6_7 rfl rfl dX6_exchange_31 ?_
    refine g_top (y := (nI n)) (hv.of (I' := sK I 35 A) (by rw [sK_ne (by decide)]) (sK_ne (by decide)) (sK_ne (by decide))).2.1 ?_
    refine n_icmp_ge (tgt := 93) C dX6_exchange_34 rfl (by omega) (by omega) (fun c_1 => ?_) (fun c_1 => ?_)
    · have e : x = n := by omega
      subst e
      refine g_lv [0, 1, 2, 3, 4] rfl ?_
      exact hex A hR
    · refine g_iconst C ((nI 0)) dX6_exchange_37 (by decide) ?_
      refine g_ist (lv' := [(5, .int (nI 0)), (0, .ref (Z.2.2.1 27 0)), (1, .int (nI a)), (2, .int (nI b)), (3, .int (nI c)), (4, .int (nI x))]) C dX6_exchange_38 rfl rfl ?_
      refine g_lv [1, 2, 3, 4, 5, 0] rfl ?_
      refine l_X6_exchange_40 hA C hr hv ha hb hc (x := x) (by omega) ?_ (n + 1) 0 A (by omega) (by omega) hR
      intro A2 hR2
      refine g_iinc (lv' := [(4, .int (nI (x + 1))), (0, .ref (Z.2.2.1 27 0)), (1, .int (nI a)), (2, .int (nI b)), (3, .int (nI c)), (5, .int (nI n))]) C ((nI (x + 1))) dX6_exchange_87 rfl (inc1 _) rfl rfl ?_
      refine g_goto (tgt := 28) C dX6_exchange_90 rfl ?_
      refine g_lv [1, 2, 3, 4, 0] rfl ?_
      exact ih (x + 1) A2 (by omega) (by omega) hR2.next

set_option maxRecDepth 100000 in
set_option maxHeartbeats 4000000 in
theorem l_X6_exchange_108 {X : Pk} {Z : Zk} {Q : State → Prop} {I : SI} {J : SJ} (hA : AJ Z.2.2.1) (C : Cx X cX6_exchange 6 RX6 Z 2 80) (hr : (xE X).sig.returnType = some .int) {n : Nat} {T : Nat → Nat → Nat} {L : Nat → Nat → Nat → Nat} (hv : MV I n T L) {a b c : Nat} (ha : a < 2) (hb : b < n) (hc : c < n) {A : Nat → Nat → Int32} (hR : eR L n a b c n 0 A) {x : Nat} (hx : x < n) (hex : ∀ B, eB L (exL L a b c) n a x n B → G X 6 Z Q (sK (sK I 35 A) 28 B) J 154 [(0, .ref (Z.2.2.1 27 0)), (1, .int (nI a)), (2, .int (nI b)), (3, .int (nI c)), (4, .int (nI x)), (5, .int (nI n))] []) : ∀ (k : Nat) (y : Nat) (B : Nat → Nat → Int32), n - y < k → (y ≤ n) → (eB L (exL L a b c) n a x y B) → G X 6 Z (Q) (sK (sK I 35 A) 28 B) (J) 108 [(0, .ref (Z.2.2.1 27 0)), (1, .int (nI a)), (2, .int (nI b)), (3, .int (nI c)), (4, .int (nI x)), (5, .int (nI y))] [] := by
  obtain ⟨⟨hn1, hn9⟩, -⟩ := id hv
  intro k
  induction k with
  | zero => intro y B h; exact absurd h (by omega)
  | succ k ih =>
    intro y B hk hy hB
    refine g_ild C dX6_exchange_108 rfl ?_
    refine g_aldn C dX6_exchange_110 rfl ?_
    refine g_get C 27 0 (by decide) (by decide) u6 rfl 0 rfl fX6_7 rfl rfl dX6_exchange_111 ?_
    refine g_top (y := (nI n)) (show (sK (sK I 35 A) 28 B) 27 0 0 = nI n by rw [sK_ne (by decide), sK_ne (by decide)]; exact hv.2.1) ?_
    refine n_icmp_ge (tgt := 154) C dX6_exchange_114 rfl (by omega) (by omega) (fun c_1 => ?_) (fun c_1 => ?_)
    · have e : y = n := by omega
      subst e
      refine g_lv [0, 1, 2, 3, 4, 5] rfl ?_
      exact hex B hB
    · refine g_aldn C dX6_exchange_117 rfl ?_
      refine g_get C 27 0 (by decide) (by decide) u6 rfl 1 rfl fX6_13 rfl rfl dX6_exchange_118 ?_
      refine g_bipush C ((nI 81)) dX6_exchange_121 (by decide) ?_
      refine g_ildn C dX6_exchange_123 rfl ?_
      refine g_imul (v := (nI (81 * a))) C dX6_exchange_124 (pk_mul _ _) ?_
      refine g_bipush C ((nI 9)) dX6_exchange_125 (by decide) ?_
      refine g_ild C dX6_exchange_127 rfl ?_
      refine g_imul (v := (nI (9 * x))) C dX6_exchange_129 (pk_mul _ _) ?_
      refine g_iadd (v := (nI (81 * a + 9 * x))) C dX6_exchange_130 (nI_add _ _) ?_
      refine g_ild C dX6_exchange_131 rfl ?_
      refine g_iadd (v := (nI (81 * a + 9 * x + y))) C dX6_exchange_133 (nI_add _ _) ?_
      refine g_aldn C dX6_exchange_134 rfl ?_
      refine g_get C 27 0 (by decide) (by decide) u6 rfl 9 rfl fX6_36 rfl rfl dX6_exchange_135 ?_
      refine g_bipush C ((nI 9)) dX6_exchange_138 (by decide) ?_
      refine g_ild C dX6_exchange_140 rfl ?_
      refine g_imul (v := (nI (9 * x))) C dX6_exchange_142 (pk_mul _ _) ?_
      refine g_ild C dX6_exchange_143 rfl ?_
      refine g_iadd (v := (nI (9 * x + y))) C dX6_exchange_145 (nI_add _ _) ?_
      refine g_iald C 35 0 (by decide) (by decide) (fun _ _ => rfl) (9 * x + y) (show 9 * x + y < 81 by omega) rfl dX6_exchange_146 (v := (nI (L a (swp b c x) (swp b c y)))) (by rw [sK_ne (by decide), sK_self]; exact hR x y hx (by omega) (Or.inl hx)) ?_
      refine g_iast C 28 0 (by decide) (by decide) (fun _ _ => rfl) (81 * a + 9 * x + y) (show 81 * a + 9 * x + y < 162 by omega) rfl dX6_exchange_147 ?_
      refine g_I (I1 := sK (sK I 35 A) 28 (up2 B 0 (81 * a + 9 * x + y) (nI (L a (swp b c x) (swp b c y))))) (by rw [sK_self, sK_sK]) ?_
      refine g_iinc (lv' := [(5, .int (nI (y + 1))), (0, .ref (Z.2.2.1 27 0)), (1, .int (nI a)), (2, .int (nI b)), (3, .int (nI c)), (4, .int (nI x))]) C ((nI (y + 1))) dX6_exchange_148 rfl (inc1 _) rfl rfl ?_
      refine g_goto (tgt := 108) C dX6_exchange_151 rfl ?_
      refine g_lv [1, 2, 3, 4, 5, 0] rfl ?_
      exact ih (y + 1) _ (by omega) (by omega) (hB.step hn9 ha hx (by omega) (by unfold exL; rw [if_pos rfl]))

set_option maxRecDepth 100000 in
set_option maxHeartbeats 4000000 in
theorem l_X6_exchange_96 {X : Pk} {Z : Zk} {Q : State → Prop} {I : SI} {J : SJ} (hA : AJ Z.2.2.1) (C : Cx X cX6_exchange 6 RX6 Z 2 80) (hr : (xE X).sig.returnType = some .int) {n : Nat} {T : Nat → Nat → Nat} {L : Nat → Nat → Nat → Nat} (hv : MV I n T L) {a b c : Nat} (ha : a < 2) (hb : b < n) (hc : c < n) {A : Nat → Nat → Int32} (hR : eR L n a b c n 0 A) (hex : ∀ B, eB L (exL L a b c) n a n 0 B → G X 6 Z Q (sK (sK I 35 A) 28 B) J 160 [(0, .ref (Z.2.2.1 27 0)), (1, .int (nI a)), (2, .int (nI b)), (3, .int (nI c)), (4, .int (nI n))] []) : ∀ (k : Nat) (x : Nat) (B : Nat → Nat → Int32), n - x < k → (x ≤ n) → (eB L (exL L a b c) n a x 0 B) → G X 6 Z (Q) (sK (sK I 35 A) 28 B) (J) 96 [(0, .ref (Z.2.2.1 27 0)), (1, .int (nI a)), (2, .int (nI b)), (3, .int (nI c)), (4, .int (nI x))] [] := by
  obtain ⟨⟨hn1, hn9⟩, -⟩ := id hv
  intro k
  induction k with
  | zero => intro x B h; exact absurd h (by omega)
  | succ k ih =>
    intro x B hk hx hB
    refine g_ild C dX6_exchange_96 rfl ?_
    refine g_aldn C dX6_exchange_98 rfl ?_
    refine g_get C 27 0 (by decide) (by decide) u6 rfl 0 rfl fX6_7 rfl rfl dX6_exchange_99 ?_
    refine g_top (y := (nI n)) (show (sK (sK I 35 A) 28 B) 27 0 0 = nI n by rw [sK_ne (by decide), sK_ne (by decide)]; exact hv.2.1) ?_
    refine n_icmp_ge (tgt := 160) C dX6_exchange_102 rfl (by omega) (by omega) (fun c_1 => ?_) (fun c_1 => ?_)
    · have e : x = n := by omega
      subst e
      refine g_lv [0, 1, 2, 3, 4] rfl ?_
      exact hex B hB
    · refine g_iconst C ((nI 0)) dX6_exchange_105 (by decide) ?_
      refine g_ist (lv' := [(5, .int (nI 0)), (0, .ref (Z.2.2.1 27 0)), (1, .int (nI a)), (2, .int (nI b)), (3, .int (nI c)), (4, .int (nI x))]) C dX6_exchange_106 rfl rfl ?_
      refine g_lv [1, 2, 3, 4, 5, 0] rfl ?_
      refine l_X6_exchange_108 hA C hr hv ha hb hc hR (x := x) (by omega) ?_ (n + 1) 0 B (by omega) (by omega) hB
      intro B2 hB2
      refine g_iinc (lv' := [(4, .int (nI (x + 1))), (0, .ref (Z.2.2.1 27 0)), (1, .int (nI a)), (2, .int (nI b)), (3, .int (nI c)), (5, .int (nI n))]) C ((nI (x + 1))) dX6_exchange_154 rfl (inc1 _) rfl rfl ?_
      refine g_goto (tgt := 96) C dX6_exchange_157 rfl ?_
      refine g_lv [1, 2, 3, 4, 0] rfl ?_
      exact ih (x + 1) B2 (by omega) (by omega) hB2.next

theorem exm_cv {I : SI} {n : Nat} {T : Nat → Nat → Nat} {L : Nat → Nat → Nat → Nat} {a b cc : Nat} {A B : Nat → Nat → Int32} (h : MV I n T L) (ha : a < 2) (hb : b < n) (hc : cc < n) (hB : eB L (exL L a b cc) n a n 0 B) : MV (sK (sK (sK I 35 A) 28 B) 29 (up2 (up2 (I 29) 0 (9 * a + b) (nI (T a cc))) 0 (9 * a + cc) (nI (T a b)))) n (exT T a b cc) (exL L a b cc) := by
  have hn9 := h.1.2
  refine ⟨h.1, by rw [sK_ne (by decide), sK_ne (by decide), sK_ne (by decide)]; exact h.2.1, fun g v hg hv => ?_, fun g u v hg hu hv => ?_⟩
  · rw [sK_self, up2_at, up2_at]
    unfold exT
    by_cases e : g = a
    · subst e
      rw [if_pos rfl]
      by_cases e1 : v = cc
      · subst e1; rw [if_pos ⟨rfl, rfl⟩, swp_r]; exact ⟨rfl, h.t4 hg hb⟩
      · rw [if_neg (fun q => e1 (by omega))]
        by_cases e2 : v = b
        · subst e2; rw [if_pos ⟨rfl, rfl⟩, swp_l]; exact ⟨rfl, h.t4 hg hc⟩
        · rw [if_neg (fun q => e2 (by omega)), swp_o e2 e1]; exact h.2.2.1 g v hg hv
    · rw [if_neg (by omega), if_neg (by omega), if_neg e]; exact h.2.2.1 g v hg hv
  · rw [sK_ne (by decide), sK_self, hB g u v hg hu hv]
    have e4 : exL L a b cc g u v < 4 := by
      unfold exL
      by_cases e : g = a
      · rw [if_pos e]; exact h.l4 hg (swp_lt hb hc hu) (swp_lt hb hc hv)
      · rw [if_neg e]; exact h.l4 hg hu hv
    refine ⟨?_, e4⟩
    by_cases e : g = a
    · rw [if_pos (by omega)]
    · rw [if_neg (by omega)]; unfold exL; rw [if_neg e]
set_option maxRecDepth 100000 in
set_option maxHeartbeats 4000000 in
/-- exchange -/
theorem c_X6_exchange {l : Launch} {Y : Yk} (hA : AJ Y.2.2) {I : SI} {J : SJ} {n : Nat} {T : Nat → Nat → Nat} {L : Nat → Nat → Nat → Nat} {ah : Bool} {nm : Nat → Nat} (hm : MI I n T L ah nm) (g u v : Int32) : MX l Y yX6_exchange cX6_exchange 6 (some .int) 2 80 [.ref (Y.2.2 27 0), .int g, .int u, .int v] I J (fun v' I' J' => if isV n g u && isV n g v then ∃ a b c, a < 2 ∧ b < n ∧ c < n ∧ g = nI a ∧ u = nI b ∧ v = nI c ∧ mP I J (nI 0) n (exT T a b c) (exL L a b c) false nm v' I' J' else mP I J (-1) n T L ah nm v' I' J') := by
  refine MX.of hA (by decide) (own := RX6) rfl rfl rfl ?_
  intro X Z hl hY1 hY2 hY3 C hr
  obtain ⟨D0, ca0, ad0⟩ := Y
  dsimp only at hA hY1 hY2 hY3
  subst hY1; subst hY2; subst hY3; subst hl
  show G X 6 Z (QG X Z _) I J 0 [(0, .ref (Z.2.2.1 27 0)), (1, .int g), (2, .int u), (3, .int v)] []
  have hv := hm.1
  obtain ⟨⟨hn1, hn9⟩, -⟩ := id hv
  refine g_ildn C dX6_exchange_0 rfl ?_
  refine g_callS (As := [.int g]) (st := []) C (c_X6_isGraph hA g) wX6_isGraph tX6_isGraph mX6_55 rfl rfl rfl rfl dX6_exchange_1 ?_
  rintro v9 I9 J9 ⟨h91, h92, h93⟩
  rw [h91, h92, h93]
  clear h91 h92 h93 v9 I9 J9
  show G X _ Z _ I J 4 [(0, .ref (Z.2.2.1 27 0)), (1, .int g), (2, .int u), (3, .int v)] [.int (bI (isG g))]
  refine b_if_eq (tgt := 23) C dX6_exchange_4 rfl (fun c4 => ?_) (fun c4 => ?_)
  · refine g_iconst C ((-1)) dX6_exchange_23 (by decide) ?_
    exact g_ireturn C hr dX6_exchange_24 (by rw [if_neg (by rw [isV_eq, isV_eq]; first | (rw [c4]; simp; done) | (rw [c12]; simp; done) | (rw [c20]; simp; done))]; exact ⟨rfl, rfl, fun _ _ => rfl, hm⟩)
  · refine g_aldn C dX6_exchange_7 rfl ?_
    refine g_ildn C dX6_exchange_8 rfl ?_
    refine g_callV (As := [.int u]) (st := []) C (c_X6_isVertex hA hm.1 u) wX6_isVertex iX6_isVertex sX6_isVertex mX6_59 27 0 (by decide) (by decide) rfl rfl rfl rfl rfl rfl rfl rfl dX6_exchange_9 ?_
    rintro v9 I9 J9 ⟨h91, h92, h93⟩
    rw [h91, h92, h93]
    clear h91 h92 h93 v9 I9 J9
    show G X _ Z _ I J 12 [(0, .ref (Z.2.2.1 27 0)), (1, .int g), (2, .int u), (3, .int v)] [.int (bI (isW n u))]
    refine b_if_eq (tgt := 23) C dX6_exchange_12 rfl (fun c12 => ?_) (fun c12 => ?_)
    · refine g_iconst C ((-1)) dX6_exchange_23 (by decide) ?_
      exact g_ireturn C hr dX6_exchange_24 (by rw [if_neg (by rw [isV_eq, isV_eq]; first | (rw [c4]; simp; done) | (rw [c12]; simp; done) | (rw [c20]; simp; done))]; exact ⟨rfl, rfl, fun _ _ => rfl, hm⟩)
    · refine g_aldn C dX6_exchange_15 rfl ?_
      refine g_ildn C dX6_exchange_16 rfl ?_
      refine g_callV (As := [.int v]) (st := []) C (c_X6_isVertex hA hm.1 v) wX6_isVertex iX6_isVertex sX6_isVertex mX6_59 27 0 (by decide) (by decide) rfl rfl rfl rfl rfl rfl rfl rfl dX6_exchange_17 ?_
      rintro v9 I9 J9 ⟨h91, h92, h93⟩
      rw [h91, h92, h93]
      clear h91 h92 h93 v9 I9 J9
      show G X _ Z _ I J 20 [(0, .ref (Z.2.2.1 27 0)), (1, .int g), (2, .int u), (3, .int v)] [.int (bI (isW n v))]
      refine b_if_ne (tgt := 25) C dX6_exchange_20 rfl (fun c20 => ?_) (fun c20 => ?_)
      · have hok : (isV n g u && isV n g v) = true := by rw [isV_eq, isV_eq, c4, c12, c20]; rfl
        obtain ⟨a, ha, rfl⟩ := isG_t c4
        obtain ⟨b, hb, rfl⟩ := isW_t (by omega) c12
        obtain ⟨cc, hc2, rfl⟩ := isW_t (by omega) c20
        refine g_iconst C ((nI 0)) dX6_exchange_25 (by decide) ?_
        refine g_ist (lv' := [(4, .int (nI 0)), (0, .ref (Z.2.2.1 27 0)), (1, .int (nI a)), (2, .int (nI b)), (3, .int (nI cc))]) C dX6_exchange_26 rfl rfl ?_
        refine g_lv [1, 2, 3, 4, 0] rfl ?_
        refine g_I (I1 := sK I 35 (I 35)) (by rw [sK_id]) ?_
        refine l_X6_exchange_28 hA C hr hv ha hb hc2 ?_ (n + 1) 0 (I 35) (by omega) (by omega) (fun u v hu h q => by omega)
        intro A hR
        refine g_iconst C ((nI 0)) dX6_exchange_93 (by decide) ?_
        refine g_ist (lv' := [(4, .int (nI 0)), (0, .ref (Z.2.2.1 27 0)), (1, .int (nI a)), (2, .int (nI b)), (3, .int (nI cc))]) C dX6_exchange_94 rfl rfl ?_
        refine g_lv [1, 2, 3, 4, 0] rfl ?_
        refine g_I (I1 := sK (sK I 35 A) 28 (I 28)) (by rw [show I 28 = (sK I 35 A) 28 from (sK_ne (by decide)).symm, sK_id]) ?_
        refine l_X6_exchange_96 hA C hr hv ha hb hc2 hR ?_ (n + 1) 0 (I 28) (by omega) (by omega) (eB.zero hv _ a)
        intro B hB
        refine g_aldn C dX6_exchange_160 rfl ?_
        refine g_get C 27 0 (by decide) (by decide) u6 rfl 2 rfl fX6_17 rfl rfl dX6_exchange_161 ?_
        refine g_bipush C ((nI 9)) dX6_exchange_164 (by decide) ?_
        refine g_ildn C dX6_exchange_166 rfl ?_
        refine g_imul (v := (nI (9 * a))) C dX6_exchange_167 (pk_mul _ _) ?_
        refine g_ildn C dX6_exchange_168 rfl ?_
        refine g_iadd (v := (nI (9 * a + b))) C dX6_exchange_169 (nI_add _ _) ?_
        refine g_iald C 29 0 (by decide) (by decide) (fun _ _ => rfl) (9 * a + b) (show 9 * a + b < 18 by omega) rfl dX6_exchange_170 (v := (nI (T a b))) (by rw [sK_ne (by decide), sK_ne (by decide)]; exact hv.t ha hb) ?_
        refine g_ist (lv' := [(4, .int (nI (T a b))), (0, .ref (Z.2.2.1 27 0)), (1, .int (nI a)), (2, .int (nI b)), (3, .int (nI cc))]) C dX6_exchange_171 rfl rfl ?_
        refine g_aldn C dX6_exchange_173 rfl ?_
        refine g_get C 27 0 (by decide) (by decide) u6 rfl 2 rfl fX6_17 rfl rfl dX6_exchange_174 ?_
        refine g_bipush C ((nI 9)) dX6_exchange_177 (by decide) ?_
        refine g_ildn C dX6_exchange_179 rfl ?_
        refine g_imul (v := (nI (9 * a))) C dX6_exchange_180 (pk_mul _ _) ?_
        refine g_ildn C dX6_exchange_181 rfl ?_
        refine g_iadd (v := (nI (9 * a + b))) C dX6_exchange_182 (nI_add _ _) ?_
        refine g_aldn C dX6_exchange_183 rfl ?_
        refine g_get C 27 0 (by decide) (by decide) u6 rfl 2 rfl fX6_17 rfl rfl dX6_exchange_184 ?_
        refine g_bipush C ((nI 9)) dX6_exchange_187 (by decide) ?_
        refine g_ildn C dX6_exchange_189 rfl ?_
        refine g_imul (v := (nI (9 * a))) C dX6_exchange_190 (pk_mul _ _) ?_
        refine g_ildn C dX6_exchange_191 rfl ?_
        refine g_iadd (v := (nI (9 * a + cc))) C dX6_exchange_192 (nI_add _ _) ?_
        refine g_iald C 29 0 (by decide) (by decide) (fun _ _ => rfl) (9 * a + cc) (show 9 * a + cc < 18 by omega) rfl dX6_exchange_193 (v := (nI (T a cc))) (by rw [sK_ne (by decide), sK_ne (by decide)]; exact hv.t ha hc2) ?_
        refine g_iast C 29 0 (by decide) (by decide) (fun _ _ => rfl) (9 * a + b) (show 9 * a + b < 18 by omega) rfl dX6_exchange_194 ?_
        refine g_I (I1 := sK (sK (sK I 35 A) 28 B) 29 (up2 (I 29) 0 (9 * a + b) (nI (T a cc)))) (by rw [sK_ne (by decide : (29 : Nat) ≠ 28), sK_ne (by decide : (29 : Nat) ≠ 35)]) ?_
        refine g_aldn C dX6_exchange_195 rfl ?_
        refine g_get C 27 0 (by decide) (by decide) u6 rfl 2 rfl fX6_17 rfl rfl dX6_exchange_196 ?_
        refine g_bipush C ((nI 9)) dX6_exchange_199 (by decide) ?_
        refine g_ildn C dX6_exchange_201 rfl ?_
        refine g_imul (v := (nI (9 * a))) C dX6_exchange_202 (pk_mul _ _) ?_
        refine g_ildn C dX6_exchange_203 rfl ?_
        refine g_iadd (v := (nI (9 * a + cc))) C dX6_exchange_204 (nI_add _ _) ?_
        refine g_ild C dX6_exchange_205 rfl ?_
        refine g_iast C 29 0 (by decide) (by decide) (fun _ _ => rfl) (9 * a + cc) (show 9 * a + cc < 18 by omega) rfl dX6_exchange_207 ?_
        refine g_I (I1 := sK (sK (sK I 35 A) 28 B) 29 (up2 (up2 (I 29) 0 (9 * a + b) (nI (T a cc))) 0 (9 * a + cc) (nI (T a b)))) (by rw [sK_self, sK_sK]) ?_
        refine g_aldn C dX6_exchange_208 rfl ?_
        refine g_callV (As := []) (st := []) C (c_X6_changed hA) wX6_changed iX6_changed sX6_changed mX6_52 27 0 (by decide) (by decide) rfl rfl rfl rfl rfl rfl rfl rfl dX6_exchange_209 ?_
        rintro v9 I9 J9 ⟨h91, e9, h93⟩
        rw [h91, h93]
        clear h91 h93 v9 J9
        show G X _ Z _ I9 J 212 [(4, .int (nI (T a b))), (0, .ref (Z.2.2.1 27 0)), (1, .int (nI a)), (2, .int (nI b)), (3, .int (nI cc))] []
        refine g_iconst C ((nI 0)) dX6_exchange_212 (by decide) ?_
        exact g_ireturn C hr dX6_exchange_213 (by rw [if_pos hok]; exact ⟨a, b, cc, ha, hb, hc2, rfl, rfl, rfl, mc_fin nm (exm_cv hv ha hb hc2 hB) (fun q hq => by rw [sK_ne (by omega), sK_ne (by omega), sK_ne (by omega)]) e9⟩)
      · refine g_iconst C ((-1)) dX6_exchange_23 (by decide) ?_
        exact g_ireturn C hr dX6_exchange_24 (by rw [if_neg (by rw [isV_eq, isV_eq]; first | (rw [c4]; simp; done) | (rw [c12]; simp; done) | (rw [c20]; simp; done))]; exact ⟨rfl, rfl, fun _ _ => rfl, hm⟩)

/-- tints are the other graph's before place x of graph a -/
def eT (T T' : Nat → Nat → Nat) (n a x : Nat) (A : Nat → Nat → Int32) : Prop := ∀ g v, g < 2 → v < n → A 0 (9 * g + v) = nI (if g = a ∧ v < x then T' g v else T g v)
theorem eT.step {T T' : Nat → Nat → Nat} {n a x : Nat} {A : Nat → Nat → Int32} {t : Nat} (hn : n ≤ 9) (h : eT T T' n a x A) (ha : a < 2) (hx : x < n) (ht : t = T' a x) : eT T T' n a (x + 1) (up2 A 0 (9 * a + x) (nI t)) := fun g v hg hv => by
  rw [up2_at]
  by_cases e : g = a ∧ v = x
  · obtain ⟨e1, e2⟩ := e
    subst e1; subst e2
    rw [if_pos ⟨rfl, rfl⟩, if_pos (by omega), ht]
  · rw [if_neg (fun z => e (by omega)), h g v hg hv]
    by_cases e2 : g = a ∧ v < x
    · rw [if_pos e2, if_pos (by omega)]
    · rw [if_neg e2, if_neg (by omega)]
theorem eB.other {L L' : Nat → Nat → Nat → Nat} {n a x y : Nat} {B : Nat → Nat → Int32} (h : eB L L' n a x y B) {g u v : Nat} (hg : g < 2) (hne : g ≠ a) (hu : u < n) (hv : v < n) : B 0 (81 * g + 9 * u + v) = nI (L g u v) := by
  rw [h g u v hg hu hv, if_neg (fun q => hne q.1)]
/-- the cells as graphs in the midst of a copy -/
theorem eBT.mv {I : SI} {n : Nat} {T T' : Nat → Nat → Nat} {L L' : Nat → Nat → Nat → Nat} {a x y z : Nat} {A B : Nat → Nat → Int32} (h : MV I n T L) (h4 : ∀ g u v, g < 2 → u < n → v < n → L' g u v < 4) (t4 : ∀ g v, g < 2 → v < n → T' g v < 4) (hA : eT T T' n a z A) (hB : eB L L' n a x y B) : MV (sK (sK I 29 A) 28 B) n (fun g v => if g = a ∧ v < z then T' g v else T g v) (fun g u v => if g = a ∧ (u < x ∨ (u = x ∧ v < y)) then L' g u v else L g u v) := by
  refine ⟨h.1, by rw [sK_ne (by decide), sK_ne (by decide)]; exact h.2.1, fun g v hg hv => ⟨by rw [sK_ne (by decide), sK_self]; exact hA g v hg hv, ?_⟩, fun g u v hg hu hv => ⟨by rw [sK_self]; exact hB g u v hg hu hv, ?_⟩⟩
  · show (if g = a ∧ v < z then T' g v else T g v) < 4
    split
    · exact t4 g v hg hv
    · exact h.t4 hg hv
  · show (if g = a ∧ (u < x ∨ (u = x ∧ v < y)) then L' g u v else L g u v) < 4
    split
    · exact h4 g u v hg hu hv
    · exact h.l4 hg hu hv
theorem cpL4 {I : SI} {n : Nat} {T : Nat → Nat → Nat} {L : Nat → Nat → Nat → Nat} {a : Nat} (h : MV I n T L) (ha : a < 2) : ∀ g u v, g < 2 → u < n → v < n → cpL L a g u v < 4 := fun g u v hg hu hv => by
  unfold cpL
  split
  · exact h.l4 (by omega) hu hv
  · exact h.l4 hg hu hv
theorem cpT4 {I : SI} {n : Nat} {T : Nat → Nat → Nat} {L : Nat → Nat → Nat → Nat} {a : Nat} (h : MV I n T L) (ha : a < 2) : ∀ g v, g < 2 → v < n → cpT T a g v < 4 := fun g v hg hv => by
  unfold cpT
  split
  · exact h.t4 (by omega) hv
  · exact h.t4 hg hv
set_option maxRecDepth 100000 in
set_option maxHeartbeats 4000000 in
theorem l_X6_copy_45 {X : Pk} {Z : Zk} {Q : State → Prop} {I : SI} {J : SJ} (hA : AJ Z.2.2.1) (C : Cx X cX6_copy 4 RX6 Z 2 80) (hr : (xE X).sig.returnType = some .int) {n : Nat} {T : Nat → Nat → Nat} {L : Nat → Nat → Nat → Nat} (hv : MV I n T L) {a : Nat} (ha : a < 2) {A : Nat → Nat → Int32} {x : Nat} (hA1 : eT T (cpT T a) n a (x + 1) A) (hx : x < n) (hex : ∀ B, eB L (cpL L a) n a x n B → G X 4 Z Q (sK (sK I 29 A) 28 B) J 84 [(0, .ref (Z.2.2.1 27 0)), (1, .int (nI a)), (2, .int (nI x)), (3, .int (nI n))] []) : ∀ (k : Nat) (y : Nat) (B : Nat → Nat → Int32), n - y < k → (y ≤ n) → (eB L (cpL L a) n a x y B) → G X 4 Z (Q) (sK (sK I 29 A) 28 B) (J) 45 [(0, .ref (Z.2.2.1 27 0)), (1, .int (nI a)), (2, .int (nI x)), (3, .int (nI y))] [] := by
  obtain ⟨⟨hn1, hn9⟩, -⟩ := id hv
  intro k
  induction k with
  | zero => intro y B h; exact absurd h (by omega)
  | succ k ih =>
    intro y B hk hy hB
    refine g_ildn C dX6_copy_45 rfl ?_
    refine g_aldn C dX6_copy_46 rfl ?_
    refine g_get C 27 0 (by decide) (by decide) u6 rfl 0 rfl fX6_7 rfl rfl dX6_copy_47 ?_
    refine g_top (y := (nI n)) (show (sK (sK I 29 A) 28 B) 27 0 0 = nI n by rw [sK_ne (by decide), sK_ne (by decide)]; exact hv.2.1) ?_
    refine n_icmp_ge (tgt := 84) C dX6_copy_50 rfl (by omega) (by omega) (fun c_1 => ?_) (fun c_1 => ?_)
    · have e : y = n := by omega
      subst e
      refine g_lv [0, 1, 2, 3] rfl ?_
      exact hex B hB
    · refine g_aldn C dX6_copy_53 rfl ?_
      refine g_get C 27 0 (by decide) (by decide) u6 rfl 1 rfl fX6_13 rfl rfl dX6_copy_54 ?_
      refine g_bipush C ((nI 81)) dX6_copy_57 (by decide) ?_
      refine g_ildn C dX6_copy_59 rfl ?_
      refine g_imul (v := (nI (81 * a))) C dX6_copy_60 (pk_mul _ _) ?_
      refine g_bipush C ((nI 9)) dX6_copy_61 (by decide) ?_
      refine g_ildn C dX6_copy_63 rfl ?_
      refine g_imul (v := (nI (9 * x))) C dX6_copy_64 (pk_mul _ _) ?_
      refine g_iadd (v := (nI (81 * a + 9 * x))) C dX6_copy_65 (nI_add _ _) ?_
      refine g_ildn C dX6_copy_66 rfl ?_
      refine g_iadd (v := (nI (81 * a + 9 * x + y))) C dX6_copy_67 (nI_add _ _) ?_
      refine g_aldn C dX6_copy_68 rfl ?_
      refine g_iconst C ((nI 1)) dX6_copy_69 (by decide) ?_
      refine g_ildn C dX6_copy_70 rfl ?_
      refine g_isub (v := (nI (1 - a))) C dX6_copy_71 (pk_sub (by omega)) ?_
      refine g_ildn C dX6_copy_72 rfl ?_
      refine g_ildn C dX6_copy_73 rfl ?_
      refine g_callV (As := [.int (nI (1 - a)), .int (nI x), .int (nI y)]) (st := [.int (nI (81 * a + 9 * x + y)), .ref (Z.2.2.1 28 0)]) C (c_X6_labelOf hA (eBT.mv hv (cpL4 hv ha) (cpT4 hv ha) hA1 hB) (show 1 - a < 2 by omega) hx (show y < n by omega)) wX6_labelOf iX6_labelOf sX6_labelOf mX6_62 27 0 (by decide) (by decide) rfl rfl rfl rfl rfl rfl rfl rfl dX6_copy_74 ?_
      rintro v9 I9 J9 ⟨h91, h92, h93⟩
      rw [if_neg (fun q => absurd q.1 (by omega))] at h91
      rw [h91, h92, h93]
      clear h91 h92 h93 v9 I9 J9
      show G X _ Z _ (sK (sK I 29 A) 28 B) J 77 [(0, .ref (Z.2.2.1 27 0)), (1, .int (nI a)), (2, .int (nI x)), (3, .int (nI y))] [.int (nI (L (1 - a) x y)), .int (nI (81 * a + 9 * x + y)), .ref (Z.2.2.1 28 0)]
      refine g_iast C 28 0 (by decide) (by decide) (fun _ _ => rfl) (81 * a + 9 * x + y) (show 81 * a + 9 * x + y < 162 by omega) rfl dX6_copy_77 ?_
      refine g_I (I1 := sK (sK I 29 A) 28 (up2 B 0 (81 * a + 9 * x + y) (nI (L (1 - a) x y)))) (by rw [sK_self, sK_sK]) ?_
      refine g_iinc (lv' := [(3, .int (nI (y + 1))), (0, .ref (Z.2.2.1 27 0)), (1, .int (nI a)), (2, .int (nI x))]) C ((nI (y + 1))) dX6_copy_78 rfl (inc1 _) rfl rfl ?_
      refine g_goto (tgt := 45) C dX6_copy_81 rfl ?_
      refine g_lv [1, 2, 3, 0] rfl ?_
      exact ih (y + 1) _ (by omega) (by omega) (hB.step hn9 ha hx (by omega) (by unfold cpL; rw [if_pos rfl]))

set_option maxRecDepth 100000 in
set_option maxHeartbeats 4000000 in
theorem l_X6_copy_11 {X : Pk} {Z : Zk} {Q : State → Prop} {I : SI} {J : SJ} (hA : AJ Z.2.2.1) (C : Cx X cX6_copy 4 RX6 Z 2 80) (hr : (xE X).sig.returnType = some .int) {n : Nat} {T : Nat → Nat → Nat} {L : Nat → Nat → Nat → Nat} (hv : MV I n T L) {a : Nat} (ha : a < 2) (hex : ∀ A B, eT T (cpT T a) n a n A → eB L (cpL L a) n a n 0 B → G X 4 Z Q (sK (sK I 29 A) 28 B) J 90 [(0, .ref (Z.2.2.1 27 0)), (1, .int (nI a)), (2, .int (nI n))] []) : ∀ (k : Nat) (x : Nat) (A : Nat → Nat → Int32) (B : Nat → Nat → Int32), n - x < k → (x ≤ n) → (eT T (cpT T a) n a x A) → (eB L (cpL L a) n a x 0 B) → G X 4 Z (Q) (sK (sK I 29 A) 28 B) (J) 11 [(0, .ref (Z.2.2.1 27 0)), (1, .int (nI a)), (2, .int (nI x))] [] := by
  obtain ⟨⟨hn1, hn9⟩, -⟩ := id hv
  intro k
  induction k with
  | zero => intro x A B h; exact absurd h (by omega)
  | succ k ih =>
    intro x A B hk hx hA1 hB
    refine g_ildn C dX6_copy_11 rfl ?_
    refine g_aldn C dX6_copy_12 rfl ?_
    refine g_get C 27 0 (by decide) (by decide) u6 rfl 0 rfl fX6_7 rfl rfl dX6_copy_13 ?_
    refine g_top (y := (nI n)) (show (sK (sK I 29 A) 28 B) 27 0 0 = nI n by rw [sK_ne (by decide), sK_ne (by decide)]; exact hv.2.1) ?_
    refine n_icmp_ge (tgt := 90) C dX6_copy_16 rfl (by omega) (by omega) (fun c_1 => ?_) (fun c_1 => ?_)
    · have e : x = n := by omega
      subst e
      refine g_lv [0, 1, 2] rfl ?_
      exact hex A B hA1 hB
    · refine g_aldn C dX6_copy_19 rfl ?_
      refine g_get C 27 0 (by decide) (by decide) u6 rfl 2 rfl fX6_17 rfl rfl dX6_copy_20 ?_
      refine g_bipush C ((nI 9)) dX6_copy_23 (by decide) ?_
      refine g_ildn C dX6_copy_25 rfl ?_
      refine g_imul (v := (nI (9 * a))) C dX6_copy_26 (pk_mul _ _) ?_
      refine g_ildn C dX6_copy_27 rfl ?_
      refine g_iadd (v := (nI (9 * a + x))) C dX6_copy_28 (nI_add _ _) ?_
      refine g_aldn C dX6_copy_29 rfl ?_
      refine g_get C 27 0 (by decide) (by decide) u6 rfl 2 rfl fX6_17 rfl rfl dX6_copy_30 ?_
      refine g_bipush C ((nI 9)) dX6_copy_33 (by decide) ?_
      refine g_iconst C ((nI 1)) dX6_copy_35 (by decide) ?_
      refine g_ildn C dX6_copy_36 rfl ?_
      refine g_isub (v := (nI (1 - a))) C dX6_copy_37 (pk_sub (by omega)) ?_
      refine g_imul (v := (nI (9 * (1 - a)))) C dX6_copy_38 (pk_mul _ _) ?_
      refine g_ildn C dX6_copy_39 rfl ?_
      refine g_iadd (v := (nI (9 * (1 - a) + x))) C dX6_copy_40 (nI_add _ _) ?_
      refine g_iald C 29 0 (by decide) (by decide) (fun _ _ => rfl) (9 * (1 - a) + x) (show 9 * (1 - a) + x < 18 by omega) rfl dX6_copy_41 (v := (nI (T (1 - a) x))) (by rw [sK_ne (by decide), sK_self]; exact (hA1 (1 - a) x (by omega) (by omega)).trans (by rw [if_neg (by omega)])) ?_
      refine g_iast C 29 0 (by decide) (by decide) (fun _ _ => rfl) (9 * a + x) (show 9 * a + x < 18 by omega) rfl dX6_copy_42 ?_
      refine g_I (I1 := sK (sK I 29 (up2 A 0 (9 * a + x) (nI (T (1 - a) x)))) 28 B) (by rw [sK_ne (by decide : (29 : Nat) ≠ 28), sK_self, sK_swap _ (by decide : (28 : Nat) ≠ 29), sK_sK]) ?_
      refine g_iconst C ((nI 0)) dX6_copy_43 (by decide) ?_
      refine g_istn (lv' := [(3, .int (nI 0)), (0, .ref (Z.2.2.1 27 0)), (1, .int (nI a)), (2, .int (nI x))]) C dX6_copy_44 rfl rfl ?_
      refine g_lv [1, 2, 3, 0] rfl ?_
      refine l_X6_copy_45 hA C hr hv ha (hA1.step hn9 ha (x := x) (by omega) (by unfold cpT; rw [if_pos rfl])) (by omega) ?_ (n + 1) 0 B (by omega) (by omega) hB
      intro B2 hB2
      refine g_iinc (lv' := [(2, .int (nI (x + 1))), (0, .ref (Z.2.2.1 27 0)), (1, .int (nI a)), (3, .int (nI n))]) C ((nI (x + 1))) dX6_copy_84 rfl (inc1 _) rfl rfl ?_
      refine g_goto (tgt := 11) C dX6_copy_87 rfl ?_
      refine g_lv [1, 2, 0] rfl ?_
      exact ih (x + 1) _ B2 (by omega) (by omega) (hA1.step hn9 ha (by omega) (by unfold cpT; rw [if_pos rfl])) hB2.next

theorem cpm_cv {I : SI} {n : Nat} {T : Nat → Nat → Nat} {L : Nat → Nat → Nat → Nat} {a : Nat} {A B : Nat → Nat → Int32} (h : MV I n T L) (ha : a < 2) (hA : eT T (cpT T a) n a n A) (hB : eB L (cpL L a) n a n 0 B) : MV (sK (sK I 29 A) 28 B) n (cpT T a) (cpL L a) := by
  refine ⟨h.1, by rw [sK_ne (by decide), sK_ne (by decide)]; exact h.2.1, fun g v hg hv => ⟨?_, cpT4 h ha g v hg hv⟩, fun g u v hg hu hv => ⟨?_, cpL4 h ha g u v hg hu hv⟩⟩
  · rw [sK_ne (by decide), sK_self, hA g v hg hv]
    by_cases e : g = a
    · rw [if_pos ⟨e, hv⟩]
    · rw [if_neg (fun q => e q.1)]; unfold cpT; rw [if_neg e]
  · rw [sK_self, hB g u v hg hu hv]
    by_cases e : g = a
    · rw [if_pos ⟨e, Or.inl hu⟩]
    · rw [if_neg (fun q => e q.1)]; unfold cpL; rw [if_neg e]
set_option maxRecDepth 100000 in
set_option maxHeartbeats 4000000 in
/-- copy -/
theorem c_X6_copy {l : Launch} {Y : Yk} (hA : AJ Y.2.2) {I : SI} {J : SJ} {n : Nat} {T : Nat → Nat → Nat} {L : Nat → Nat → Nat → Nat} {ah : Bool} {nm : Nat → Nat} (hm : MI I n T L ah nm) (g : Int32) : MX l Y yX6_copy cX6_copy 4 (some .int) 2 80 [.ref (Y.2.2 27 0), .int g] I J (fun v' I' J' => if isG g then ∃ a, a < 2 ∧ g = nI a ∧ mP I J (nI 0) n (cpT T a) (cpL L a) false nm v' I' J' else mP I J (-1) n T L ah nm v' I' J') := by
  refine MX.of hA (by decide) (own := RX6) rfl rfl rfl ?_
  intro X Z hl hY1 hY2 hY3 C hr
  obtain ⟨D0, ca0, ad0⟩ := Y
  dsimp only at hA hY1 hY2 hY3
  subst hY1; subst hY2; subst hY3; subst hl
  show G X 4 Z (QG X Z _) I J 0 [(0, .ref (Z.2.2.1 27 0)), (1, .int g)] []
  have hv := hm.1
  obtain ⟨⟨hn1, hn9⟩, -⟩ := id hv
  refine g_ildn C dX6_copy_0 rfl ?_
  refine g_callS (As := [.int g]) (st := []) C (c_X6_isGraph hA g) wX6_isGraph tX6_isGraph mX6_55 rfl rfl rfl rfl dX6_copy_1 ?_
  rintro v9 I9 J9 ⟨h91, h92, h93⟩
  rw [h91, h92, h93]
  clear h91 h92 h93 v9 I9 J9
  show G X _ Z _ I J 4 [(0, .ref (Z.2.2.1 27 0)), (1, .int g)] [.int (bI (isG g))]
  refine b_if_ne (tgt := 9) C dX6_copy_4 rfl (fun c4 => ?_) (fun c4 => ?_)
  · obtain ⟨a, ha, rfl⟩ := isG_t c4
    refine g_iconst C ((nI 0)) dX6_copy_9 (by decide) ?_
    refine g_istn (lv' := [(2, .int (nI 0)), (0, .ref (Z.2.2.1 27 0)), (1, .int (nI a))]) C dX6_copy_10 rfl rfl ?_
    refine g_lv [1, 2, 0] rfl ?_
    refine g_I (I1 := sK (sK I 29 (I 29)) 28 (I 28)) (by rw [sK_id, sK_id]) ?_
    refine l_X6_copy_11 hA C hr hv ha ?_ (n + 1) 0 (I 29) (I 28) (by omega) (by omega) (fun g v hg h => by rw [if_neg (by omega)]; exact hv.t hg h) (eB.zero hv _ a)
    intro A B hA1 hB
    refine g_aldn C dX6_copy_90 rfl ?_
    refine g_callV (As := []) (st := []) C (c_X6_changed hA) wX6_changed iX6_changed sX6_changed mX6_52 27 0 (by decide) (by decide) rfl rfl rfl rfl rfl rfl rfl rfl dX6_copy_91 ?_
    rintro v9 I9 J9 ⟨h91, e9, h93⟩
    rw [h91, h93]
    clear h91 h93 v9 J9
    show G X _ Z _ I9 J 94 [(0, .ref (Z.2.2.1 27 0)), (1, .int (nI a)), (2, .int (nI n))] []
    refine g_iconst C ((nI 0)) dX6_copy_94 (by decide) ?_
    exact g_ireturn C hr dX6_copy_95 (by rw [if_pos c4]; exact ⟨a, ha, rfl, mc_fin nm (cpm_cv hv ha hA1 hB) (fun q hq => by rw [sK_ne (by omega), sK_ne (by omega)]) e9⟩)
  · refine g_iconst C ((-1)) dX6_copy_7 (by decide) ?_
    exact g_ireturn C hr dX6_copy_8 (by rw [if_neg (by rw [c4]; decide)]; exact ⟨rfl, rfl, fun _ _ => rfl, hm⟩)

