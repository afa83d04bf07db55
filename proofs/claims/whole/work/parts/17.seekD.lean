/-! ===== NamingSeeker: fits, place, findFirst, findNext, findSymmetry ===== -/
set_option maxRecDepth 100000 in
set_option maxHeartbeats 4000000 in
theorem l_X2_fits_21 {X : Pk} {Z : Zk} {fr lo : Nat} {I : SI} {J : SJ} (C : Cx X cX2_fits 7 RX2 Z fr lo) (hr : (xE X).sig.returnType = some .boolean) {n : Nat} {T : Nat → Nat → Nat} {K : Nat → Nat → Nat} {L : Nat → Nat → Nat → Nat} (hv : CV I n T L) (hc : CC I n K) {g h q : Nat} (hg : g < 2) (hh : h < 2) (hq : q < 2) {f : Nat → Nat} {v w : Nat} (hvn : v < n) (hwn : w < n) (hf : ∀ i, i < v → I 18 q i = nI (f i) ∧ f i < n) (e1 : K g v = K h w) : ∀ k u, v - u < k → u ≤ v → (∀ a, a < u → L g v a = L h w (f a) ∧ L g a v = L h (f a) w) → G X 7 Z (QG X Z (fun v' I' J' => ∃ b : Bool, v' = some (.int (bI b)) ∧ (b = true ↔ ftn K L g h f v w) ∧ I' = I ∧ J' = J)) I J 21 [(0, .ref (Z.2.2.1 17 q)), (1, .ref (Z.2.2.1 2 g)), (2, .ref (Z.2.2.1 2 h)), (3, .int (nI v)), (4, .int (nI w)), (5, .int (nI u))] [] := by
  obtain ⟨⟨hn1, hn9⟩, -⟩ := id hv
  intro k
  induction k with
  | zero => intro u h; exact absurd h (by omega)
  | succ k ih =>
    intro u hk huv hin
    have hfu : u < v → f u < n := fun h => (hf u h).2
    have q1 : u < v → L g v u < 4 := fun h => hv.l4 hg hvn (by omega)
    have q2 : u < v → L h w (f u) < 4 := fun h => hv.l4 hh hwn (hfu h)
    have q3 : u < v → L g u v < 4 := fun h => hv.l4 hg (by omega) hvn
    have q4 : u < v → L h (f u) w < 4 := fun h => hv.l4 hh (hfu h) hwn
    refine g_ild C dX2_fits_21 rfl ?_
    refine g_ildn C dX2_fits_23 rfl ?_
    refine n_icmp_ge (tgt := 88) C dX2_fits_24 rfl (by omega) (by omega) (fun c_1 => ?_) (fun c_1 => ?_)
    · refine g_iconst C ((nI 1)) dX2_fits_88 (by decide) ?_
      exact g_zreturn C hr (by decide) dX2_fits_89 ⟨true, rfl, ⟨fun _ => ⟨e1, fun a ha => hin a (by omega)⟩, fun _ => rfl⟩, rfl, rfl⟩
    · refine g_aldn C dX2_fits_27 rfl ?_
      refine g_get C 17 q (by decide) (show q < 2 by omega) u2 rfl 0 rfl fX2_9 rfl rfl dX2_fits_28 ?_
      refine g_ild C dX2_fits_31 rfl ?_
      refine g_iald C 18 q (by decide) (show q < 2 by omega) (fun _ _ => rfl) u (show u < 9 by omega) rfl dX2_fits_33 (v := (nI (f u))) (hf u (by omega)).1 ?_
      refine g_ist (lv' := [(6, .int (nI (f u))), (0, .ref (Z.2.2.1 17 q)), (1, .ref (Z.2.2.1 2 g)), (2, .ref (Z.2.2.1 2 h)), (3, .int (nI v)), (4, .int (nI w)), (5, .int (nI u))]) C dX2_fits_34 rfl rfl ?_
      refine g_aldn C dX2_fits_36 rfl ?_
      refine g_get C 2 g (by decide) (show g < 2 by omega) u1 rfl 2 rfl fX2_32 rfl rfl dX2_fits_37 ?_
      refine g_ildn C dX2_fits_40 rfl ?_
      refine g_aald C 4 g 3 (by decide) (show g < 2 by omega) (fun _ _ => rfl) rfl rfl v (show v < 9 by omega) rfl dX2_fits_41 ?_
      refine g_ild C dX2_fits_42 rfl ?_
      refine g_iald C 5 (9 * g + v) (by decide) (show 9 * g + v < 18 by omega) (fun _ _ => rfl) u (show u < 9 by omega) rfl dX2_fits_44 (v := (nI (L g v u))) (hv.l (show g < 2 by omega) (show v < n by omega) (show u < n by omega)) ?_
      refine g_aldn C dX2_fits_45 rfl ?_
      refine g_get C 2 h (by decide) (show h < 2 by omega) u1 rfl 2 rfl fX2_32 rfl rfl dX2_fits_46 ?_
      refine g_ild C dX2_fits_49 rfl ?_
      refine g_aald C 4 h 3 (by decide) (show h < 2 by omega) (fun _ _ => rfl) rfl rfl w (show w < 9 by omega) rfl dX2_fits_51 ?_
      refine g_ild C dX2_fits_52 rfl ?_
      refine g_iald C 5 (9 * h + w) (by decide) (show 9 * h + w < 18 by omega) (fun _ _ => rfl) (f u) (show f u < 9 by omega) rfl dX2_fits_54 (v := (nI (L h w (f u)))) (hv.l (show h < 2 by omega) (show w < n by omega) (show f u < n by omega)) ?_
      refine n_icmp_ne (tgt := 80) C dX2_fits_55 rfl (by omega) (by omega) (fun c_2 => ?_) (fun c_2 => ?_)
      · refine g_iconst C ((nI 0)) dX2_fits_80 (by decide) ?_
        exact g_zreturn C hr (by decide) dX2_fits_81 ⟨false, rfl, ⟨fun h => absurd h (by decide), fun h => by first | exact absurd (h.2 u (by omega)).1 c_2 | exact absurd (h.2 u (by omega)).2 c_3⟩, rfl, rfl⟩
      · refine g_aldn C dX2_fits_58 rfl ?_
        refine g_get C 2 g (by decide) (show g < 2 by omega) u1 rfl 2 rfl fX2_32 rfl rfl dX2_fits_59 ?_
        refine g_ild C dX2_fits_62 rfl ?_
        refine g_aald C 4 g 3 (by decide) (show g < 2 by omega) (fun _ _ => rfl) rfl rfl u (show u < 9 by omega) rfl dX2_fits_64 ?_
        refine g_ildn C dX2_fits_65 rfl ?_
        refine g_iald C 5 (9 * g + u) (by decide) (show 9 * g + u < 18 by omega) (fun _ _ => rfl) v (show v < 9 by omega) rfl dX2_fits_66 (v := (nI (L g u v))) (hv.l (show g < 2 by omega) (show u < n by omega) (show v < n by omega)) ?_
        refine g_aldn C dX2_fits_67 rfl ?_
        refine g_get C 2 h (by decide) (show h < 2 by omega) u1 rfl 2 rfl fX2_32 rfl rfl dX2_fits_68 ?_
        refine g_ild C dX2_fits_71 rfl ?_
        refine g_aald C 4 h 3 (by decide) (show h < 2 by omega) (fun _ _ => rfl) rfl rfl (f u) (show f u < 9 by omega) rfl dX2_fits_73 ?_
        refine g_ild C dX2_fits_74 rfl ?_
        refine g_iald C 5 (9 * h + f u) (by decide) (show 9 * h + f u < 18 by omega) (fun _ _ => rfl) w (show w < 9 by omega) rfl dX2_fits_76 (v := (nI (L h (f u) w))) (hv.l (show h < 2 by omega) (show f u < n by omega) (show w < n by omega)) ?_
        refine n_icmp_eq (tgt := 82) C dX2_fits_77 rfl (by omega) (by omega) (fun c_3 => ?_) (fun c_3 => ?_)
        · refine g_iinc (lv' := [(5, .int (nI (u + 1))), (6, .int (nI (f u))), (0, .ref (Z.2.2.1 17 q)), (1, .ref (Z.2.2.1 2 g)), (2, .ref (Z.2.2.1 2 h)), (3, .int (nI v)), (4, .int (nI w))]) C ((nI (u + 1))) dX2_fits_82 rfl (inc1 _) rfl rfl ?_
          refine g_goto (tgt := 21) C dX2_fits_85 rfl ?_
          refine g_lv [2, 3, 4, 5, 6, 0] rfl ?_
          exact ih (u + 1) (by omega) (by omega) (fun a ha => (Nat.lt_or_eq_of_le (Nat.le_of_lt_succ ha)).elim (hin a) (fun e => by subst e; exact ⟨c_2, c_3⟩))
        · refine g_iconst C ((nI 0)) dX2_fits_80 (by decide) ?_
          exact g_zreturn C hr (by decide) dX2_fits_81 ⟨false, rfl, ⟨fun h => absurd h (by decide), fun h => by first | exact absurd (h.2 u (by omega)).1 c_2 | exact absurd (h.2 u (by omega)).2 c_3⟩, rfl, rfl⟩

set_option maxRecDepth 100000 in
set_option maxHeartbeats 4000000 in
/-- NamingSeeker.fits -/
theorem c_X2_fits {l : Launch} {Y : Yk} (hA : AJ Y.2.2) {I : SI} {J : SJ} {n : Nat} {T : Nat → Nat → Nat} {K : Nat → Nat → Nat} {L : Nat → Nat → Nat → Nat} (hv : CV I n T L) (hc : CC I n K) {g h q : Nat} (hg : g < 2) (hh : h < 2) (hq : q < 2) {f : Nat → Nat} {v w : Nat} (hvn : v < n) (hwn : w < n) (hf : ∀ i, i < v → I 18 q i = nI (f i) ∧ f i < n)  : MX l Y yX2_fits cX2_fits 7 (some .boolean) 0 0 [.ref (Y.2.2 17 q), .ref (Y.2.2 2 g), .ref (Y.2.2 2 h), .int (nI v), .int (nI w)] I J (fun v' I' J' => ∃ b : Bool, v' = some (.int (bI b)) ∧ (b = true ↔ ftn K L g h f v w) ∧ I' = I ∧ J' = J) := by
  refine MX.of hA (by decide) (own := RX2) rfl rfl rfl ?_
  intro X Z hl hY1 hY2 hY3 C hr
  obtain ⟨D0, ca0, ad0⟩ := Y
  dsimp only at hA hY1 hY2 hY3
  subst hY1; subst hY2; subst hY3; subst hl
  show G X 7 Z (QG X Z _) I J 0 [(0, .ref (Z.2.2.1 17 q)), (1, .ref (Z.2.2.1 2 g)), (2, .ref (Z.2.2.1 2 h)), (3, .int (nI v)), (4, .int (nI w))] []
  obtain ⟨⟨hn1, hn9⟩, -⟩ := id hv
  have q1 := (hc g hg v hvn).2
  have q2 := (hc h hh w hwn).2
  refine g_aldn C dX2_fits_0 rfl ?_
  refine g_get C 2 g (by decide) (show g < 2 by omega) u1 rfl 3 rfl fX2_29 rfl rfl dX2_fits_1 ?_
  refine g_ildn C dX2_fits_4 rfl ?_
  refine g_iald C 7 g (by decide) (show g < 2 by omega) (fun _ _ => rfl) v (show v < 9 by omega) rfl dX2_fits_5 (v := (nI (K g v))) (hc g (by omega) v (by omega)).1 ?_
  refine g_aldn C dX2_fits_6 rfl ?_
  refine g_get C 2 h (by decide) (show h < 2 by omega) u1 rfl 3 rfl fX2_29 rfl rfl dX2_fits_7 ?_
  refine g_ild C dX2_fits_10 rfl ?_
  refine g_iald C 7 h (by decide) (show h < 2 by omega) (fun _ _ => rfl) w (show w < 9 by omega) rfl dX2_fits_12 (v := (nI (K h w))) (hc h (by omega) w (by omega)).1 ?_
  refine n_icmp_eq (tgt := 18) C dX2_fits_13 rfl (by omega) (by omega) (fun c_1 => ?_) (fun c_1 => ?_)
  · refine g_iconst C ((nI 0)) dX2_fits_18 (by decide) ?_
    refine g_ist (lv' := [(5, .int (nI 0)), (0, .ref (Z.2.2.1 17 q)), (1, .ref (Z.2.2.1 2 g)), (2, .ref (Z.2.2.1 2 h)), (3, .int (nI v)), (4, .int (nI w))]) C dX2_fits_19 rfl rfl ?_
    refine g_lv [1, 2, 3, 4, 5, 0] rfl ?_
    exact l_X2_fits_21 C hr hv hc hg hh hq hvn hwn hf c_1 (v + 1) 0 (by omega) (by omega) (fun a h => absurd h (by omega))
  · refine g_iconst C ((nI 0)) dX2_fits_16 (by decide) ?_
    exact g_zreturn C hr (by decide) dX2_fits_17 ⟨false, rfl, ⟨fun h => absurd h (by decide), fun h => absurd h.1 c_1⟩, rfl, rfl⟩

def plPre (I : SI) (n : Nat) (T : Nat → Nat → Nat) (K : Nat → Nat → Nat) (L : Nat → Nat → Nat → Nat) (g h q v tk : Nat) (rs : Bool) (f : Nat → Nat) : Prop :=
  CV I n T L ∧ CC I n K ∧ v ≤ n ∧ tr n K L g h f v ∧ tkn tk f v ∧ (∀ i, i < v → I 18 q i = nI (f i)) ∧ (rs = true → tr n K L g h f n ∧ ∀ i, i < n → I 18 q i = nI (f i))
def plPost (n : Nat) (K : Nat → Nat → Nat) (L : Nat → Nat → Nat → Nat) (g h q v : Nat) (rs : Bool) (f : Nat → Nat) (I : SI) (J : SJ) : Option Value → SI → SJ → Prop := fun v' I' J' =>
  ∃ (b : Bool) (F : Nat → Nat → Int32), v' = some (.int (bI b)) ∧ I' = sK I 18 F ∧ J' = J ∧ (∀ r, r ≠ q → F r = I 18 r) ∧ (∀ i, i < v → F q i = I 18 q i) ∧
    (b = true → ∃ f', (∀ i, i < n → F q i = nI (f' i)) ∧ PC n K L g h v rs f f' ∧ ∀ f2, PC n K L g h v rs f f2 → lxe n f' f2) ∧ (b = false → ∀ f2, ¬ PC n K L g h v rs f f2)
set_option maxRecDepth 100000 in
set_option maxHeartbeats 4000000 in
theorem l_X2_place_40 {X : Pk} {Z : Zk} {I : SI} {J : SJ} (hA : AJ Z.2.2.1) {d : Nat} (C : Cx X cX2_place 8 RX2 Z (d + 1) (40 * (d + 1))) (hr : (xE X).sig.returnType = some .boolean) {n : Nat} {T : Nat → Nat → Nat} {K : Nat → Nat → Nat} {L : Nat → Nat → Nat → Nat} (hv : CV I n T L) (hc : CC I n K) {g h q : Nat} (hg : g < 2) (hh : h < 2) (hq : q < 2) {v tk : Nat} {rs : Bool} {f : Nat → Nat} {start : Nat} (hvn : v < n) (htr : tr n K L g h f v) (htk : tkn tk f v) (hrow : ∀ i, i < v → I 18 q i = nI (f i)) (hs : rs = true → start = f v ∧ tr n K L g h f n) (hd : v + d = n) (hrec : ∀ d', d = d' + 1 → ∀ (I : SI) (J : SJ) (v tk : Nat) (rs : Bool) (f : Nat → Nat), v + d' = n → plPre I n T K L g h q v tk rs f → MX X.2.1 (Z.1, Z.2.1, Z.2.2.1) yX2_place cX2_place 8 (some .boolean) (d' + 1) (40 * (d' + 1)) [.ref (Z.2.2.1 17 q), .ref (Z.2.2.1 2 g), .ref (Z.2.2.1 2 h), .int (nI v), .int (nI tk), .int (bI rs)] I J (plPost n K L g h q v rs f I J)) : ∀ k w F, n - w < k → w ≤ n → start ≤ w → (∀ r, r ≠ q → F r = I 18 r) → (∀ i, i < v → F q i = nI (f i)) → (rs = true → w = start → ∀ i, i < n → F q i = nI (f i)) → (∀ f2, PC n K L g h v rs f f2 → w ≤ f2 v) → G X 8 Z (QG X Z (plPost n K L g h q v rs f I J)) (sK I 18 F) J 40 [(0, .ref (Z.2.2.1 17 q)), (1, .ref (Z.2.2.1 2 g)), (2, .ref (Z.2.2.1 2 h)), (3, .int (nI v)), (4, .int (nI tk)), (5, .int (bI rs)), (6, .int (nI start)), (7, .int (nI w))] [] := by
  obtain ⟨⟨hn1, hn9⟩, -⟩ := id hv
  obtain ⟨d', hd'⟩ : ∃ d', d = d' + 1 := ⟨d - 1, by omega⟩
  have htk9 : tk < 512 := htk.1
  intro k
  induction k with
  | zero => intro w F h; exact absurd h (by omega)
  | succ k ih =>
    intro w F hk hwn hsw hF1 hF2 hF3 hinv
    have hdv : tk / 2 ^ w ≤ tk := Nat.div_le_self _ _
    have hbt : tk / 2 ^ w % 2 ≠ 0 → tk.testBit w = true := fun h => bit_t (by omega)
    refine g_ild C dX2_place_40 rfl ?_
    refine g_aldn C dX2_place_42 rfl ?_
    refine g_get C 2 h (by decide) (show h < 2 by omega) u1 rfl 0 rfl fX2_23 rfl rfl dX2_place_43 ?_
    refine g_top (y := (nI n)) ((hv.of (sK_ne (by decide)) (sK_ne (by decide)) (sK_ne (by decide)) : CV (sK I 18 F) n T L).sz (show h < 2 by omega)) ?_
    refine n_icmp_ge (tgt := 123) C dX2_place_46 rfl (by omega) (by omega) (fun c_1 => ?_) (fun c_1 => ?_)
    · refine g_iconst C ((nI 0)) dX2_place_123 (by decide) ?_
      exact g_zreturn C hr (by decide) dX2_place_124 ⟨false, F, rfl, rfl, rfl, hF1, fun i hi => by rw [hF2 i hi, hrow i hi], fun h => absurd h (by decide), fun _ f2 h2 => absurd (hinv f2 h2) (by have := (h2.1 v hvn).1; omega)⟩
    · refine g_ild C dX2_place_49 rfl ?_
      refine g_ild C dX2_place_51 rfl ?_
      refine g_ishr (v := (nI (tk / 2 ^ w))) C dX2_place_53 (shrI (by omega) (by omega)) ?_
      refine g_iconst C ((nI 1)) dX2_place_54 (by decide) ?_
      refine g_iand (v := (nI (tk / 2 ^ w % 2))) C dX2_place_55 (and1 _) ?_
      refine n_if_ne (tgt := 117) C dX2_place_56 rfl (by omega) (fun c_2 => ?_) (fun c_2 => ?_)
      · refine g_iinc (lv' := [(7, .int (nI (w + 1))), (0, .ref (Z.2.2.1 17 q)), (1, .ref (Z.2.2.1 2 g)), (2, .ref (Z.2.2.1 2 h)), (3, .int (nI v)), (4, .int (nI tk)), (5, .int (bI rs)), (6, .int (nI start))]) C ((nI (w + 1))) dX2_place_117 rfl (inc1 _) rfl rfl ?_
        refine g_goto (tgt := 40) C dX2_place_120 rfl ?_
        refine g_lv [1, 2, 3, 4, 5, 6, 7, 0] rfl ?_
        exact ih (w + 1) F (by omega) (by omega) (by omega) hF1 hF2 (fun _ e => absurd e (by omega)) (PC.not hvn hinv (by first | exact Or.inl ((htk.2 w).mp (hbt c_2)) | exact Or.inr (fun q => absurd (hb.mpr q) (by rw [c_3]; decide))))
      · have hbit : tk.testBit w = false := bit_f (by omega)
        refine g_aldn C dX2_place_59 rfl ?_
        refine g_aldn C dX2_place_60 rfl ?_
        refine g_aldn C dX2_place_61 rfl ?_
        refine g_ildn C dX2_place_62 rfl ?_
        refine g_ild C dX2_place_63 rfl ?_
        refine g_callV (As := [.ref (Z.2.2.1 2 g), .ref (Z.2.2.1 2 h), .int (nI v), .int (nI w)]) (st := []) C (c_X2_fits hA (hv.of (sK_ne (by decide)) (sK_ne (by decide)) (sK_ne (by decide))) (hc.of (sK_ne (by decide))) hg hh hq hvn (show w < n by omega) (fun i hi => ⟨hF2 i hi, (htr i hi).1⟩)) wX2_fits iX2_fits sX2_fits mX2_19 17 q (by decide) (show q < 2 by omega) rfl rfl rfl rfl rfl rfl rfl (Bool.and_eq_true_iff.mpr ⟨Nat.ble_eq.mpr (by omega), Nat.ble_eq.mpr (by omega)⟩) dX2_place_65 ?_
        rintro v9 I9 J9 ⟨b, h91, hb, h92, h93⟩
        rw [h91, h92, h93]
        clear h91 h92 h93 v9 I9 J9
        show G X _ Z _ (sK I 18 F) J 68 [(0, .ref (Z.2.2.1 17 q)), (1, .ref (Z.2.2.1 2 g)), (2, .ref (Z.2.2.1 2 h)), (3, .int (nI v)), (4, .int (nI tk)), (5, .int (bI rs)), (6, .int (nI start)), (7, .int (nI w))] [.int (bI b)]
        refine b_if_eq (tgt := 117) C dX2_place_68 rfl (fun c_3 => ?_) (fun c_3 => ?_)
        · refine g_iinc (lv' := [(7, .int (nI (w + 1))), (0, .ref (Z.2.2.1 17 q)), (1, .ref (Z.2.2.1 2 g)), (2, .ref (Z.2.2.1 2 h)), (3, .int (nI v)), (4, .int (nI tk)), (5, .int (bI rs)), (6, .int (nI start))]) C ((nI (w + 1))) dX2_place_117 rfl (inc1 _) rfl rfl ?_
          refine g_goto (tgt := 40) C dX2_place_120 rfl ?_
          refine g_lv [1, 2, 3, 4, 5, 6, 7, 0] rfl ?_
          exact ih (w + 1) F (by omega) (by omega) (by omega) hF1 hF2 (fun _ e => absurd e (by omega)) (PC.not hvn hinv (by first | exact Or.inl ((htk.2 w).mp (hbt c_2)) | exact Or.inr (fun q => absurd (hb.mpr q) (by rw [c_3]; decide))))
        · refine g_aldn C dX2_place_71 rfl ?_
          refine g_get C 17 q (by decide) (show q < 2 by omega) u2 rfl 0 rfl fX2_9 rfl rfl dX2_place_72 ?_
          refine g_ildn C dX2_place_75 rfl ?_
          refine g_ild C dX2_place_76 rfl ?_
          refine g_iast C 18 q (by decide) (show q < 2 by omega) (fun _ _ => rfl) v (show v < 9 by omega) rfl dX2_place_78 ?_
          refine g_I (I1 := sK I 18 (up2 F q v (nI w))) (by rw [sK_self, sK_sK]) ?_
          refine g_aldn C dX2_place_79 rfl ?_
          refine g_aldn C dX2_place_80 rfl ?_
          refine g_aldn C dX2_place_81 rfl ?_
          refine g_ildn C dX2_place_82 rfl ?_
          refine g_iconst C ((nI 1)) dX2_place_83 (by decide) ?_
          refine g_iadd (v := (nI (v + 1))) C dX2_place_84 (nI_add _ _) ?_
          refine g_ild C dX2_place_85 rfl ?_
          refine g_iconst C ((nI 1)) dX2_place_87 (by decide) ?_
          refine g_ild C dX2_place_88 rfl ?_
          refine g_ishl (v := (nI (2 ^ w))) C dX2_place_90 (shl1 w (by omega)) ?_
          refine g_ior (v := (nI (tk ||| 2 ^ w))) C dX2_place_91 (orI _ _) ?_
          refine g_ild C dX2_place_92 rfl ?_
          refine b_if_eq (tgt := 108) C dX2_place_94 rfl (fun c_4 => ?_) (fun c_4 => ?_)
          · refine g_iconst C ((nI 0)) dX2_place_108 (by decide) ?_
            refine g_top (y := bI (rs && decide (w = start))) (by first | (rw [c_4]; rfl) | (rw [c_4, decide_eq_true c_5]; rfl) | (rw [c_4, decide_eq_false c_5]; rfl)) ?_
            have hpp : plPre (sK I 18 (up2 F q v (nI w))) n T K L g h q (v + 1) (tk ||| 2 ^ w) (rs && decide (w = start)) (va_up f v w) := by
              refine ⟨hv.of (sK_ne (by decide)) (sK_ne (by decide)) (sK_ne (by decide)), hc.of (sK_ne (by decide)), by omega, htr.step (by omega) (fun j hj e => absurd ((htk.2 w).mpr ⟨j, hj, e⟩) (by rw [hbit]; decide)) (hb.mp c_3), htk.step (by omega), fun i hi => ?_, fun hrs => ?_⟩
              · rw [sK_self]
                by_cases e : i = v
                · subst e; rw [up2_self, va_up_self]
                · rw [up2_ne e, va_up_ne _ _ e]; exact hF2 i (by omega)
              · obtain ⟨r1, r2⟩ := Bool.and_eq_true_iff.mp hrs
                have ew : w = f v := (of_decide_eq_true r2).trans (hs r1).1
                refine ⟨by rw [ew, va_up_id]; exact (hs r1).2, fun i hi => ?_⟩
                rw [sK_self]
                by_cases e : i = v
                · subst e; rw [up2_self, va_up_self]
                · rw [up2_ne e, va_up_ne _ _ e]; exact hF3 r1 (of_decide_eq_true r2) i hi
            refine g_callV (As := [.ref (Z.2.2.1 2 g), .ref (Z.2.2.1 2 h), .int (nI (v + 1)), .int (nI (tk ||| 2 ^ w)), .int (bI (rs && decide (w = start)))]) (st := []) C (hrec d' hd' (sK I 18 (up2 F q v (nI w))) J (v + 1) (tk ||| 2 ^ w) (rs && decide (w = start)) (va_up f v w) (by omega) hpp) wX2_place iX2_place sX2_place mX2_15 17 q (by decide) (show q < 2 by omega) rfl rfl rfl rfl rfl rfl rfl (Bool.and_eq_true_iff.mpr ⟨Nat.ble_eq.mpr (by omega), Nat.ble_eq.mpr (by omega)⟩) dX2_place_109 ?_
            rintro v9 I9 J9 ⟨b2, F2, h91, h92, h93, k1, k2, k3, k4⟩
            rw [h91, h92, h93, sK_sK]
            clear h91 h92 h93 v9 I9 J9
            show G X _ Z _ (sK I 18 F2) J 112 [(0, .ref (Z.2.2.1 17 q)), (1, .ref (Z.2.2.1 2 g)), (2, .ref (Z.2.2.1 2 h)), (3, .int (nI v)), (4, .int (nI tk)), (5, .int (bI rs)), (6, .int (nI start)), (7, .int (nI w))] [.int (bI b2)]
            refine b_if_eq (tgt := 117) C dX2_place_112 rfl (fun c_6 => ?_) (fun c_6 => ?_)
            · refine g_iinc (lv' := [(7, .int (nI (w + 1))), (0, .ref (Z.2.2.1 17 q)), (1, .ref (Z.2.2.1 2 g)), (2, .ref (Z.2.2.1 2 h)), (3, .int (nI v)), (4, .int (nI tk)), (5, .int (bI rs)), (6, .int (nI start))]) C ((nI (w + 1))) dX2_place_117 rfl (inc1 _) rfl rfl ?_
              refine g_goto (tgt := 40) C dX2_place_120 rfl ?_
              refine g_lv [1, 2, 3, 4, 5, 6, 7, 0] rfl ?_
              exact ih (w + 1) F2 (by omega) (by omega) (by omega) (fun r hr => by rw [k1 r hr, sK_self, up2_row hr]; exact hF1 r hr) (fun i hi => by rw [k2 i (by omega), sK_self, up2_ne (by omega)]; exact hF2 i hi) (fun _ e => absurd e (by omega)) (PC.none (fun r => (hs r).1) hinv (k4 c_6))
            · refine g_iconst C ((nI 1)) dX2_place_115 (by decide) ?_
              exact g_zreturn C hr (by decide) dX2_place_116 ⟨true, F2, rfl, rfl, rfl, fun r hr => by rw [k1 r hr, sK_self, up2_row hr]; exact hF1 r hr, fun i hi => by rw [k2 i (by omega), sK_self, up2_ne (by omega), hF2 i hi, hrow i hi], fun _ => by obtain ⟨f1, m1, m2, m3⟩ := k3 c_6; have hu := PC.up hvn (fun r => (hs r).1) (fun _ => hsw) m2; exact ⟨f1, m1, hu.1, PC.le hvn (fun r => (hs r).1) hinv hu m3⟩, fun h => absurd h (by decide)⟩
          · refine g_ild C dX2_place_97 rfl ?_
            refine g_ild C dX2_place_99 rfl ?_
            refine n_icmp_ne (tgt := 108) C dX2_place_101 rfl (by omega) (by omega) (fun c_5 => ?_) (fun c_5 => ?_)
            · refine g_iconst C ((nI 0)) dX2_place_108 (by decide) ?_
              refine g_top (y := bI (rs && decide (w = start))) (by first | (rw [c_4]; rfl) | (rw [c_4, decide_eq_true c_5]; rfl) | (rw [c_4, decide_eq_false c_5]; rfl)) ?_
              have hpp : plPre (sK I 18 (up2 F q v (nI w))) n T K L g h q (v + 1) (tk ||| 2 ^ w) (rs && decide (w = start)) (va_up f v w) := by
                refine ⟨hv.of (sK_ne (by decide)) (sK_ne (by decide)) (sK_ne (by decide)), hc.of (sK_ne (by decide)), by omega, htr.step (by omega) (fun j hj e => absurd ((htk.2 w).mpr ⟨j, hj, e⟩) (by rw [hbit]; decide)) (hb.mp c_3), htk.step (by omega), fun i hi => ?_, fun hrs => ?_⟩
                · rw [sK_self]
                  by_cases e : i = v
                  · subst e; rw [up2_self, va_up_self]
                  · rw [up2_ne e, va_up_ne _ _ e]; exact hF2 i (by omega)
                · obtain ⟨r1, r2⟩ := Bool.and_eq_true_iff.mp hrs
                  have ew : w = f v := (of_decide_eq_true r2).trans (hs r1).1
                  refine ⟨by rw [ew, va_up_id]; exact (hs r1).2, fun i hi => ?_⟩
                  rw [sK_self]
                  by_cases e : i = v
                  · subst e; rw [up2_self, va_up_self]
                  · rw [up2_ne e, va_up_ne _ _ e]; exact hF3 r1 (of_decide_eq_true r2) i hi
              refine g_callV (As := [.ref (Z.2.2.1 2 g), .ref (Z.2.2.1 2 h), .int (nI (v + 1)), .int (nI (tk ||| 2 ^ w)), .int (bI (rs && decide (w = start)))]) (st := []) C (hrec d' hd' (sK I 18 (up2 F q v (nI w))) J (v + 1) (tk ||| 2 ^ w) (rs && decide (w = start)) (va_up f v w) (by omega) hpp) wX2_place iX2_place sX2_place mX2_15 17 q (by decide) (show q < 2 by omega) rfl rfl rfl rfl rfl rfl rfl (Bool.and_eq_true_iff.mpr ⟨Nat.ble_eq.mpr (by omega), Nat.ble_eq.mpr (by omega)⟩) dX2_place_109 ?_
              rintro v9 I9 J9 ⟨b2, F2, h91, h92, h93, k1, k2, k3, k4⟩
              rw [h91, h92, h93, sK_sK]
              clear h91 h92 h93 v9 I9 J9
              show G X _ Z _ (sK I 18 F2) J 112 [(0, .ref (Z.2.2.1 17 q)), (1, .ref (Z.2.2.1 2 g)), (2, .ref (Z.2.2.1 2 h)), (3, .int (nI v)), (4, .int (nI tk)), (5, .int (bI rs)), (6, .int (nI start)), (7, .int (nI w))] [.int (bI b2)]
              refine b_if_eq (tgt := 117) C dX2_place_112 rfl (fun c_6 => ?_) (fun c_6 => ?_)
              · refine g_iinc (lv' := [(7, .int (nI (w + 1))), (0, .ref (Z.2.2.1 17 q)), (1, .ref (Z.2.2.1 2 g)), (2, .ref (Z.2.2.1 2 h)), (3, .int (nI v)), (4, .int (nI tk)), (5, .int (bI rs)), (6, .int (nI start))]) C ((nI (w + 1))) dX2_place_117 rfl (inc1 _) rfl rfl ?_
                refine g_goto (tgt := 40) C dX2_place_120 rfl ?_
                refine g_lv [1, 2, 3, 4, 5, 6, 7, 0] rfl ?_
                exact ih (w + 1) F2 (by omega) (by omega) (by omega) (fun r hr => by rw [k1 r hr, sK_self, up2_row hr]; exact hF1 r hr) (fun i hi => by rw [k2 i (by omega), sK_self, up2_ne (by omega)]; exact hF2 i hi) (fun _ e => absurd e (by omega)) (PC.none (fun r => (hs r).1) hinv (k4 c_6))
              · refine g_iconst C ((nI 1)) dX2_place_115 (by decide) ?_
                exact g_zreturn C hr (by decide) dX2_place_116 ⟨true, F2, rfl, rfl, rfl, fun r hr => by rw [k1 r hr, sK_self, up2_row hr]; exact hF1 r hr, fun i hi => by rw [k2 i (by omega), sK_self, up2_ne (by omega), hF2 i hi, hrow i hi], fun _ => by obtain ⟨f1, m1, m2, m3⟩ := k3 c_6; have hu := PC.up hvn (fun r => (hs r).1) (fun _ => hsw) m2; exact ⟨f1, m1, hu.1, PC.le hvn (fun r => (hs r).1) hinv hu m3⟩, fun h => absurd h (by decide)⟩
            · refine g_iconst C ((nI 1)) dX2_place_104 (by decide) ?_
              refine g_goto (tgt := 109) C dX2_place_105 rfl ?_
              refine g_top (y := bI (rs && decide (w = start))) (by first | (rw [c_4]; rfl) | (rw [c_4, decide_eq_true c_5]; rfl) | (rw [c_4, decide_eq_false c_5]; rfl)) ?_
              have hpp : plPre (sK I 18 (up2 F q v (nI w))) n T K L g h q (v + 1) (tk ||| 2 ^ w) (rs && decide (w = start)) (va_up f v w) := by
                refine ⟨hv.of (sK_ne (by decide)) (sK_ne (by decide)) (sK_ne (by decide)), hc.of (sK_ne (by decide)), by omega, htr.step (by omega) (fun j hj e => absurd ((htk.2 w).mpr ⟨j, hj, e⟩) (by rw [hbit]; decide)) (hb.mp c_3), htk.step (by omega), fun i hi => ?_, fun hrs => ?_⟩
                · rw [sK_self]
                  by_cases e : i = v
                  · subst e; rw [up2_self, va_up_self]
                  · rw [up2_ne e, va_up_ne _ _ e]; exact hF2 i (by omega)
                · obtain ⟨r1, r2⟩ := Bool.and_eq_true_iff.mp hrs
                  have ew : w = f v := (of_decide_eq_true r2).trans (hs r1).1
                  refine ⟨by rw [ew, va_up_id]; exact (hs r1).2, fun i hi => ?_⟩
                  rw [sK_self]
                  by_cases e : i = v
                  · subst e; rw [up2_self, va_up_self]
                  · rw [up2_ne e, va_up_ne _ _ e]; exact hF3 r1 (of_decide_eq_true r2) i hi
              refine g_callV (As := [.ref (Z.2.2.1 2 g), .ref (Z.2.2.1 2 h), .int (nI (v + 1)), .int (nI (tk ||| 2 ^ w)), .int (bI (rs && decide (w = start)))]) (st := []) C (hrec d' hd' (sK I 18 (up2 F q v (nI w))) J (v + 1) (tk ||| 2 ^ w) (rs && decide (w = start)) (va_up f v w) (by omega) hpp) wX2_place iX2_place sX2_place mX2_15 17 q (by decide) (show q < 2 by omega) rfl rfl rfl rfl rfl rfl rfl (Bool.and_eq_true_iff.mpr ⟨Nat.ble_eq.mpr (by omega), Nat.ble_eq.mpr (by omega)⟩) dX2_place_109 ?_
              rintro v9 I9 J9 ⟨b2, F2, h91, h92, h93, k1, k2, k3, k4⟩
              rw [h91, h92, h93, sK_sK]
              clear h91 h92 h93 v9 I9 J9
              show G X _ Z _ (sK I 18 F2) J 112 [(0, .ref (Z.2.2.1 17 q)), (1, .ref (Z.2.2.1 2 g)), (2, .ref (Z.2.2.1 2 h)), (3, .int (nI v)), (4, .int (nI tk)), (5, .int (bI rs)), (6, .int (nI start)), (7, .int (nI w))] [.int (bI b2)]
              refine b_if_eq (tgt := 117) C dX2_place_112 rfl (fun c_6 => ?_) (fun c_6 => ?_)
              · refine g_iinc (lv' := [(7, .int (nI (w + 1))), (0, .ref (Z.2.2.1 17 q)), (1, .ref (Z.2.2.1 2 g)), (2, .ref (Z.2.2.1 2 h)), (3, .int (nI v)), (4, .int (nI tk)), (5, .int (bI rs)), (6, .int (nI start))]) C ((nI (w + 1))) dX2_place_117 rfl (inc1 _) rfl rfl ?_
                refine g_goto (tgt := 40) C dX2_place_120 rfl ?_
                refine g_lv [1, 2, 3, 4, 5, 6, 7, 0] rfl ?_
                exact ih (w + 1) F2 (by omega) (by omega) (by omega) (fun r hr => by rw [k1 r hr, sK_self, up2_row hr]; exact hF1 r hr) (fun i hi => by rw [k2 i (by omega), sK_self, up2_ne (by omega)]; exact hF2 i hi) (fun _ e => absurd e (by omega)) (PC.none (fun r => (hs r).1) hinv (k4 c_6))
              · refine g_iconst C ((nI 1)) dX2_place_115 (by decide) ?_
                exact g_zreturn C hr (by decide) dX2_place_116 ⟨true, F2, rfl, rfl, rfl, fun r hr => by rw [k1 r hr, sK_self, up2_row hr]; exact hF1 r hr, fun i hi => by rw [k2 i (by omega), sK_self, up2_ne (by omega), hF2 i hi, hrow i hi], fun _ => by obtain ⟨f1, m1, m2, m3⟩ := k3 c_6; have hu := PC.up hvn (fun r => (hs r).1) (fun _ => hsw) m2; exact ⟨f1, m1, hu.1, PC.le hvn (fun r => (hs r).1) hinv hu m3⟩, fun h => absurd h (by decide)⟩

set_option maxRecDepth 100000 in
set_option maxHeartbeats 4000000 in
/-- NamingSeeker.place, over itself one level deeper -/
theorem c_X2_place_s {l : Launch} {Y : Yk} (hA : AJ Y.2.2) {I : SI} {J : SJ} {d n : Nat} {T : Nat → Nat → Nat} {K : Nat → Nat → Nat} {L : Nat → Nat → Nat → Nat} {g h q : Nat} (hg : g < 2) (hh : h < 2) (hq : q < 2) (hrec : ∀ d', d = d' + 1 → ∀ (I : SI) (J : SJ) (v tk : Nat) (rs : Bool) (f : Nat → Nat), v + d' = n → plPre I n T K L g h q v tk rs f → MX l Y yX2_place cX2_place 8 (some .boolean) (d' + 1) (40 * (d' + 1)) [.ref (Y.2.2 17 q), .ref (Y.2.2 2 g), .ref (Y.2.2 2 h), .int (nI v), .int (nI tk), .int (bI rs)] I J (plPost n K L g h q v rs f I J)) {v tk : Nat} {rs : Bool} {f : Nat → Nat} (hd : v + d = n) (hpre : plPre I n T K L g h q v tk rs f) : MX l Y yX2_place cX2_place 8 (some .boolean) (d + 1) (40 * (d + 1)) [.ref (Y.2.2 17 q), .ref (Y.2.2 2 g), .ref (Y.2.2 2 h), .int (nI v), .int (nI tk), .int (bI rs)] I J (plPost n K L g h q v rs f I J) := by
  refine MX.of hA (by decide) (own := RX2) rfl rfl rfl ?_
  intro X Z hl hY1 hY2 hY3 C hr
  obtain ⟨D0, ca0, ad0⟩ := Y
  dsimp only at hA hY1 hY2 hY3
  subst hY1; subst hY2; subst hY3; subst hl
  show G X 8 Z (QG X Z _) I J 0 [(0, .ref (Z.2.2.1 17 q)), (1, .ref (Z.2.2.1 2 g)), (2, .ref (Z.2.2.1 2 h)), (3, .int (nI v)), (4, .int (nI tk)), (5, .int (bI rs))] []
  obtain ⟨hv, hc, hvn, htr, htk, hrow, hres⟩ := hpre
  obtain ⟨⟨hn1, hn9⟩, -⟩ := id hv
  refine g_ildn C dX2_place_0 rfl ?_
  refine g_aldn C dX2_place_1 rfl ?_
  refine g_get C 2 g (by decide) (show g < 2 by omega) u1 rfl 0 rfl fX2_23 rfl rfl dX2_place_2 ?_
  refine g_top (y := (nI n)) (hv.sz (show g < 2 by omega)) ?_
  refine n_icmp_lt (tgt := 19) C dX2_place_5 rfl (by omega) (by omega) (fun c5 => ?_) (fun c5 => ?_)
  · refine g_ild C dX2_place_19 rfl ?_
    refine b_if_eq (tgt := 33) C dX2_place_21 rfl (fun c21 => ?_) (fun c21 => ?_)
    · refine g_iconst C ((nI 0)) dX2_place_33 (by decide) ?_
      refine g_ist (lv' := [(6, .int (nI 0)), (0, .ref (Z.2.2.1 17 q)), (1, .ref (Z.2.2.1 2 g)), (2, .ref (Z.2.2.1 2 h)), (3, .int (nI v)), (4, .int (nI tk)), (5, .int (bI rs))]) C dX2_place_34 rfl rfl ?_
      refine g_ild C dX2_place_36 rfl ?_
      refine g_ist (lv' := [(7, .int (nI 0)), (6, .int (nI 0)), (0, .ref (Z.2.2.1 17 q)), (1, .ref (Z.2.2.1 2 g)), (2, .ref (Z.2.2.1 2 h)), (3, .int (nI v)), (4, .int (nI tk)), (5, .int (bI rs))]) C dX2_place_38 rfl rfl ?_
      refine g_lv [2, 3, 4, 5, 6, 7, 1, 0] rfl ?_
      refine g_I (I1 := sK I 18 (I 18)) (sK_id _ _).symm ?_
      exact l_X2_place_40 hA C hr hv hc hg hh hq (by omega) htr htk hrow (fun h => absurd h (by rw [c21]; decide)) hd hrec (n + 1) 0 (I 18) (by omega) (by omega) (by omega) (fun _ _ => rfl) hrow (fun h => absurd h (by rw [c21]; decide)) (fun _ _ => Nat.zero_le _)
    · refine g_aldn C dX2_place_24 rfl ?_
      refine g_get C 17 q (by decide) (show q < 2 by omega) u2 rfl 0 rfl fX2_9 rfl rfl dX2_place_25 ?_
      refine g_ildn C dX2_place_28 rfl ?_
      refine g_iald C 18 q (by decide) (show q < 2 by omega) (fun _ _ => rfl) v (show v < 9 by omega) rfl dX2_place_29 (v := (nI (f v))) ((hres c21).2 v (by omega)) ?_
      refine g_goto (tgt := 34) C dX2_place_30 rfl ?_
      refine g_ist (lv' := [(6, .int (nI (f v))), (0, .ref (Z.2.2.1 17 q)), (1, .ref (Z.2.2.1 2 g)), (2, .ref (Z.2.2.1 2 h)), (3, .int (nI v)), (4, .int (nI tk)), (5, .int (bI rs))]) C dX2_place_34 rfl rfl ?_
      refine g_ild C dX2_place_36 rfl ?_
      refine g_ist (lv' := [(7, .int (nI (f v))), (6, .int (nI (f v))), (0, .ref (Z.2.2.1 17 q)), (1, .ref (Z.2.2.1 2 g)), (2, .ref (Z.2.2.1 2 h)), (3, .int (nI v)), (4, .int (nI tk)), (5, .int (bI rs))]) C dX2_place_38 rfl rfl ?_
      refine g_lv [2, 3, 4, 5, 6, 7, 1, 0] rfl ?_
      refine g_I (I1 := sK I 18 (I 18)) (sK_id _ _).symm ?_
      exact l_X2_place_40 hA C hr hv hc hg hh hq (by omega) htr htk hrow (fun h => ⟨rfl, (hres h).1⟩) hd hrec (n + 1) (f v) (I 18) (by omega) (by have := ((hres c21).1 v (by omega)).1; omega) (by omega) (fun _ _ => rfl) hrow (fun h _ => (hres h).2) (fun f2 h2 => by rw [c21] at h2; exact h2.start)
  · refine g_ild C dX2_place_8 rfl ?_
    refine b_if_ne (tgt := 17) C dX2_place_10 rfl (fun c10 => ?_) (fun c10 => ?_)
    · refine g_iconst C ((nI 0)) dX2_place_17 (by decide) ?_
      exact g_zreturn C hr (by decide) dX2_place_18 ⟨false, I 18, rfl, (sK_id _ _).symm, rfl, fun _ _ => rfl, fun _ _ => rfl, fun h => absurd h (by decide), fun _ f2 h2 => by obtain ⟨k, k1, k2, k3⟩ := h2.2.2 c10; exact absurd (h2.2.1 k (by omega)) (by omega)⟩
    · refine g_iconst C ((nI 1)) dX2_place_13 (by decide) ?_
      refine g_goto (tgt := 18) C dX2_place_14 rfl ?_
      exact g_zreturn C hr (by decide) dX2_place_18 ⟨true, I 18, rfl, (sK_id _ _).symm, rfl, fun _ _ => rfl, fun _ _ => rfl, fun _ => ⟨f, fun i hi => hrow i (by omega), ⟨fun i hi => htr i (by omega), fun _ _ => rfl, fun h => absurd h (by rw [c10]; decide)⟩, fun f2 h2 => Or.inr (fun i hi => (h2.2.1 i (by omega)).symm)⟩, fun h => absurd h (by decide)⟩

theorem c_X2_place {l : Launch} {Y : Yk} (hA : AJ Y.2.2) {n : Nat} {T : Nat → Nat → Nat} {K : Nat → Nat → Nat} {L : Nat → Nat → Nat → Nat} {g h q : Nat} (hg : g < 2) (hh : h < 2) (hq : q < 2) : ∀ (d : Nat) (I : SI) (J : SJ) (v tk : Nat) (rs : Bool) (f : Nat → Nat), v + d = n → plPre I n T K L g h q v tk rs f → MX l Y yX2_place cX2_place 8 (some .boolean) (d + 1) (40 * (d + 1)) [.ref (Y.2.2 17 q), .ref (Y.2.2 2 g), .ref (Y.2.2 2 h), .int (nI v), .int (nI tk), .int (bI rs)] I J (plPost n K L g h q v rs f I J) := by
  intro d
  induction d with
  | zero => intro I J v tk rs f hd hp; exact c_X2_place_s hA hg hh hq (fun d' e => absurd e (by omega)) hd hp
  | succ d ih => intro I J v tk rs f hd hp; exact c_X2_place_s hA hg hh hq (fun d' e => (show d' = d by omega) ▸ ih) hd hp
