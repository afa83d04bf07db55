/-! ===== the constructors of arrays alone ===== -/
def BX2 (ca : Nat → ClassId) (h0 : Nat) (a : Nat → Nat) : va_W := (h0, .inr (2, [.ref (a 0)])) :: [(a 0, bI9 ca 9)]
set_option maxRecDepth 100000 in
set_option maxHeartbeats 4000000 in
theorem n_X2_init (l : Launch) (D : va_G) (ca : Nat → ClassId) : MK l D ca yX2_init cX2_init 1 1 9 20 (.inr (2, [.null])) (BX2 ca) := by
  refine MK.of (by decide) rfl (own := RX2) rfl ?_
  intro X h0 hl C hr hin
  refine k_aldn C dX2_init_0 rfl ?_
  refine k_obj C mX2_3 rfl dX2_init_1 ?_
  refine k_aldn C dX2_init_4 rfl ?_
  refine k_bipush C (nI 9) dX2_init_5 (by decide) ?_
  refine k_newa (atype := .int) (a0 := (9, .inl zI)) (N := 9) C 0 rfl acI rfl (fun _ => rfl) (by decide) (by decide) (by decide) rfl dX2_init_7 (fun q1 => ?_)
  show GK X 1 D _ _ 1 9 ((h0, .inr (2, [.null])) :: ([] ++ [(q1, bI9 ca 9)])) 9 [(0, .ref h0)] [.ref q1, .ref h0]
  refine k_putF (ty := .array .int) C u2 tyX2 tyX2_ok nmX2 rfl 0 rfl fX2_9 rfl hin rfl (by decide +kernel) rfl rfl rfl dX2_init_9 ?_
  show GK X 1 D _ _ 1 9 ((h0, .inr (2, [.ref q1])) :: ([] ++ [(q1, bI9 ca 9)])) 12 [(0, .ref h0)] []
  exact k_ret C hr (nX [q1]) rfl rfl rfl dX2_init_12
def BX3 (ca : Nat → ClassId) (h0 : Nat) (u : (Nat → Nat) × (Nat → Nat)) : va_W := (h0, .inr (3, [.int 0, .ref (u.1 0), .ref (u.1 1), .ref (u.1 2), .ref (u.1 3), .ref (u.1 4)])) :: ([(u.1 0, bI9 ca 18), (u.1 1, bI9 ca 18), (u.1 2, bI9 ca 18), (u.1 3, bI9 ca 18), (u.1 4, aR (ca 3) 18 u.2)] ++ (List.range 18).map (fun i => (u.2 i, bI9 ca 9)))
set_option maxRecDepth 100000 in
set_option maxHeartbeats 4000000 in
theorem n_X3_init (l : Launch) (D : va_G) (ca : Nat → ClassId) : MK l D ca yX3_init cX3_init 1 23 252 20 (.inr (3, [.int 0, .null, .null, .null, .null, .null])) (BX3 ca) := by
  refine MK.of (by decide) rfl (own := RX3) rfl ?_
  intro X h0 hl C hr hin
  refine k_aldn C dX3_init_0 rfl ?_
  refine k_obj C mX3_3 rfl dX3_init_1 ?_
  refine k_aldn C dX3_init_4 rfl ?_
  refine k_bipush C (nI 18) dX3_init_5 (by decide) ?_
  refine k_newa (atype := .int) (a0 := (18, .inl zI)) (N := 18) C 0 rfl acI rfl (fun _ => rfl) (by decide) (by decide) (by decide) rfl dX3_init_7 (fun q1 => ?_)
  show GK X 1 D _ _ 1 18 ((h0, .inr (3, [.int 0, .null, .null, .null, .null, .null])) :: ([] ++ [(q1, bI9 ca 18)])) 9 [(0, .ref h0)] [.ref q1, .ref h0]
  refine k_putF (ty := .array .int) C u3 tyX3 tyX3_ok nmX3 rfl 1 rfl fX3_11 rfl hin rfl (by decide +kernel) rfl rfl rfl dX3_init_9 ?_
  show GK X 1 D _ _ 1 18 ((h0, .inr (3, [.int 0, .ref q1, .null, .null, .null, .null])) :: ([] ++ [(q1, bI9 ca 18)])) 12 [(0, .ref h0)] []
  refine k_aldn C dX3_init_12 rfl ?_
  refine k_bipush C (nI 18) dX3_init_13 (by decide) ?_
  refine k_newa (atype := .int) (a0 := (18, .inl zI)) (N := 18) C 0 rfl acI rfl (fun _ => rfl) (by decide) (by decide) (by decide) rfl dX3_init_15 (fun q2 => ?_)
  show GK X 1 D _ _ 2 36 ((h0, .inr (3, [.int 0, .ref q1, .null, .null, .null, .null])) :: ([] ++ [(q1, bI9 ca 18)] ++ [(q2, bI9 ca 18)])) 17 [(0, .ref h0)] [.ref q2, .ref h0]
  refine k_putF (ty := .array .int) C u3 tyX3 tyX3_ok nmX3 rfl 2 rfl fX3_15 rfl hin rfl (by decide +kernel) rfl rfl rfl dX3_init_17 ?_
  show GK X 1 D _ _ 2 36 ((h0, .inr (3, [.int 0, .ref q1, .ref q2, .null, .null, .null])) :: ([] ++ [(q1, bI9 ca 18)] ++ [(q2, bI9 ca 18)])) 20 [(0, .ref h0)] []
  refine k_aldn C dX3_init_20 rfl ?_
  refine k_bipush C (nI 18) dX3_init_21 (by decide) ?_
  refine k_newa (atype := .int) (a0 := (18, .inl zI)) (N := 18) C 0 rfl acI rfl (fun _ => rfl) (by decide) (by decide) (by decide) rfl dX3_init_23 (fun q3 => ?_)
  show GK X 1 D _ _ 3 54 ((h0, .inr (3, [.int 0, .ref q1, .ref q2, .null, .null, .null])) :: ([] ++ [(q1, bI9 ca 18)] ++ [(q2, bI9 ca 18)] ++ [(q3, bI9 ca 18)])) 25 [(0, .ref h0)] [.ref q3, .ref h0]
  refine k_putF (ty := .array .int) C u3 tyX3 tyX3_ok nmX3 rfl 3 rfl fX3_18 rfl hin rfl (by decide +kernel) rfl rfl rfl dX3_init_25 ?_
  show GK X 1 D _ _ 3 54 ((h0, .inr (3, [.int 0, .ref q1, .ref q2, .ref q3, .null, .null])) :: ([] ++ [(q1, bI9 ca 18)] ++ [(q2, bI9 ca 18)] ++ [(q3, bI9 ca 18)])) 28 [(0, .ref h0)] []
  refine k_aldn C dX3_init_28 rfl ?_
  refine k_bipush C (nI 18) dX3_init_29 (by decide) ?_
  refine k_newa (atype := .int) (a0 := (18, .inl zI)) (N := 18) C 0 rfl acI rfl (fun _ => rfl) (by decide) (by decide) (by decide) rfl dX3_init_31 (fun q4 => ?_)
  show GK X 1 D _ _ 4 72 ((h0, .inr (3, [.int 0, .ref q1, .ref q2, .ref q3, .null, .null])) :: ([] ++ [(q1, bI9 ca 18)] ++ [(q2, bI9 ca 18)] ++ [(q3, bI9 ca 18)] ++ [(q4, bI9 ca 18)])) 33 [(0, .ref h0)] [.ref q4, .ref h0]
  refine k_putF (ty := .array .int) C u3 tyX3 tyX3_ok nmX3 rfl 4 rfl fX3_21 rfl hin rfl (by decide +kernel) rfl rfl rfl dX3_init_33 ?_
  show GK X 1 D _ _ 4 72 ((h0, .inr (3, [.int 0, .ref q1, .ref q2, .ref q3, .ref q4, .null])) :: ([] ++ [(q1, bI9 ca 18)] ++ [(q2, bI9 ca 18)] ++ [(q3, bI9 ca 18)] ++ [(q4, bI9 ca 18)])) 36 [(0, .ref h0)] []
  refine k_aldn C dX3_init_36 rfl ?_
  refine k_bipush C (nI 18) dX3_init_37 (by decide) ?_
  refine k_bipush C (nI 9) dX3_init_39 (by decide) ?_
  refine k_mna (z := (9, .inl zI)) (N := 18) (K := 9) (ty := .int) C 3 0 clX3_24 C.2.2.2.2.2.1.2.1.2.1 acI rfl rfl (fun h => h) (by decide) (by decide) (by decide) (by decide) (by decide) (by decide) (by decide) rfl rfl rfl (fun c => by show ({ cls := c, slots := Array.replicate 9 (.int 0), vm := .none } : Cell) = _; rw [arrV_new]; rfl) dX3_init_41 (fun q5 r1 => ?_)
  show GK X 1 D _ _ 23 252 ((h0, .inr (3, [.int 0, .ref q1, .ref q2, .ref q3, .ref q4, .null])) :: (([] ++ [(q1, bI9 ca 18)] ++ [(q2, bI9 ca 18)] ++ [(q3, bI9 ca 18)] ++ [(q4, bI9 ca 18)] ++ [(q5, aR (ca 3) 18 r1)]) ++ (List.range 18).map (fun i => (r1 i, bI9 ca 9)))) 45 [(0, .ref h0)] [.ref q5, .ref h0]
  refine k_putF (ty := .array (.array .int)) C u3 tyX3 tyX3_ok nmX3 rfl 5 rfl fX3_26 rfl hin rfl (by decide +kernel) rfl rfl rfl dX3_init_45 ?_
  show GK X 1 D _ _ 23 252 ((h0, .inr (3, [.int 0, .ref q1, .ref q2, .ref q3, .ref q4, .ref q5])) :: (([] ++ [(q1, bI9 ca 18)] ++ [(q2, bI9 ca 18)] ++ [(q3, bI9 ca 18)] ++ [(q4, bI9 ca 18)] ++ [(q5, aR (ca 3) 18 r1)]) ++ (List.range 18).map (fun i => (r1 i, bI9 ca 9)))) 48 [(0, .ref h0)] []
  exact k_ret C hr ((nX [q1, q2, q3, q4, q5], r1)) rfl rfl rfl dX3_init_48
def BX1 (ca : Nat → ClassId) (h0 : Nat) (u : (Nat → Nat) × (Nat → Nat)) : va_W := (h0, .inr (1, [.int (nI 1), .ref (u.1 0), .ref (u.1 1), .ref (u.1 2), .ref (u.1 3), .int 0, .int 0, .ref (u.1 4), .int 0])) :: (([(u.1 0, bI9 ca 9), (u.1 1, aR (ca 3) 9 u.2)] ++ (List.range 9).map (fun i => (u.2 i, bI9 ca 9))) ++ [(u.1 2, bI9 ca 9), (u.1 3, bI9 ca 9), (u.1 4, bJ9 ca 9)])
set_option maxRecDepth 100000 in
set_option maxHeartbeats 4000000 in
theorem n_X1_init (l : Launch) (D : va_G) (ca : Nat → ClassId) : MK l D ca yX1_init cX1_init 1 14 126 20 (.inr (1, [.int 0, .null, .null, .null, .null, .int 0, .int 0, .null, .int 0])) (BX1 ca) := by
  refine MK.of (by decide) rfl (own := RX1) rfl ?_
  intro X h0 hl C hr hin
  refine k_aldn C dX1_init_0 rfl ?_
  refine k_obj C mX1_3 rfl dX1_init_1 ?_
  refine k_aldn C dX1_init_4 rfl ?_
  refine k_iconst C (nI 1) dX1_init_5 (by decide) ?_
  refine k_put (ty := .int) C u1 tyX1 tyX1_ok nmX1 rfl 0 rfl fX1_9 rfl (by decide +kernel) rfl rfl rfl dX1_init_6 ?_
  show GK X 1 D _ _ 0 0 ((h0, .inr (1, [.int (nI 1), .null, .null, .null, .null, .int 0, .int 0, .null, .int 0])) :: ([])) 9 [(0, .ref h0)] []
  refine k_aldn C dX1_init_9 rfl ?_
  refine k_bipush C (nI 9) dX1_init_10 (by decide) ?_
  refine k_newa (atype := .int) (a0 := (9, .inl zI)) (N := 9) C 0 rfl acI rfl (fun _ => rfl) (by decide) (by decide) (by decide) rfl dX1_init_12 (fun q1 => ?_)
  show GK X 1 D _ _ 1 9 ((h0, .inr (1, [.int (nI 1), .null, .null, .null, .null, .int 0, .int 0, .null, .int 0])) :: ([] ++ [(q1, bI9 ca 9)])) 14 [(0, .ref h0)] [.ref q1, .ref h0]
  refine k_putF (ty := .array .int) C u1 tyX1 tyX1_ok nmX1 rfl 1 rfl fX1_15 rfl hin rfl (by decide +kernel) rfl rfl rfl dX1_init_14 ?_
  show GK X 1 D _ _ 1 9 ((h0, .inr (1, [.int (nI 1), .ref q1, .null, .null, .null, .int 0, .int 0, .null, .int 0])) :: ([] ++ [(q1, bI9 ca 9)])) 17 [(0, .ref h0)] []
  refine k_aldn C dX1_init_17 rfl ?_
  refine k_bipush C (nI 9) dX1_init_18 (by decide) ?_
  refine k_bipush C (nI 9) dX1_init_20 (by decide) ?_
  refine k_mna (z := (9, .inl zI)) (N := 9) (K := 9) (ty := .int) C 3 0 clX1_19 C.2.2.2.2.2.1.2.1.2.1 acI rfl rfl (fun h => h) (by decide) (by decide) (by decide) (by decide) (by decide) (by decide) (by decide) rfl rfl rfl (fun c => by show ({ cls := c, slots := Array.replicate 9 (.int 0), vm := .none } : Cell) = _; rw [arrV_new]; rfl) dX1_init_22 (fun q2 r1 => ?_)
  show GK X 1 D _ _ 11 99 ((h0, .inr (1, [.int (nI 1), .ref q1, .null, .null, .null, .int 0, .int 0, .null, .int 0])) :: (([] ++ [(q1, bI9 ca 9)] ++ [(q2, aR (ca 3) 9 r1)]) ++ (List.range 9).map (fun i => (r1 i, bI9 ca 9)))) 26 [(0, .ref h0)] [.ref q2, .ref h0]
  refine k_putF (ty := .array (.array .int)) C u1 tyX1 tyX1_ok nmX1 rfl 2 rfl fX1_21 rfl hin rfl (by decide +kernel) rfl rfl rfl dX1_init_26 ?_
  show GK X 1 D _ _ 11 99 ((h0, .inr (1, [.int (nI 1), .ref q1, .ref q2, .null, .null, .int 0, .int 0, .null, .int 0])) :: (([] ++ [(q1, bI9 ca 9)] ++ [(q2, aR (ca 3) 9 r1)]) ++ (List.range 9).map (fun i => (r1 i, bI9 ca 9)))) 29 [(0, .ref h0)] []
  refine k_aldn C dX1_init_29 rfl ?_
  refine k_bipush C (nI 9) dX1_init_30 (by decide) ?_
  refine k_newa (atype := .int) (a0 := (9, .inl zI)) (N := 9) C 0 rfl acI rfl (fun _ => rfl) (by decide) (by decide) (by decide) rfl dX1_init_32 (fun q3 => ?_)
  show GK X 1 D _ _ 12 108 ((h0, .inr (1, [.int (nI 1), .ref q1, .ref q2, .null, .null, .int 0, .int 0, .null, .int 0])) :: (([] ++ [(q1, bI9 ca 9)] ++ [(q2, aR (ca 3) 9 r1)]) ++ (List.range 9).map (fun i => (r1 i, bI9 ca 9)) ++ [(q3, bI9 ca 9)])) 34 [(0, .ref h0)] [.ref q3, .ref h0]
  refine k_putF (ty := .array .int) C u1 tyX1 tyX1_ok nmX1 rfl 3 rfl fX1_24 rfl hin rfl (by decide +kernel) rfl rfl rfl dX1_init_34 ?_
  show GK X 1 D _ _ 12 108 ((h0, .inr (1, [.int (nI 1), .ref q1, .ref q2, .ref q3, .null, .int 0, .int 0, .null, .int 0])) :: (([] ++ [(q1, bI9 ca 9)] ++ [(q2, aR (ca 3) 9 r1)]) ++ (List.range 9).map (fun i => (r1 i, bI9 ca 9)) ++ [(q3, bI9 ca 9)])) 37 [(0, .ref h0)] []
  refine k_aldn C dX1_init_37 rfl ?_
  refine k_bipush C (nI 9) dX1_init_38 (by decide) ?_
  refine k_newa (atype := .int) (a0 := (9, .inl zI)) (N := 9) C 0 rfl acI rfl (fun _ => rfl) (by decide) (by decide) (by decide) rfl dX1_init_40 (fun q4 => ?_)
  show GK X 1 D _ _ 13 117 ((h0, .inr (1, [.int (nI 1), .ref q1, .ref q2, .ref q3, .null, .int 0, .int 0, .null, .int 0])) :: (([] ++ [(q1, bI9 ca 9)] ++ [(q2, aR (ca 3) 9 r1)]) ++ (List.range 9).map (fun i => (r1 i, bI9 ca 9)) ++ [(q3, bI9 ca 9)] ++ [(q4, bI9 ca 9)])) 42 [(0, .ref h0)] [.ref q4, .ref h0]
  refine k_putF (ty := .array .int) C u1 tyX1 tyX1_ok nmX1 rfl 4 rfl fX1_27 rfl hin rfl (by decide +kernel) rfl rfl rfl dX1_init_42 ?_
  show GK X 1 D _ _ 13 117 ((h0, .inr (1, [.int (nI 1), .ref q1, .ref q2, .ref q3, .ref q4, .int 0, .int 0, .null, .int 0])) :: (([] ++ [(q1, bI9 ca 9)] ++ [(q2, aR (ca 3) 9 r1)]) ++ (List.range 9).map (fun i => (r1 i, bI9 ca 9)) ++ [(q3, bI9 ca 9)] ++ [(q4, bI9 ca 9)])) 45 [(0, .ref h0)] []
  refine k_aldn C dX1_init_45 rfl ?_
  refine k_bipush C (nI 9) dX1_init_46 (by decide) ?_
  refine k_newa (atype := .long) (a0 := (9, .inr (.inl zJ))) (N := 9) C 1 rfl acJ rfl (fun _ => rfl) (by decide) (by decide) (by decide) rfl dX1_init_48 (fun q5 => ?_)
  show GK X 1 D _ _ 14 126 ((h0, .inr (1, [.int (nI 1), .ref q1, .ref q2, .ref q3, .ref q4, .int 0, .int 0, .null, .int 0])) :: (([] ++ [(q1, bI9 ca 9)] ++ [(q2, aR (ca 3) 9 r1)]) ++ (List.range 9).map (fun i => (r1 i, bI9 ca 9)) ++ [(q3, bI9 ca 9)] ++ [(q4, bI9 ca 9)] ++ [(q5, bJ9 ca 9)])) 50 [(0, .ref h0)] [.ref q5, .ref h0]
  refine k_putF (ty := .array .long) C u1 tyX1 tyX1_ok nmX1 rfl 7 rfl fX1_30 rfl hin rfl (by decide +kernel) rfl rfl rfl dX1_init_50 ?_
  show GK X 1 D _ _ 14 126 ((h0, .inr (1, [.int (nI 1), .ref q1, .ref q2, .ref q3, .ref q4, .int 0, .int 0, .ref q5, .int 0])) :: (([] ++ [(q1, bI9 ca 9)] ++ [(q2, aR (ca 3) 9 r1)]) ++ (List.range 9).map (fun i => (r1 i, bI9 ca 9)) ++ [(q3, bI9 ca 9)] ++ [(q4, bI9 ca 9)] ++ [(q5, bJ9 ca 9)])) 53 [(0, .ref h0)] []
  exact k_ret C hr ((nX [q1, q2, q3, q4, q5], r1)) rfl rfl rfl dX1_init_53
def BX0 (ca : Nat → ClassId) (h0 : Nat) (u : (Nat → Nat) × (Nat → Nat) × (Nat → Nat)) : va_W := (h0, .inr (0, [.ref (u.1 0), .ref (u.1 1), .ref (u.1 2), .ref (u.1 3)])) :: (((([(u.1 0, aR (ca 4) 9 u.2.1)] ++ (List.range 9).map (fun i => (u.2.1 i, bJ9 ca 9))) ++ [(u.1 1, bJ9 ca 9), (u.1 2, aR (ca 4) 81 u.2.2)]) ++ (List.range 81).map (fun i => (u.2.2 i, bJ9 ca 9))) ++ [(u.1 3, bI9 ca 9)])
set_option maxRecDepth 100000 in
set_option maxHeartbeats 4000000 in
theorem n_X0_init (l : Launch) (D : va_G) (ca : Nat → ClassId) : MK l D ca yX0_init cX0_init 1 94 1000 20 (.inr (0, [.null, .null, .null, .null])) (BX0 ca) := by
  refine MK.of (by decide) rfl (own := RX0) rfl ?_
  intro X h0 hl C hr hin
  refine k_aldn C dX0_init_0 rfl ?_
  refine k_obj C mX0_3 rfl dX0_init_1 ?_
  refine k_aldn C dX0_init_4 rfl ?_
  refine k_bipush C (nI 9) dX0_init_5 (by decide) ?_
  refine k_bipush C (nI 9) dX0_init_7 (by decide) ?_
  refine k_mna (z := (9, .inr (.inl zJ))) (N := 9) (K := 9) (ty := .long) C 4 1 clX0_9 C.2.2.2.2.2.1.2.1.2.2 acJ rfl rfl (fun h => h) (by decide) (by decide) (by decide) (by decide) (by decide) (by decide) (by decide) rfl rfl rfl (fun c => by show ({ cls := c, slots := Array.replicate 9 (.long 0), vm := .none } : Cell) = _; rw [arrV_new]; rfl) dX0_init_9 (fun q1 r1 => ?_)
  show GK X 1 D _ _ 10 90 ((h0, .inr (0, [.null, .null, .null, .null])) :: (([] ++ [(q1, aR (ca 4) 9 r1)]) ++ (List.range 9).map (fun i => (r1 i, bJ9 ca 9)))) 13 [(0, .ref h0)] [.ref q1, .ref h0]
  refine k_putF (ty := .array (.array .long)) C u0 tyX0 tyX0_ok nmX0 rfl 0 rfl fX0_11 rfl hin rfl (by decide +kernel) rfl rfl rfl dX0_init_13 ?_
  show GK X 1 D _ _ 10 90 ((h0, .inr (0, [.ref q1, .null, .null, .null])) :: (([] ++ [(q1, aR (ca 4) 9 r1)]) ++ (List.range 9).map (fun i => (r1 i, bJ9 ca 9)))) 16 [(0, .ref h0)] []
  refine k_aldn C dX0_init_16 rfl ?_
  refine k_bipush C (nI 9) dX0_init_17 (by decide) ?_
  refine k_newa (atype := .long) (a0 := (9, .inr (.inl zJ))) (N := 9) C 1 rfl acJ rfl (fun _ => rfl) (by decide) (by decide) (by decide) rfl dX0_init_19 (fun q2 => ?_)
  show GK X 1 D _ _ 11 99 ((h0, .inr (0, [.ref q1, .null, .null, .null])) :: (([] ++ [(q1, aR (ca 4) 9 r1)]) ++ (List.range 9).map (fun i => (r1 i, bJ9 ca 9)) ++ [(q2, bJ9 ca 9)])) 21 [(0, .ref h0)] [.ref q2, .ref h0]
  refine k_putF (ty := .array .long) C u0 tyX0 tyX0_ok nmX0 rfl 1 rfl fX0_16 rfl hin rfl (by decide +kernel) rfl rfl rfl dX0_init_21 ?_
  show GK X 1 D _ _ 11 99 ((h0, .inr (0, [.ref q1, .ref q2, .null, .null])) :: (([] ++ [(q1, aR (ca 4) 9 r1)]) ++ (List.range 9).map (fun i => (r1 i, bJ9 ca 9)) ++ [(q2, bJ9 ca 9)])) 24 [(0, .ref h0)] []
  refine k_aldn C dX0_init_24 rfl ?_
  refine k_bipush C (nI 81) dX0_init_25 (by decide) ?_
  refine k_bipush C (nI 9) dX0_init_27 (by decide) ?_
  refine k_mna (z := (9, .inr (.inl zJ))) (N := 81) (K := 9) (ty := .long) C 4 1 clX0_9 C.2.2.2.2.2.1.2.1.2.2 acJ rfl rfl (fun h => h) (by decide) (by decide) (by decide) (by decide) (by decide) (by decide) (by decide) rfl rfl rfl (fun c => by show ({ cls := c, slots := Array.replicate 9 (.long 0), vm := .none } : Cell) = _; rw [arrV_new]; rfl) dX0_init_29 (fun q3 r2 => ?_)
  show GK X 1 D _ _ 93 909 ((h0, .inr (0, [.ref q1, .ref q2, .null, .null])) :: ((([] ++ [(q1, aR (ca 4) 9 r1)]) ++ (List.range 9).map (fun i => (r1 i, bJ9 ca 9)) ++ [(q2, bJ9 ca 9)] ++ [(q3, aR (ca 4) 81 r2)]) ++ (List.range 81).map (fun i => (r2 i, bJ9 ca 9)))) 33 [(0, .ref h0)] [.ref q3, .ref h0]
  refine k_putF (ty := .array (.array .long)) C u0 tyX0 tyX0_ok nmX0 rfl 2 rfl fX0_20 rfl hin rfl (by decide +kernel) rfl rfl rfl dX0_init_33 ?_
  show GK X 1 D _ _ 93 909 ((h0, .inr (0, [.ref q1, .ref q2, .ref q3, .null])) :: ((([] ++ [(q1, aR (ca 4) 9 r1)]) ++ (List.range 9).map (fun i => (r1 i, bJ9 ca 9)) ++ [(q2, bJ9 ca 9)] ++ [(q3, aR (ca 4) 81 r2)]) ++ (List.range 81).map (fun i => (r2 i, bJ9 ca 9)))) 36 [(0, .ref h0)] []
  refine k_aldn C dX0_init_36 rfl ?_
  refine k_bipush C (nI 9) dX0_init_37 (by decide) ?_
  refine k_newa (atype := .int) (a0 := (9, .inl zI)) (N := 9) C 0 rfl acI rfl (fun _ => rfl) (by decide) (by decide) (by decide) rfl dX0_init_39 (fun q4 => ?_)
  show GK X 1 D _ _ 94 918 ((h0, .inr (0, [.ref q1, .ref q2, .ref q3, .null])) :: ((([] ++ [(q1, aR (ca 4) 9 r1)]) ++ (List.range 9).map (fun i => (r1 i, bJ9 ca 9)) ++ [(q2, bJ9 ca 9)] ++ [(q3, aR (ca 4) 81 r2)]) ++ (List.range 81).map (fun i => (r2 i, bJ9 ca 9)) ++ [(q4, bI9 ca 9)])) 41 [(0, .ref h0)] [.ref q4, .ref h0]
  refine k_putF (ty := .array .int) C u0 tyX0 tyX0_ok nmX0 rfl 3 rfl fX0_23 rfl hin rfl (by decide +kernel) rfl rfl rfl dX0_init_41 ?_
  show GK X 1 D _ _ 94 918 ((h0, .inr (0, [.ref q1, .ref q2, .ref q3, .ref q4])) :: ((([] ++ [(q1, aR (ca 4) 9 r1)]) ++ (List.range 9).map (fun i => (r1 i, bJ9 ca 9)) ++ [(q2, bJ9 ca 9)] ++ [(q3, aR (ca 4) 81 r2)]) ++ (List.range 81).map (fun i => (r2 i, bJ9 ca 9)) ++ [(q4, bI9 ca 9)])) 44 [(0, .ref h0)] []
  exact k_ret C hr ((nX [q1, q2, q3, q4], r1, r2)) rfl rfl rfl dX0_init_44
def BX6 (ca : Nat → ClassId) (h0 : Nat) (a : Nat → Nat) : va_W := (h0, .inr (6, [.int (nI 1), .ref (a 0), .ref (a 1), .int 0, .ref (a 2), .ref (a 3), .ref (a 4), .ref (a 5), .ref (a 6), .ref (a 7), .int 0, .ref (a 8), .ref (a 9), .int 0])) :: [(a 0, bI9 ca 162), (a 1, bI9 ca 18), (a 2, bI9 ca 9), (a 3, bI9 ca 9), (a 4, bI9 ca 9), (a 5, bZ9 ca 2), (a 6, bI9 ca 162), (a 7, bI9 ca 81), (a 8, bI9 ca 18), (a 9, bI9 ca 18)]
set_option maxRecDepth 100000 in
set_option maxHeartbeats 4000000 in
theorem n_X6_init (l : Launch) (D : va_G) (ca : Nat → ClassId) : MK l D ca yX6_init cX6_init 1 10 600 20 (.inr (6, [.int 0, .null, .null, .int 0, .null, .null, .null, .null, .null, .null, .int 0, .null, .null, .int 0])) (BX6 ca) := by
  refine MK.of (by decide) rfl (own := RX6) rfl ?_
  intro X h0 hl C hr hin
  refine k_aldn C dX6_init_0 rfl ?_
  refine k_obj C mX6_1 rfl dX6_init_1 ?_
  refine k_aldn C dX6_init_4 rfl ?_
  refine k_iconst C (nI 1) dX6_init_5 (by decide) ?_
  refine k_put (ty := .int) C u6 tyX6 tyX6_ok nmX6 rfl 0 rfl fX6_7 rfl (by decide +kernel) rfl rfl rfl dX6_init_6 ?_
  show GK X 1 D _ _ 0 0 ((h0, .inr (6, [.int (nI 1), .null, .null, .int 0, .null, .null, .null, .null, .null, .null, .int 0, .null, .null, .int 0])) :: ([])) 9 [(0, .ref h0)] []
  refine k_aldn C dX6_init_9 rfl ?_
  refine k_sipush C (nI 162) dX6_init_10 (by decide) ?_
  refine k_newa (atype := .int) (a0 := (162, .inl zI)) (N := 162) C 0 rfl acI rfl (fun _ => rfl) (by decide) (by decide) (by decide) rfl dX6_init_13 (fun q1 => ?_)
  show GK X 1 D _ _ 1 162 ((h0, .inr (6, [.int (nI 1), .null, .null, .int 0, .null, .null, .null, .null, .null, .null, .int 0, .null, .null, .int 0])) :: ([] ++ [(q1, bI9 ca 162)])) 15 [(0, .ref h0)] [.ref q1, .ref h0]
  refine k_putF (ty := .array .int) C u6 tyX6 tyX6_ok nmX6 rfl 1 rfl fX6_13 rfl hin rfl (by decide +kernel) rfl rfl rfl dX6_init_15 ?_
  show GK X 1 D _ _ 1 162 ((h0, .inr (6, [.int (nI 1), .ref q1, .null, .int 0, .null, .null, .null, .null, .null, .null, .int 0, .null, .null, .int 0])) :: ([] ++ [(q1, bI9 ca 162)])) 18 [(0, .ref h0)] []
  refine k_aldn C dX6_init_18 rfl ?_
  refine k_bipush C (nI 18) dX6_init_19 (by decide) ?_
  refine k_newa (atype := .int) (a0 := (18, .inl zI)) (N := 18) C 0 rfl acI rfl (fun _ => rfl) (by decide) (by decide) (by decide) rfl dX6_init_21 (fun q2 => ?_)
  show GK X 1 D _ _ 2 180 ((h0, .inr (6, [.int (nI 1), .ref q1, .null, .int 0, .null, .null, .null, .null, .null, .null, .int 0, .null, .null, .int 0])) :: ([] ++ [(q1, bI9 ca 162)] ++ [(q2, bI9 ca 18)])) 23 [(0, .ref h0)] [.ref q2, .ref h0]
  refine k_putF (ty := .array .int) C u6 tyX6 tyX6_ok nmX6 rfl 2 rfl fX6_17 rfl hin rfl (by decide +kernel) rfl rfl rfl dX6_init_23 ?_
  show GK X 1 D _ _ 2 180 ((h0, .inr (6, [.int (nI 1), .ref q1, .ref q2, .int 0, .null, .null, .null, .null, .null, .null, .int 0, .null, .null, .int 0])) :: ([] ++ [(q1, bI9 ca 162)] ++ [(q2, bI9 ca 18)])) 26 [(0, .ref h0)] []
  refine k_aldn C dX6_init_26 rfl ?_
  refine k_bipush C (nI 9) dX6_init_27 (by decide) ?_
  refine k_newa (atype := .int) (a0 := (9, .inl zI)) (N := 9) C 0 rfl acI rfl (fun _ => rfl) (by decide) (by decide) (by decide) rfl dX6_init_29 (fun q3 => ?_)
  show GK X 1 D _ _ 3 189 ((h0, .inr (6, [.int (nI 1), .ref q1, .ref q2, .int 0, .null, .null, .null, .null, .null, .null, .int 0, .null, .null, .int 0])) :: ([] ++ [(q1, bI9 ca 162)] ++ [(q2, bI9 ca 18)] ++ [(q3, bI9 ca 9)])) 31 [(0, .ref h0)] [.ref q3, .ref h0]
  refine k_putF (ty := .array .int) C u6 tyX6 tyX6_ok nmX6 rfl 4 rfl fX6_20 rfl hin rfl (by decide +kernel) rfl rfl rfl dX6_init_31 ?_
  show GK X 1 D _ _ 3 189 ((h0, .inr (6, [.int (nI 1), .ref q1, .ref q2, .int 0, .ref q3, .null, .null, .null, .null, .null, .int 0, .null, .null, .int 0])) :: ([] ++ [(q1, bI9 ca 162)] ++ [(q2, bI9 ca 18)] ++ [(q3, bI9 ca 9)])) 34 [(0, .ref h0)] []
  refine k_aldn C dX6_init_34 rfl ?_
  refine k_bipush C (nI 9) dX6_init_35 (by decide) ?_
  refine k_newa (atype := .int) (a0 := (9, .inl zI)) (N := 9) C 0 rfl acI rfl (fun _ => rfl) (by decide) (by decide) (by decide) rfl dX6_init_37 (fun q4 => ?_)
  show GK X 1 D _ _ 4 198 ((h0, .inr (6, [.int (nI 1), .ref q1, .ref q2, .int 0, .ref q3, .null, .null, .null, .null, .null, .int 0, .null, .null, .int 0])) :: ([] ++ [(q1, bI9 ca 162)] ++ [(q2, bI9 ca 18)] ++ [(q3, bI9 ca 9)] ++ [(q4, bI9 ca 9)])) 39 [(0, .ref h0)] [.ref q4, .ref h0]
  refine k_putF (ty := .array .int) C u6 tyX6 tyX6_ok nmX6 rfl 5 rfl fX6_23 rfl hin rfl (by decide +kernel) rfl rfl rfl dX6_init_39 ?_
  show GK X 1 D _ _ 4 198 ((h0, .inr (6, [.int (nI 1), .ref q1, .ref q2, .int 0, .ref q3, .ref q4, .null, .null, .null, .null, .int 0, .null, .null, .int 0])) :: ([] ++ [(q1, bI9 ca 162)] ++ [(q2, bI9 ca 18)] ++ [(q3, bI9 ca 9)] ++ [(q4, bI9 ca 9)])) 42 [(0, .ref h0)] []
  refine k_aldn C dX6_init_42 rfl ?_
  refine k_bipush C (nI 9) dX6_init_43 (by decide) ?_
  refine k_newa (atype := .int) (a0 := (9, .inl zI)) (N := 9) C 0 rfl acI rfl (fun _ => rfl) (by decide) (by decide) (by decide) rfl dX6_init_45 (fun q5 => ?_)
  show GK X 1 D _ _ 5 207 ((h0, .inr (6, [.int (nI 1), .ref q1, .ref q2, .int 0, .ref q3, .ref q4, .null, .null, .null, .null, .int 0, .null, .null, .int 0])) :: ([] ++ [(q1, bI9 ca 162)] ++ [(q2, bI9 ca 18)] ++ [(q3, bI9 ca 9)] ++ [(q4, bI9 ca 9)] ++ [(q5, bI9 ca 9)])) 47 [(0, .ref h0)] [.ref q5, .ref h0]
  refine k_putF (ty := .array .int) C u6 tyX6 tyX6_ok nmX6 rfl 6 rfl fX6_26 rfl hin rfl (by decide +kernel) rfl rfl rfl dX6_init_47 ?_
  show GK X 1 D _ _ 5 207 ((h0, .inr (6, [.int (nI 1), .ref q1, .ref q2, .int 0, .ref q3, .ref q4, .ref q5, .null, .null, .null, .int 0, .null, .null, .int 0])) :: ([] ++ [(q1, bI9 ca 162)] ++ [(q2, bI9 ca 18)] ++ [(q3, bI9 ca 9)] ++ [(q4, bI9 ca 9)] ++ [(q5, bI9 ca 9)])) 50 [(0, .ref h0)] []
  refine k_aldn C dX6_init_50 rfl ?_
  refine k_iconst C (nI 2) dX6_init_51 (by decide) ?_
  refine k_newa (atype := .boolean) (a0 := (2, .inl zI)) (N := 2) C 5 rfl acZ rfl (fun _ => rfl) (by decide) (by decide) (by decide) rfl dX6_init_52 (fun q6 => ?_)
  show GK X 1 D _ _ 6 209 ((h0, .inr (6, [.int (nI 1), .ref q1, .ref q2, .int 0, .ref q3, .ref q4, .ref q5, .null, .null, .null, .int 0, .null, .null, .int 0])) :: ([] ++ [(q1, bI9 ca 162)] ++ [(q2, bI9 ca 18)] ++ [(q3, bI9 ca 9)] ++ [(q4, bI9 ca 9)] ++ [(q5, bI9 ca 9)] ++ [(q6, bZ9 ca 2)])) 54 [(0, .ref h0)] [.ref q6, .ref h0]
  refine k_putF (ty := .array .boolean) C u6 tyX6 tyX6_ok nmX6 rfl 7 rfl fX6_29 rfl hin rfl (by decide +kernel) rfl rfl rfl dX6_init_54 ?_
  show GK X 1 D _ _ 6 209 ((h0, .inr (6, [.int (nI 1), .ref q1, .ref q2, .int 0, .ref q3, .ref q4, .ref q5, .ref q6, .null, .null, .int 0, .null, .null, .int 0])) :: ([] ++ [(q1, bI9 ca 162)] ++ [(q2, bI9 ca 18)] ++ [(q3, bI9 ca 9)] ++ [(q4, bI9 ca 9)] ++ [(q5, bI9 ca 9)] ++ [(q6, bZ9 ca 2)])) 57 [(0, .ref h0)] []
  refine k_aldn C dX6_init_57 rfl ?_
  refine k_sipush C (nI 162) dX6_init_58 (by decide) ?_
  refine k_newa (atype := .int) (a0 := (162, .inl zI)) (N := 162) C 0 rfl acI rfl (fun _ => rfl) (by decide) (by decide) (by decide) rfl dX6_init_61 (fun q7 => ?_)
  show GK X 1 D _ _ 7 371 ((h0, .inr (6, [.int (nI 1), .ref q1, .ref q2, .int 0, .ref q3, .ref q4, .ref q5, .ref q6, .null, .null, .int 0, .null, .null, .int 0])) :: ([] ++ [(q1, bI9 ca 162)] ++ [(q2, bI9 ca 18)] ++ [(q3, bI9 ca 9)] ++ [(q4, bI9 ca 9)] ++ [(q5, bI9 ca 9)] ++ [(q6, bZ9 ca 2)] ++ [(q7, bI9 ca 162)])) 63 [(0, .ref h0)] [.ref q7, .ref h0]
  refine k_putF (ty := .array .int) C u6 tyX6 tyX6_ok nmX6 rfl 8 rfl fX6_33 rfl hin rfl (by decide +kernel) rfl rfl rfl dX6_init_63 ?_
  show GK X 1 D _ _ 7 371 ((h0, .inr (6, [.int (nI 1), .ref q1, .ref q2, .int 0, .ref q3, .ref q4, .ref q5, .ref q6, .ref q7, .null, .int 0, .null, .null, .int 0])) :: ([] ++ [(q1, bI9 ca 162)] ++ [(q2, bI9 ca 18)] ++ [(q3, bI9 ca 9)] ++ [(q4, bI9 ca 9)] ++ [(q5, bI9 ca 9)] ++ [(q6, bZ9 ca 2)] ++ [(q7, bI9 ca 162)])) 66 [(0, .ref h0)] []
  refine k_aldn C dX6_init_66 rfl ?_
  refine k_bipush C (nI 81) dX6_init_67 (by decide) ?_
  refine k_newa (atype := .int) (a0 := (81, .inl zI)) (N := 81) C 0 rfl acI rfl (fun _ => rfl) (by decide) (by decide) (by decide) rfl dX6_init_69 (fun q8 => ?_)
  show GK X 1 D _ _ 8 452 ((h0, .inr (6, [.int (nI 1), .ref q1, .ref q2, .int 0, .ref q3, .ref q4, .ref q5, .ref q6, .ref q7, .null, .int 0, .null, .null, .int 0])) :: ([] ++ [(q1, bI9 ca 162)] ++ [(q2, bI9 ca 18)] ++ [(q3, bI9 ca 9)] ++ [(q4, bI9 ca 9)] ++ [(q5, bI9 ca 9)] ++ [(q6, bZ9 ca 2)] ++ [(q7, bI9 ca 162)] ++ [(q8, bI9 ca 81)])) 71 [(0, .ref h0)] [.ref q8, .ref h0]
  refine k_putF (ty := .array .int) C u6 tyX6 tyX6_ok nmX6 rfl 9 rfl fX6_36 rfl hin rfl (by decide +kernel) rfl rfl rfl dX6_init_71 ?_
  show GK X 1 D _ _ 8 452 ((h0, .inr (6, [.int (nI 1), .ref q1, .ref q2, .int 0, .ref q3, .ref q4, .ref q5, .ref q6, .ref q7, .ref q8, .int 0, .null, .null, .int 0])) :: ([] ++ [(q1, bI9 ca 162)] ++ [(q2, bI9 ca 18)] ++ [(q3, bI9 ca 9)] ++ [(q4, bI9 ca 9)] ++ [(q5, bI9 ca 9)] ++ [(q6, bZ9 ca 2)] ++ [(q7, bI9 ca 162)] ++ [(q8, bI9 ca 81)])) 74 [(0, .ref h0)] []
  refine k_aldn C dX6_init_74 rfl ?_
  refine k_bipush C (nI 18) dX6_init_75 (by decide) ?_
  refine k_newa (atype := .int) (a0 := (18, .inl zI)) (N := 18) C 0 rfl acI rfl (fun _ => rfl) (by decide) (by decide) (by decide) rfl dX6_init_77 (fun q9 => ?_)
  show GK X 1 D _ _ 9 470 ((h0, .inr (6, [.int (nI 1), .ref q1, .ref q2, .int 0, .ref q3, .ref q4, .ref q5, .ref q6, .ref q7, .ref q8, .int 0, .null, .null, .int 0])) :: ([] ++ [(q1, bI9 ca 162)] ++ [(q2, bI9 ca 18)] ++ [(q3, bI9 ca 9)] ++ [(q4, bI9 ca 9)] ++ [(q5, bI9 ca 9)] ++ [(q6, bZ9 ca 2)] ++ [(q7, bI9 ca 162)] ++ [(q8, bI9 ca 81)] ++ [(q9, bI9 ca 18)])) 79 [(0, .ref h0)] [.ref q9, .ref h0]
  refine k_putF (ty := .array .int) C u6 tyX6 tyX6_ok nmX6 rfl 11 rfl fX6_39 rfl hin rfl (by decide +kernel) rfl rfl rfl dX6_init_79 ?_
  show GK X 1 D _ _ 9 470 ((h0, .inr (6, [.int (nI 1), .ref q1, .ref q2, .int 0, .ref q3, .ref q4, .ref q5, .ref q6, .ref q7, .ref q8, .int 0, .ref q9, .null, .int 0])) :: ([] ++ [(q1, bI9 ca 162)] ++ [(q2, bI9 ca 18)] ++ [(q3, bI9 ca 9)] ++ [(q4, bI9 ca 9)] ++ [(q5, bI9 ca 9)] ++ [(q6, bZ9 ca 2)] ++ [(q7, bI9 ca 162)] ++ [(q8, bI9 ca 81)] ++ [(q9, bI9 ca 18)])) 82 [(0, .ref h0)] []
  refine k_aldn C dX6_init_82 rfl ?_
  refine k_bipush C (nI 18) dX6_init_83 (by decide) ?_
  refine k_newa (atype := .int) (a0 := (18, .inl zI)) (N := 18) C 0 rfl acI rfl (fun _ => rfl) (by decide) (by decide) (by decide) rfl dX6_init_85 (fun q10 => ?_)
  show GK X 1 D _ _ 10 488 ((h0, .inr (6, [.int (nI 1), .ref q1, .ref q2, .int 0, .ref q3, .ref q4, .ref q5, .ref q6, .ref q7, .ref q8, .int 0, .ref q9, .null, .int 0])) :: ([] ++ [(q1, bI9 ca 162)] ++ [(q2, bI9 ca 18)] ++ [(q3, bI9 ca 9)] ++ [(q4, bI9 ca 9)] ++ [(q5, bI9 ca 9)] ++ [(q6, bZ9 ca 2)] ++ [(q7, bI9 ca 162)] ++ [(q8, bI9 ca 81)] ++ [(q9, bI9 ca 18)] ++ [(q10, bI9 ca 18)])) 87 [(0, .ref h0)] [.ref q10, .ref h0]
  refine k_putF (ty := .array .int) C u6 tyX6 tyX6_ok nmX6 rfl 12 rfl fX6_42 rfl hin rfl (by decide +kernel) rfl rfl rfl dX6_init_87 ?_
  show GK X 1 D _ _ 10 488 ((h0, .inr (6, [.int (nI 1), .ref q1, .ref q2, .int 0, .ref q3, .ref q4, .ref q5, .ref q6, .ref q7, .ref q8, .int 0, .ref q9, .ref q10, .int 0])) :: ([] ++ [(q1, bI9 ca 162)] ++ [(q2, bI9 ca 18)] ++ [(q3, bI9 ca 9)] ++ [(q4, bI9 ca 9)] ++ [(q5, bI9 ca 9)] ++ [(q6, bZ9 ca 2)] ++ [(q7, bI9 ca 162)] ++ [(q8, bI9 ca 81)] ++ [(q9, bI9 ca 18)] ++ [(q10, bI9 ca 18)])) 90 [(0, .ref h0)] []
  exact k_ret C hr (nX [q1, q2, q3, q4, q5, q6, q7, q8, q9, q10]) rfl rfl rfl dX6_init_90
