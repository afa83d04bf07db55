/-! ===== the constructors that make objects ===== -/
def BX4 (ca : Nat → ClassId) (h0 : Nat) (u : Nat × (Nat → Nat)) : va_W := (h0, .inr (4, [.ref u.1])) :: BX2 ca u.1 u.2
abbrev S5 : Type := (Nat → Nat) × (((Nat → Nat) × (Nat → Nat)) × (Nat → Nat) × (Nat × (Nat → Nat)) × ((Nat → Nat) × (Nat → Nat) × (Nat → Nat)) × ((Nat → Nat) × (Nat → Nat)) × ((Nat → Nat) × (Nat → Nat)))
def BX5 (ca : Nat → ClassId) (h0 : Nat) (u : S5) : va_W := (h0, .inr (5, [.ref (u.1 0), .ref (u.1 1), .ref (u.1 2), .ref (u.1 3), .ref (u.1 4), .int 0, .int 0])) :: (u.1 0, .inl (ca 2, 2, .inr (.inr (.inr (.inr (va_up (va_up (fun _ => none) 0 (some (u.1 5))) 1 (some (u.1 6)))))))) :: (((((BX3 ca (u.1 1) u.2.1 ++ BX2 ca (u.1 2) u.2.2.1) ++ BX4 ca (u.1 3) u.2.2.2.1) ++ BX0 ca (u.1 4) u.2.2.2.2.1) ++ BX1 ca (u.1 5) u.2.2.2.2.2.1) ++ BX1 ca (u.1 6) u.2.2.2.2.2.2)
set_option maxRecDepth 100000 in
set_option maxHeartbeats 4000000 in
theorem n_X4_init (l : Launch) (D : va_G) (ca : Nat → ClassId) : MK l D ca yX4_init cX4_init 2 2 10 40 (.inr (4, [.null])) (BX4 ca) := by
  refine MK.of (by decide) rfl (own := RX4) rfl ?_
  intro X h0 hl C hr hin
  subst hl
  refine k_aldn C dX4_init_0 rfl ?_
  refine k_obj C mX4_1 rfl dX4_init_1 ?_
  refine k_aldn C dX4_init_4 rfl ?_
  refine k_new (fs := [.null]) C u2 tyX2 tyX2_ok clX4_7 inX2 nRX2 (ci := 2) rfl (by decide) rfl dX4_init_5 (fun q1 => ?_)
  refine k_dup C dX4_init_8 rfl ?_
  refine k_callN C (n_X2_init _ _ _) C.2.2.2.2.2.1.2.2.1.2.2.2.2.2 wX2_init iX2_init rfl rfl rfl dX4_init_9 (fun u10 => ?_)
  show GK X 1 D _ _ 2 10 ((h0, .inr (4, [.null])) :: (BX2 ca q1 u10)) 12 [(0, .ref h0)] [.ref q1, .ref h0]
  refine k_putF (ty := .object "GraphTwins$NamingSeeker") C u4 tyX4 tyX4_ok nmX4 rfl 0 rfl fX4_10 rfl hin rfl (by decide +kernel) rfl rfl rfl dX4_init_12 ?_
  show GK X 1 D _ _ 2 10 ((h0, .inr (4, [.ref q1])) :: (BX2 ca q1 u10)) 15 [(0, .ref h0)] []
  exact k_ret C hr (q1, u10) rfl rfl rfl dX4_init_15
set_option maxRecDepth 100000 in
set_option maxHeartbeats 4000000 in
theorem n_X5_init (l : Launch) (D : va_G) (ca : Nat → ClassId) : MK l D ca yX5_init cX5_init 3 155 1600 60 (.inr (5, [.null, .null, .null, .null, .null, .int 0, .int 0])) (BX5 ca) := by
  refine MK.of (by decide) rfl (own := RX5) rfl ?_
  intro X h0 hl C hr hin
  subst hl
  refine k_aldn C dX5_init_0 rfl ?_
  refine k_obj C mX5_1 rfl dX5_init_1 ?_
  refine k_aldn C dX5_init_4 rfl ?_
  refine k_iconst C (nI 2) dX5_init_5 (by decide) ?_
  refine k_newq (N := 2) C clX5_7 (by decide) (by decide) (by decide) rfl dX5_init_6 (fun q1 => ?_)
  show GK X 1 D _ _ 1 2 ((h0, .inr (5, [.null, .null, .null, .null, .null, .int 0, .int 0])) :: (q1, .inl (ca 2, 2, .inr (.inr (.inr (.inr (fun _ => none)))))) :: ([])) 9 [(0, .ref h0)] [.ref q1, .ref h0]
  refine k_putF (ty := .array (.object "GraphTwins$Graph")) C u5 tyX5 tyX5_ok nmX5 rfl 0 rfl fX5_9 rfl hin rfl (by decide +kernel) rfl rfl rfl dX5_init_9 ?_
  show GK X 1 D _ _ 1 2 ((h0, .inr (5, [.ref q1, .null, .null, .null, .null, .int 0, .int 0])) :: (q1, .inl (ca 2, 2, .inr (.inr (.inr (.inr (fun _ => none)))))) :: ([])) 12 [(0, .ref h0)] []
  refine k_aldn C dX5_init_12 rfl ?_
  refine k_new (fs := [.int 0, .null, .null, .null, .null, .null]) C u3 tyX3 tyX3_ok clX5_15 inX3 nRX3 (ci := 3) rfl (by decide) rfl dX5_init_13 (fun q2 => ?_)
  refine k_dup C dX5_init_16 rfl ?_
  refine k_callN C (n_X3_init _ _ _) C.2.2.2.2.2.1.2.2.1.1 wX3_init iX3_init rfl rfl rfl dX5_init_17 (fun u10 => ?_)
  show GK X 1 D _ _ 25 260 ((h0, .inr (5, [.ref q1, .null, .null, .null, .null, .int 0, .int 0])) :: (q1, .inl (ca 2, 2, .inr (.inr (.inr (.inr (fun _ => none)))))) :: (BX3 ca q2 u10)) 20 [(0, .ref h0)] [.ref q2, .ref h0]
  refine k_putF (ty := .object "GraphTwins$Painter") C u5 tyX5 tyX5_ok nmX5 rfl 1 rfl fX5_18 rfl hin rfl (by decide +kernel) rfl rfl rfl dX5_init_20 ?_
  show GK X 1 D _ _ 25 260 ((h0, .inr (5, [.ref q1, .ref q2, .null, .null, .null, .int 0, .int 0])) :: (q1, .inl (ca 2, 2, .inr (.inr (.inr (.inr (fun _ => none)))))) :: (BX3 ca q2 u10)) 23 [(0, .ref h0)] []
  refine k_aldn C dX5_init_23 rfl ?_
  refine k_new (fs := [.null]) C u2 tyX2 tyX2_ok clX5_22 inX2 nRX2 (ci := 2) rfl (by decide) rfl dX5_init_24 (fun q3 => ?_)
  refine k_dup C dX5_init_27 rfl ?_
  refine k_callN C (n_X2_init _ _ _) C.2.2.2.2.2.1.2.2.1.2.1 wX2_init iX2_init rfl rfl rfl dX5_init_28 (fun u20 => ?_)
  show GK X 1 D _ _ 27 270 ((h0, .inr (5, [.ref q1, .ref q2, .null, .null, .null, .int 0, .int 0])) :: (q1, .inl (ca 2, 2, .inr (.inr (.inr (.inr (fun _ => none)))))) :: ((BX3 ca q2 u10 ++ BX2 ca q3 u20))) 31 [(0, .ref h0)] [.ref q3, .ref h0]
  refine k_putF (ty := .object "GraphTwins$NamingSeeker") C u5 tyX5 tyX5_ok nmX5 rfl 2 rfl fX5_25 rfl hin rfl (by decide +kernel) rfl rfl rfl dX5_init_31 ?_
  show GK X 1 D _ _ 27 270 ((h0, .inr (5, [.ref q1, .ref q2, .ref q3, .null, .null, .int 0, .int 0])) :: (q1, .inl (ca 2, 2, .inr (.inr (.inr (.inr (fun _ => none)))))) :: ((BX3 ca q2 u10 ++ BX2 ca q3 u20))) 34 [(0, .ref h0)] []
  refine k_aldn C dX5_init_34 rfl ?_
  refine k_new (fs := [.null]) C u4 tyX4 tyX4_ok clX5_29 inX4 nRX4 (ci := 4) rfl (by decide) rfl dX5_init_35 (fun q4 => ?_)
  refine k_dup C dX5_init_38 rfl ?_
  refine k_callN C (n_X4_init _ _ _) C.2.2.2.2.2.1.2.2.1.2.2.1 wX4_init iX4_init rfl rfl rfl dX5_init_39 (fun u30 => ?_)
  show GK X 1 D _ _ 30 281 ((h0, .inr (5, [.ref q1, .ref q2, .ref q3, .null, .null, .int 0, .int 0])) :: (q1, .inl (ca 2, 2, .inr (.inr (.inr (.inr (fun _ => none)))))) :: (((BX3 ca q2 u10 ++ BX2 ca q3 u20) ++ BX4 ca q4 u30))) 42 [(0, .ref h0)] [.ref q4, .ref h0]
  refine k_putF (ty := .object "GraphTwins$SymmetryFinder") C u5 tyX5 tyX5_ok nmX5 rfl 3 rfl fX5_32 rfl hin rfl (by decide +kernel) rfl rfl rfl dX5_init_42 ?_
  show GK X 1 D _ _ 30 281 ((h0, .inr (5, [.ref q1, .ref q2, .ref q3, .ref q4, .null, .int 0, .int 0])) :: (q1, .inl (ca 2, 2, .inr (.inr (.inr (.inr (fun _ => none)))))) :: (((BX3 ca q2 u10 ++ BX2 ca q3 u20) ++ BX4 ca q4 u30))) 45 [(0, .ref h0)] []
  refine k_aldn C dX5_init_45 rfl ?_
  refine k_new (fs := [.null, .null, .null, .null]) C u0 tyX0 tyX0_ok clX5_36 inX0 nRX0 (ci := 0) rfl (by decide) rfl dX5_init_46 (fun q5 => ?_)
  refine k_dup C dX5_init_49 rfl ?_
  refine k_callN C (n_X0_init _ _ _) C.2.2.2.2.2.1.2.2.1.2.2.2.1 wX0_init iX0_init rfl rfl rfl dX5_init_50 (fun u40 => ?_)
  show GK X 1 D _ _ 125 1285 ((h0, .inr (5, [.ref q1, .ref q2, .ref q3, .ref q4, .null, .int 0, .int 0])) :: (q1, .inl (ca 2, 2, .inr (.inr (.inr (.inr (fun _ => none)))))) :: ((((BX3 ca q2 u10 ++ BX2 ca q3 u20) ++ BX4 ca q4 u30) ++ BX0 ca q5 u40))) 53 [(0, .ref h0)] [.ref q5, .ref h0]
  refine k_putF (ty := .object "GraphTwins$FormFinder") C u5 tyX5 tyX5_ok nmX5 rfl 4 rfl fX5_39 rfl hin rfl (by decide +kernel) rfl rfl rfl dX5_init_53 ?_
  show GK X 1 D _ _ 125 1285 ((h0, .inr (5, [.ref q1, .ref q2, .ref q3, .ref q4, .ref q5, .int 0, .int 0])) :: (q1, .inl (ca 2, 2, .inr (.inr (.inr (.inr (fun _ => none)))))) :: ((((BX3 ca q2 u10 ++ BX2 ca q3 u20) ++ BX4 ca q4 u30) ++ BX0 ca q5 u40))) 56 [(0, .ref h0)] []
  refine k_aldn C dX5_init_56 rfl ?_
  refine k_get C u5 rfl 0 rfl fX5_9 rfl dX5_init_57 ?_
  refine k_iconst C (nI 0) dX5_init_60 (by decide) ?_
  refine k_new (fs := [.int 0, .null, .null, .null, .null, .int 0, .int 0, .null, .int 0]) C u1 tyX1 tyX1_ok clX5_7 inX1 nRX1 (ci := 1) rfl (by decide) rfl dX5_init_61 (fun q6 => ?_)
  refine k_dup C dX5_init_64 rfl ?_
  refine k_callN C (n_X1_init _ _ _) C.2.2.2.2.2.1.2.2.1.2.2.2.2.1 wX1_init iX1_init rfl rfl rfl dX5_init_65 (fun u50 => ?_)
  show GK X 1 D _ _ 140 1420 ((h0, .inr (5, [.ref q1, .ref q2, .ref q3, .ref q4, .ref q5, .int 0, .int 0])) :: (q1, .inl (ca 2, 2, .inr (.inr (.inr (.inr (fun _ => none)))))) :: (((((BX3 ca q2 u10 ++ BX2 ca q3 u20) ++ BX4 ca q4 u30) ++ BX0 ca q5 u40) ++ BX1 ca q6 u50))) 68 [(0, .ref h0)] [.ref q6, .int (nI 0), .ref q1]
  refine k_ast C 126 (v := q6) rfl (show ¬ _ by decide) dX5_init_68 ?_
  show GK X 1 D _ _ 140 1420 ((h0, .inr (5, [.ref q1, .ref q2, .ref q3, .ref q4, .ref q5, .int 0, .int 0])) :: (q1, .inl (ca 2, 2, .inr (.inr (.inr (.inr (va_up (fun _ => none) 0 (some q6))))))) :: (((((BX3 ca q2 u10 ++ BX2 ca q3 u20) ++ BX4 ca q4 u30) ++ BX0 ca q5 u40) ++ BX1 ca q6 u50))) 69 [(0, .ref h0)] []
  refine k_aldn C dX5_init_69 rfl ?_
  refine k_get C u5 rfl 0 rfl fX5_9 rfl dX5_init_70 ?_
  refine k_iconst C (nI 1) dX5_init_73 (by decide) ?_
  refine k_new (fs := [.int 0, .null, .null, .null, .null, .int 0, .int 0, .null, .int 0]) C u1 tyX1 tyX1_ok clX5_7 inX1 nRX1 (ci := 1) rfl (by decide) rfl dX5_init_74 (fun q7 => ?_)
  refine k_dup C dX5_init_77 rfl ?_
  refine k_callN C (n_X1_init _ _ _) C.2.2.2.2.2.1.2.2.1.2.2.2.2.1 wX1_init iX1_init rfl rfl rfl dX5_init_78 (fun u60 => ?_)
  show GK X 1 D _ _ 155 1555 ((h0, .inr (5, [.ref q1, .ref q2, .ref q3, .ref q4, .ref q5, .int 0, .int 0])) :: (q1, .inl (ca 2, 2, .inr (.inr (.inr (.inr (va_up (fun _ => none) 0 (some q6))))))) :: ((((((BX3 ca q2 u10 ++ BX2 ca q3 u20) ++ BX4 ca q4 u30) ++ BX0 ca q5 u40) ++ BX1 ca q6 u50) ++ BX1 ca q7 u60))) 81 [(0, .ref h0)] [.ref q7, .int (nI 1), .ref q1]
  refine k_ast C 141 (v := q7) rfl (show ¬ _ by decide) dX5_init_81 ?_
  show GK X 1 D _ _ 155 1555 ((h0, .inr (5, [.ref q1, .ref q2, .ref q3, .ref q4, .ref q5, .int 0, .int 0])) :: (q1, .inl (ca 2, 2, .inr (.inr (.inr (.inr (va_up (va_up (fun _ => none) 0 (some q6)) 1 (some q7))))))) :: ((((((BX3 ca q2 u10 ++ BX2 ca q3 u20) ++ BX4 ca q4 u30) ++ BX0 ca q5 u40) ++ BX1 ca q6 u50) ++ BX1 ca q7 u60))) 82 [(0, .ref h0)] []
  exact k_ret C hr (nX [q1, q2, q3, q4, q5, q6, q7], u10, u20, u30, u40, u50, u60) rfl rfl rfl dX5_init_82
