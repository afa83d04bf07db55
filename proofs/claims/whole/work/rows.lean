section
-- ===== PART A: goes FIRST, ahead of the names: the tables' words, and 'selects' of the private methods out of them =====
/-- a private method of a class that the tables say can be made, by its rows of tables_1 -/
def lw_okq (q : MethodName × Nat) : Prop := (q.1.cls ≠ "java/lang/invoke/MethodHandle" ∧ q.1.cls ≠ "java/lang/invoke/VarHandle") ∧ Cond.instantiable q.1.cls q.2 ∈ tables_1 ∧ Cond.privateMethod q.1 ∈ tables_1 ∧ Cond.instanceMethod q.1 ∈ tables_1
theorem lw_p0 : lw_okq (⟨"GraphTwins", "noteChange", "(LGraphTwins$Graph;)V"⟩, 7) := ⟨⟨by decide +kernel, by decide +kernel⟩, List.mem_of_getElem? (i := 12) (by decide +kernel), List.mem_of_getElem? (i := 182) (by decide +kernel), List.mem_of_getElem? (i := 183) (by decide +kernel)⟩
theorem lw_p1 : lw_okq (⟨"GraphTwins", "isVertex", "(II)Z"⟩, 7) := ⟨⟨by decide +kernel, by decide +kernel⟩, List.mem_of_getElem? (i := 12) (by decide +kernel), List.mem_of_getElem? (i := 190) (by decide +kernel), List.mem_of_getElem? (i := 191) (by decide +kernel)⟩
theorem lw_p2 : lw_okq (⟨"GraphTwins", "paintGraphs", "()V"⟩, 7) := ⟨⟨by decide +kernel, by decide +kernel⟩, List.mem_of_getElem? (i := 12) (by decide +kernel), List.mem_of_getElem? (i := 227) (by decide +kernel), List.mem_of_getElem? (i := 228) (by decide +kernel)⟩
theorem lw_p3 : lw_okq (⟨"GraphTwins$Painter", "paintTints", "([LGraphTwins$Graph;I)V"⟩, 6) := ⟨⟨by decide +kernel, by decide +kernel⟩, List.mem_of_getElem? (i := 22) (by decide +kernel), List.mem_of_getElem? (i := 235) (by decide +kernel), List.mem_of_getElem? (i := 236) (by decide +kernel)⟩
theorem lw_p4 : lw_okq (⟨"GraphTwins$Painter", "renumber", "(II)V"⟩, 6) := ⟨⟨by decide +kernel, by decide +kernel⟩, List.mem_of_getElem? (i := 22) (by decide +kernel), List.mem_of_getElem? (i := 239) (by decide +kernel), List.mem_of_getElem? (i := 240) (by decide +kernel)⟩
theorem lw_p5 : lw_okq (⟨"GraphTwins$Painter", "sortSpots", "(II)V"⟩, 6) := ⟨⟨by decide +kernel, by decide +kernel⟩, List.mem_of_getElem? (i := 22) (by decide +kernel), List.mem_of_getElem? (i := 243) (by decide +kernel), List.mem_of_getElem? (i := 244) (by decide +kernel)⟩
theorem lw_p6 : lw_okq (⟨"GraphTwins$Painter", "difference", "(III)I"⟩, 6) := ⟨⟨by decide +kernel, by decide +kernel⟩, List.mem_of_getElem? (i := 22) (by decide +kernel), List.mem_of_getElem? (i := 247) (by decide +kernel), List.mem_of_getElem? (i := 248) (by decide +kernel)⟩
theorem lw_p7 : lw_okq (⟨"GraphTwins$Painter", "gatherKeys", "([LGraphTwins$Graph;I)V"⟩, 6) := ⟨⟨by decide +kernel, by decide +kernel⟩, List.mem_of_getElem? (i := 22) (by decide +kernel), List.mem_of_getElem? (i := 252) (by decide +kernel), List.mem_of_getElem? (i := 253) (by decide +kernel)⟩
theorem lw_p8 : lw_okq (⟨"GraphTwins$Painter", "gatherKeysOf", "(LGraphTwins$Graph;II)V"⟩, 6) := ⟨⟨by decide +kernel, by decide +kernel⟩, List.mem_of_getElem? (i := 22) (by decide +kernel), List.mem_of_getElem? (i := 256) (by decide +kernel), List.mem_of_getElem? (i := 257) (by decide +kernel)⟩
theorem lw_p9 : lw_okq (⟨"GraphTwins$NamingSeeker", "place", "(LGraphTwins$Graph;LGraphTwins$Graph;IIZ)Z"⟩, 1) := ⟨⟨by decide +kernel, by decide +kernel⟩, List.mem_of_getElem? (i := 51) (by decide +kernel), List.mem_of_getElem? (i := 281) (by decide +kernel), List.mem_of_getElem? (i := 282) (by decide +kernel)⟩
theorem lw_p10 : lw_okq (⟨"GraphTwins$NamingSeeker", "fits", "(LGraphTwins$Graph;LGraphTwins$Graph;II)Z"⟩, 1) := ⟨⟨by decide +kernel, by decide +kernel⟩, List.mem_of_getElem? (i := 51) (by decide +kernel), List.mem_of_getElem? (i := 285) (by decide +kernel), List.mem_of_getElem? (i := 286) (by decide +kernel)⟩
theorem lw_p11 : lw_okq (⟨"GraphTwins", "withSymmetries", "(I)LGraphTwins$Graph;"⟩, 7) := ⟨⟨by decide +kernel, by decide +kernel⟩, List.mem_of_getElem? (i := 12) (by decide +kernel), List.mem_of_getElem? (i := 305) (by decide +kernel), List.mem_of_getElem? (i := 306) (by decide +kernel)⟩
theorem lw_p12 : lw_okq (⟨"GraphTwins$SymmetryFinder", "joinOrbits", "(LGraphTwins$Graph;)V"⟩, 1) := ⟨⟨by decide +kernel, by decide +kernel⟩, List.mem_of_getElem? (i := 63) (by decide +kernel), List.mem_of_getElem? (i := 317) (by decide +kernel), List.mem_of_getElem? (i := 318) (by decide +kernel)⟩
theorem lw_p13 : lw_okq (⟨"GraphTwins", "formLength", "()I"⟩, 7) := ⟨⟨by decide +kernel, by decide +kernel⟩, List.mem_of_getElem? (i := 12) (by decide +kernel), List.mem_of_getElem? (i := 338) (by decide +kernel), List.mem_of_getElem? (i := 339) (by decide +kernel)⟩
theorem lw_p14 : lw_okq (⟨"GraphTwins", "withForm", "(I)LGraphTwins$Graph;"⟩, 7) := ⟨⟨by decide +kernel, by decide +kernel⟩, List.mem_of_getElem? (i := 12) (by decide +kernel), List.mem_of_getElem? (i := 342) (by decide +kernel), List.mem_of_getElem? (i := 343) (by decide +kernel)⟩
theorem lw_p15 : lw_okq (⟨"GraphTwins$FormFinder", "write", "(LGraphTwins$Graph;II)V"⟩, 4) := ⟨⟨by decide +kernel, by decide +kernel⟩, List.mem_of_getElem? (i := 75) (by decide +kernel), List.mem_of_getElem? (i := 362) (by decide +kernel), List.mem_of_getElem? (i := 363) (by decide +kernel)⟩
def lw_privs_1 : List (MethodName × Nat) := [(⟨"GraphTwins", "noteChange", "(LGraphTwins$Graph;)V"⟩, 7), (⟨"GraphTwins", "isVertex", "(II)Z"⟩, 7), (⟨"GraphTwins", "paintGraphs", "()V"⟩, 7), (⟨"GraphTwins$Painter", "paintTints", "([LGraphTwins$Graph;I)V"⟩, 6), (⟨"GraphTwins$Painter", "renumber", "(II)V"⟩, 6), (⟨"GraphTwins$Painter", "sortSpots", "(II)V"⟩, 6), (⟨"GraphTwins$Painter", "difference", "(III)I"⟩, 6), (⟨"GraphTwins$Painter", "gatherKeys", "([LGraphTwins$Graph;I)V"⟩, 6), (⟨"GraphTwins$Painter", "gatherKeysOf", "(LGraphTwins$Graph;II)V"⟩, 6), (⟨"GraphTwins$NamingSeeker", "place", "(LGraphTwins$Graph;LGraphTwins$Graph;IIZ)Z"⟩, 1), (⟨"GraphTwins$NamingSeeker", "fits", "(LGraphTwins$Graph;LGraphTwins$Graph;II)Z"⟩, 1), (⟨"GraphTwins", "withSymmetries", "(I)LGraphTwins$Graph;"⟩, 7), (⟨"GraphTwins$SymmetryFinder", "joinOrbits", "(LGraphTwins$Graph;)V"⟩, 1), (⟨"GraphTwins", "formLength", "()I"⟩, 7), (⟨"GraphTwins", "withForm", "(I)LGraphTwins$Graph;"⟩, 7), (⟨"GraphTwins$FormFinder", "write", "(LGraphTwins$Graph;II)V"⟩, 4)]
theorem lw_r1 : ∀ q ∈ lw_privs_1, lw_okq q := List.forall_mem_cons.mpr ⟨lw_p0, List.forall_mem_cons.mpr ⟨lw_p1, List.forall_mem_cons.mpr ⟨lw_p2, List.forall_mem_cons.mpr ⟨lw_p3, List.forall_mem_cons.mpr ⟨lw_p4, List.forall_mem_cons.mpr ⟨lw_p5, List.forall_mem_cons.mpr ⟨lw_p6, List.forall_mem_cons.mpr ⟨lw_p7, List.forall_mem_cons.mpr ⟨lw_p8, List.forall_mem_cons.mpr ⟨lw_p9, List.forall_mem_cons.mpr ⟨lw_p10, List.forall_mem_cons.mpr ⟨lw_p11, List.forall_mem_cons.mpr ⟨lw_p12, List.forall_mem_cons.mpr ⟨lw_p13, List.forall_mem_cons.mpr ⟨lw_p14, List.forall_mem_cons.mpr ⟨lw_p15, fun _ h => absurd h List.not_mem_nil⟩⟩⟩⟩⟩⟩⟩⟩⟩⟩⟩⟩⟩⟩⟩⟩
theorem lw_p16 : lw_okq (⟨"GraphTwins$FormFinder", "candidates", "(LGraphTwins$Graph;II)I"⟩, 4) := ⟨⟨by decide +kernel, by decide +kernel⟩, List.mem_of_getElem? (i := 75) (by decide +kernel), List.mem_of_getElem? (i := 366) (by decide +kernel), List.mem_of_getElem? (i := 367) (by decide +kernel)⟩
theorem lw_p17 : lw_okq (⟨"GraphTwins$FormFinder", "bound", "(LGraphTwins$Graph;III)V"⟩, 4) := ⟨⟨by decide +kernel, by decide +kernel⟩, List.mem_of_getElem? (i := 75) (by decide +kernel), List.mem_of_getElem? (i := 370) (by decide +kernel), List.mem_of_getElem? (i := 371) (by decide +kernel)⟩
theorem lw_p18 : lw_okq (⟨"GraphTwins$FormFinder", "longerRow", "(LGraphTwins$Graph;III)J"⟩, 4) := ⟨⟨by decide +kernel, by decide +kernel⟩, List.mem_of_getElem? (i := 75) (by decide +kernel), List.mem_of_getElem? (i := 375) (by decide +kernel), List.mem_of_getElem? (i := 376) (by decide +kernel)⟩
theorem lw_p19 : lw_okq (⟨"GraphTwins$FormFinder", "leastBounded", "(III)I"⟩, 4) := ⟨⟨by decide +kernel, by decide +kernel⟩, List.mem_of_getElem? (i := 75) (by decide +kernel), List.mem_of_getElem? (i := 380) (by decide +kernel), List.mem_of_getElem? (i := 381) (by decide +kernel)⟩
theorem lw_p20 : lw_okq (⟨"GraphTwins$FormFinder", "isBoundLess", "(IIII)Z"⟩, 4) := ⟨⟨by decide +kernel, by decide +kernel⟩, List.mem_of_getElem? (i := 75) (by decide +kernel), List.mem_of_getElem? (i := 384) (by decide +kernel), List.mem_of_getElem? (i := 385) (by decide +kernel)⟩
theorem lw_p21 : lw_okq (⟨"GraphTwins$FormFinder", "promisesLess", "(LGraphTwins$Graph;II)Z"⟩, 4) := ⟨⟨by decide +kernel, by decide +kernel⟩, List.mem_of_getElem? (i := 75) (by decide +kernel), List.mem_of_getElem? (i := 391) (by decide +kernel), List.mem_of_getElem? (i := 392) (by decide +kernel)⟩
theorem lw_p22 : lw_okq (⟨"GraphTwins$FormFinder", "writeVertex", "(LGraphTwins$Graph;III)V"⟩, 4) := ⟨⟨by decide +kernel, by decide +kernel⟩, List.mem_of_getElem? (i := 75) (by decide +kernel), List.mem_of_getElem? (i := 395) (by decide +kernel), List.mem_of_getElem? (i := 396) (by decide +kernel)⟩
theorem lw_p23 : lw_okq (⟨"GraphTwinsModel", "changed", "()V"⟩, 14) := ⟨⟨by decide +kernel, by decide +kernel⟩, List.mem_of_getElem? (i := 416) (by decide +kernel), List.mem_of_getElem? (i := 470) (by decide +kernel), List.mem_of_getElem? (i := 471) (by decide +kernel)⟩
theorem lw_p24 : lw_okq (⟨"GraphTwinsModel", "isVertex", "(I)Z"⟩, 14) := ⟨⟨by decide +kernel, by decide +kernel⟩, List.mem_of_getElem? (i := 416) (by decide +kernel), List.mem_of_getElem? (i := 481) (by decide +kernel), List.mem_of_getElem? (i := 482) (by decide +kernel)⟩
theorem lw_p25 : lw_okq (⟨"GraphTwinsModel", "labelOf", "(III)I"⟩, 14) := ⟨⟨by decide +kernel, by decide +kernel⟩, List.mem_of_getElem? (i := 416) (by decide +kernel), List.mem_of_getElem? (i := 485) (by decide +kernel), List.mem_of_getElem? (i := 486) (by decide +kernel)⟩
theorem lw_p26 : lw_okq (⟨"GraphTwinsModel", "paint", "()V"⟩, 14) := ⟨⟨by decide +kernel, by decide +kernel⟩, List.mem_of_getElem? (i := 416) (by decide +kernel), List.mem_of_getElem? (i := 508) (by decide +kernel), List.mem_of_getElem? (i := 509) (by decide +kernel)⟩
theorem lw_p27 : lw_okq (⟨"GraphTwinsModel", "isThere", "(I)Z"⟩, 14) := ⟨⟨by decide +kernel, by decide +kernel⟩, List.mem_of_getElem? (i := 416) (by decide +kernel), List.mem_of_getElem? (i := 512) (by decide +kernel), List.mem_of_getElem? (i := 513) (by decide +kernel)⟩
theorem lw_p28 : lw_okq (⟨"GraphTwinsModel", "order", "(II)I"⟩, 14) := ⟨⟨by decide +kernel, by decide +kernel⟩, List.mem_of_getElem? (i := 416) (by decide +kernel), List.mem_of_getElem? (i := 516) (by decide +kernel), List.mem_of_getElem? (i := 517) (by decide +kernel)⟩
theorem lw_p29 : lw_okq (⟨"GraphTwinsModel", "many", "(IIII)I"⟩, 14) := ⟨⟨by decide +kernel, by decide +kernel⟩, List.mem_of_getElem? (i := 416) (by decide +kernel), List.mem_of_getElem? (i := 520) (by decide +kernel), List.mem_of_getElem? (i := 521) (by decide +kernel)⟩
theorem lw_p30 : lw_okq (⟨"GraphTwinsModel", "free", "()V"⟩, 14) := ⟨⟨by decide +kernel, by decide +kernel⟩, List.mem_of_getElem? (i := 416) (by decide +kernel), List.mem_of_getElem? (i := 532) (by decide +kernel), List.mem_of_getElem? (i := 533) (by decide +kernel)⟩
theorem lw_p31 : lw_okq (⟨"GraphTwinsModel", "search", "(III)Z"⟩, 14) := ⟨⟨by decide +kernel, by decide +kernel⟩, List.mem_of_getElem? (i := 416) (by decide +kernel), List.mem_of_getElem? (i := 536) (by decide +kernel), List.mem_of_getElem? (i := 537) (by decide +kernel)⟩
def lw_privs_2 : List (MethodName × Nat) := [(⟨"GraphTwins$FormFinder", "candidates", "(LGraphTwins$Graph;II)I"⟩, 4), (⟨"GraphTwins$FormFinder", "bound", "(LGraphTwins$Graph;III)V"⟩, 4), (⟨"GraphTwins$FormFinder", "longerRow", "(LGraphTwins$Graph;III)J"⟩, 4), (⟨"GraphTwins$FormFinder", "leastBounded", "(III)I"⟩, 4), (⟨"GraphTwins$FormFinder", "isBoundLess", "(IIII)Z"⟩, 4), (⟨"GraphTwins$FormFinder", "promisesLess", "(LGraphTwins$Graph;II)Z"⟩, 4), (⟨"GraphTwins$FormFinder", "writeVertex", "(LGraphTwins$Graph;III)V"⟩, 4), (⟨"GraphTwinsModel", "changed", "()V"⟩, 14), (⟨"GraphTwinsModel", "isVertex", "(I)Z"⟩, 14), (⟨"GraphTwinsModel", "labelOf", "(III)I"⟩, 14), (⟨"GraphTwinsModel", "paint", "()V"⟩, 14), (⟨"GraphTwinsModel", "isThere", "(I)Z"⟩, 14), (⟨"GraphTwinsModel", "order", "(II)I"⟩, 14), (⟨"GraphTwinsModel", "many", "(IIII)I"⟩, 14), (⟨"GraphTwinsModel", "free", "()V"⟩, 14), (⟨"GraphTwinsModel", "search", "(III)Z"⟩, 14)]
theorem lw_r2 : ∀ q ∈ lw_privs_2, lw_okq q := List.forall_mem_cons.mpr ⟨lw_p16, List.forall_mem_cons.mpr ⟨lw_p17, List.forall_mem_cons.mpr ⟨lw_p18, List.forall_mem_cons.mpr ⟨lw_p19, List.forall_mem_cons.mpr ⟨lw_p20, List.forall_mem_cons.mpr ⟨lw_p21, List.forall_mem_cons.mpr ⟨lw_p22, List.forall_mem_cons.mpr ⟨lw_p23, List.forall_mem_cons.mpr ⟨lw_p24, List.forall_mem_cons.mpr ⟨lw_p25, List.forall_mem_cons.mpr ⟨lw_p26, List.forall_mem_cons.mpr ⟨lw_p27, List.forall_mem_cons.mpr ⟨lw_p28, List.forall_mem_cons.mpr ⟨lw_p29, List.forall_mem_cons.mpr ⟨lw_p30, List.forall_mem_cons.mpr ⟨lw_p31, fun _ h => absurd h List.not_mem_nil⟩⟩⟩⟩⟩⟩⟩⟩⟩⟩⟩⟩⟩⟩⟩⟩
theorem lw_p32 : lw_okq (⟨"GraphTwinsModel", "fits", "(IIII)Z"⟩, 14) := ⟨⟨by decide +kernel, by decide +kernel⟩, List.mem_of_getElem? (i := 416) (by decide +kernel), List.mem_of_getElem? (i := 540) (by decide +kernel), List.mem_of_getElem? (i := 541) (by decide +kernel)⟩
theorem lw_p33 : lw_okq (⟨"GraphTwinsModel", "keep", "()V"⟩, 14) := ⟨⟨by decide +kernel, by decide +kernel⟩, List.mem_of_getElem? (i := 416) (by decide +kernel), List.mem_of_getElem? (i := 544) (by decide +kernel), List.mem_of_getElem? (i := 545) (by decide +kernel)⟩
theorem lw_p34 : lw_okq (⟨"GraphTwinsModel", "write", "(I)V"⟩, 14) := ⟨⟨by decide +kernel, by decide +kernel⟩, List.mem_of_getElem? (i := 416) (by decide +kernel), List.mem_of_getElem? (i := 568) (by decide +kernel), List.mem_of_getElem? (i := 569) (by decide +kernel)⟩
theorem lw_p35 : lw_okq (⟨"GraphTwinsModel", "isUnused", "(I)Z"⟩, 14) := ⟨⟨by decide +kernel, by decide +kernel⟩, List.mem_of_getElem? (i := 416) (by decide +kernel), List.mem_of_getElem? (i := 572) (by decide +kernel), List.mem_of_getElem? (i := 573) (by decide +kernel)⟩
theorem lw_p36 : lw_okq (⟨"GraphTwinsModel", "part", "(II)V"⟩, 14) := ⟨⟨by decide +kernel, by decide +kernel⟩, List.mem_of_getElem? (i := 416) (by decide +kernel), List.mem_of_getElem? (i := 576) (by decide +kernel), List.mem_of_getElem? (i := 577) (by decide +kernel)⟩
theorem lw_p37 : lw_okq (⟨"GraphTwinsModel", "compareRows", "(II)I"⟩, 14) := ⟨⟨by decide +kernel, by decide +kernel⟩, List.mem_of_getElem? (i := 416) (by decide +kernel), List.mem_of_getElem? (i := 583) (by decide +kernel), List.mem_of_getElem? (i := 584) (by decide +kernel)⟩
theorem lw_p38 : lw_okq (⟨"GraphTwinsModel", "edges", "(I)I"⟩, 14) := ⟨⟨by decide +kernel, by decide +kernel⟩, List.mem_of_getElem? (i := 416) (by decide +kernel), List.mem_of_getElem? (i := 595) (by decide +kernel), List.mem_of_getElem? (i := 596) (by decide +kernel)⟩
def lw_privs_3 : List (MethodName × Nat) := [(⟨"GraphTwinsModel", "fits", "(IIII)Z"⟩, 14), (⟨"GraphTwinsModel", "keep", "()V"⟩, 14), (⟨"GraphTwinsModel", "write", "(I)V"⟩, 14), (⟨"GraphTwinsModel", "isUnused", "(I)Z"⟩, 14), (⟨"GraphTwinsModel", "part", "(II)V"⟩, 14), (⟨"GraphTwinsModel", "compareRows", "(II)I"⟩, 14), (⟨"GraphTwinsModel", "edges", "(I)I"⟩, 14)]
theorem lw_r3 : ∀ q ∈ lw_privs_3, lw_okq q := List.forall_mem_cons.mpr ⟨lw_p32, List.forall_mem_cons.mpr ⟨lw_p33, List.forall_mem_cons.mpr ⟨lw_p34, List.forall_mem_cons.mpr ⟨lw_p35, List.forall_mem_cons.mpr ⟨lw_p36, List.forall_mem_cons.mpr ⟨lw_p37, List.forall_mem_cons.mpr ⟨lw_p38, fun _ h => absurd h List.not_mem_nil⟩⟩⟩⟩⟩⟩⟩
def lw_privs : List (MethodName × Nat) := lw_privs_1 ++ (lw_privs_2 ++ (lw_privs_3))
def lw_tbl : List Cond := k2_sels lw_privs ++ tables_1
theorem lw_privs_ok : ∀ q ∈ lw_privs, lw_okq q := by
  show ∀ q ∈ lw_privs_1 ++ (lw_privs_2 ++ (lw_privs_3)), lw_okq q
  exact List.forall_mem_append.mpr ⟨lw_r1, List.forall_mem_append.mpr ⟨lw_r2, lw_r3⟩⟩
end
section
/-! ===== BEGIN words of one list among another's, by their places ===== -/
theorem goodIn_r {big : List Cond} (ws : List Cond) (ps : List Nat) (hp : ws = ps.filterMap (fun i => big[i]?)) (h : ws.all goodWord = true) : GoodIn big ws := by
  intro w hw
  have h1 := List.all_eq_true.mp h w hw
  rw [hp] at hw
  obtain ⟨i, -, hi⟩ := List.mem_filterMap.mp hw
  have hm : w ∈ big := by first | exact List.mem_of_getElem? hi | exact List.getElem?_mem hi
  exact ⟨hm, good_of_word h1⟩
theorem goodIn_app {big a b : List Cond} (ha : GoodIn big a) (hb : GoodIn big b) : GoodIn big (a ++ b) := fun w h => (List.mem_append.mp h).elim (ha w) (hb w)
theorem goodIn_ca {big a b : List Cond} {c : Cond} (ha : GoodIn big (c :: a)) (hb : GoodIn big b) : GoodIn big (c :: (a ++ b)) := fun w h => (List.mem_cons.mp h).elim (fun e => ha w (List.mem_cons.mpr (Or.inl e))) (fun h => (List.mem_append.mp h).elim (fun h => ha w (List.mem_cons.mpr (Or.inr h))) (hb w))
theorem goodIn_sub {big ws : List Cond} (hm : ∀ w ∈ ws, w ∈ big) (h : ws.all goodWord = true) : GoodIn big ws := fun w hw => ⟨hm w hw, good_of_word (List.all_eq_true.mp h w hw)⟩
/-! ===== END ===== -/

/-! ===== BEGIN printed: names, fields, word lists, decode rows ===== -/
def RX0 : String := "GraphTwins$FormFinder"
def TX0 : u_T := fun k => match k with
  | 0 => ("GraphTwins$FormFinder", "rows", "[[J", true)
  | 1 => ("GraphTwins$FormFinder", "written", "[J", true)
  | 2 => ("GraphTwins$FormFinder", "bounds", "[[J", true)
  | _ => ("GraphTwins$FormFinder", "likes", "[I", true)
def tyX0 : Nat → FieldType := fun k => match k with
  | 0 => .array (.array .long)
  | 1 => .array .long
  | 2 => .array (.array .long)
  | _ => .array .int
abbrev wsX00 : List Cond := u_ws RX0 TX0 4
theorem nmX0 : ∀ a, a < 4 → ∀ b, b < 4 → a ≠ b → (TX0 a).2.1 ≠ (TX0 b).2.1 := by decide +kernel
theorem tyX0_ok : ∀ k, k < 4 → parseFieldDescriptor (TX0 k).2.2.1 = some (tyX0 k) := by decide +kernel
abbrev cX0_init : ByteArray := prog_2_method_1_code
def yX0_init : MethodName := ⟨RX0, "<init>", "()V"⟩
abbrev cX0_find : ByteArray := prog_2_method_2_code
def yX0_find : MethodName := ⟨RX0, "find", "(LGraphTwins$Graph;)V"⟩
abbrev cX0_lesserLikes : ByteArray := prog_2_method_3_code
def yX0_lesserLikes : MethodName := ⟨RX0, "lesserLikes", "(LGraphTwins$Graph;I)I"⟩
abbrev cX0_write : ByteArray := prog_2_method_4_code
def yX0_write : MethodName := ⟨RX0, "write", "(LGraphTwins$Graph;II)V"⟩
abbrev cX0_candidates : ByteArray := prog_2_method_5_code
def yX0_candidates : MethodName := ⟨RX0, "candidates", "(LGraphTwins$Graph;II)I"⟩
abbrev cX0_bound : ByteArray := prog_2_method_6_code
def yX0_bound : MethodName := ⟨RX0, "bound", "(LGraphTwins$Graph;III)V"⟩
abbrev cX0_longerRow : ByteArray := prog_2_method_7_code
def yX0_longerRow : MethodName := ⟨RX0, "longerRow", "(LGraphTwins$Graph;III)J"⟩
abbrev cX0_leastBounded : ByteArray := prog_2_method_8_code
def yX0_leastBounded : MethodName := ⟨RX0, "leastBounded", "(III)I"⟩
abbrev cX0_promisesLess : ByteArray := prog_2_method_9_code
def yX0_promisesLess : MethodName := ⟨RX0, "promisesLess", "(LGraphTwins$Graph;II)Z"⟩
abbrev cX0_isBoundLess : ByteArray := prog_2_method_10_code
def yX0_isBoundLess : MethodName := ⟨RX0, "isBoundLess", "(IIII)Z"⟩
abbrev cX0_writeVertex : ByteArray := prog_2_method_11_code
def yX0_writeVertex : MethodName := ⟨RX0, "writeVertex", "(LGraphTwins$Graph;III)V"⟩
def RX1 : String := "GraphTwins$Graph"
def TX1 : u_T := fun k => match k with
  | 0 => ("GraphTwins$Graph", "size", "I", false)
  | 1 => ("GraphTwins$Graph", "tints", "[I", true)
  | 2 => ("GraphTwins$Graph", "labels", "[[I", true)
  | 3 => ("GraphTwins$Graph", "colours", "[I", true)
  | 4 => ("GraphTwins$Graph", "leastOfOrbit", "[I", true)
  | 5 => ("GraphTwins$Graph", "symmetryNumber", "I", false)
  | 6 => ("GraphTwins$Graph", "symmetriesKnown", "Z", false)
  | 7 => ("GraphTwins$Graph", "formRows", "[J", true)
  | _ => ("GraphTwins$Graph", "formKnown", "Z", false)
def tyX1 : Nat → FieldType := fun k => match k with
  | 0 => .int
  | 1 => .array .int
  | 2 => .array (.array .int)
  | 3 => .array .int
  | 4 => .array .int
  | 5 => .int
  | 6 => .boolean
  | 7 => .array .long
  | _ => .boolean
abbrev wsX10 : List Cond := u_ws RX1 TX1 9
theorem nmX1 : ∀ a, a < 9 → ∀ b, b < 9 → a ≠ b → (TX1 a).2.1 ≠ (TX1 b).2.1 := by decide +kernel
theorem tyX1_ok : ∀ k, k < 9 → parseFieldDescriptor (TX1 k).2.2.1 = some (tyX1 k) := by decide +kernel
abbrev cX1_init : ByteArray := prog_3_method_1_code
def yX1_init : MethodName := ⟨RX1, "<init>", "()V"⟩
abbrev cX1_empty : ByteArray := prog_3_method_2_code
def yX1_empty : MethodName := ⟨RX1, "empty", "(I)V"⟩
abbrev cX1_become : ByteArray := prog_3_method_3_code
def yX1_become : MethodName := ⟨RX1, "become", "(LGraphTwins$Graph;)V"⟩
abbrev cX1_swap : ByteArray := prog_3_method_4_code
def yX1_swap : MethodName := ⟨RX1, "swap", "(II)V"⟩
abbrev cX1_edges : ByteArray := prog_3_method_5_code
def yX1_edges : MethodName := ⟨RX1, "edges", "()I"⟩
abbrev cX1_pair : ByteArray := prog_3_method_6_code
def yX1_pair : MethodName := ⟨RX1, "pair", "(II)I"⟩
abbrev cX1_isAlike : ByteArray := prog_3_method_7_code
def yX1_isAlike : MethodName := ⟨RX1, "isAlike", "(II)Z"⟩
abbrev cX1_formNumber : ByteArray := prog_3_method_8_code
def yX1_formNumber : MethodName := ⟨RX1, "formNumber", "(I)I"⟩
def RX2 : String := "GraphTwins$NamingSeeker"
def TX2 : u_T := fun k => match k with
  | _ => ("GraphTwins$NamingSeeker", "naming", "[I", true)
def tyX2 : Nat → FieldType := fun k => match k with
  | _ => .array .int
abbrev wsX20 : List Cond := u_ws RX2 TX2 1
theorem nmX2 : ∀ a, a < 1 → ∀ b, b < 1 → a ≠ b → (TX2 a).2.1 ≠ (TX2 b).2.1 := by decide +kernel
theorem tyX2_ok : ∀ k, k < 1 → parseFieldDescriptor (TX2 k).2.2.1 = some (tyX2 k) := by decide +kernel
abbrev cX2_init : ByteArray := prog_4_method_1_code
def yX2_init : MethodName := ⟨RX2, "<init>", "()V"⟩
abbrev cX2_findFirst : ByteArray := prog_4_method_2_code
def yX2_findFirst : MethodName := ⟨RX2, "findFirst", "(LGraphTwins$Graph;LGraphTwins$Graph;)Z"⟩
abbrev cX2_findNext : ByteArray := prog_4_method_3_code
def yX2_findNext : MethodName := ⟨RX2, "findNext", "(LGraphTwins$Graph;LGraphTwins$Graph;)Z"⟩
abbrev cX2_findSymmetry : ByteArray := prog_4_method_4_code
def yX2_findSymmetry : MethodName := ⟨RX2, "findSymmetry", "(LGraphTwins$Graph;II)Z"⟩
abbrev cX2_place : ByteArray := prog_4_method_5_code
def yX2_place : MethodName := ⟨RX2, "place", "(LGraphTwins$Graph;LGraphTwins$Graph;IIZ)Z"⟩
abbrev cX2_fits : ByteArray := prog_4_method_6_code
def yX2_fits : MethodName := ⟨RX2, "fits", "(LGraphTwins$Graph;LGraphTwins$Graph;II)Z"⟩
def RX3 : String := "GraphTwins$Painter"
def TX3 : u_T := fun k => match k with
  | 0 => ("GraphTwins$Painter", "number", "I", false)
  | 1 => ("GraphTwins$Painter", "colourOf", "[I", true)
  | 2 => ("GraphTwins$Painter", "newColourOf", "[I", true)
  | 3 => ("GraphTwins$Painter", "sorted", "[I", true)
  | 4 => ("GraphTwins$Painter", "tally", "[I", true)
  | _ => ("GraphTwins$Painter", "keys", "[[I", true)
def tyX3 : Nat → FieldType := fun k => match k with
  | 0 => .int
  | 1 => .array .int
  | 2 => .array .int
  | 3 => .array .int
  | 4 => .array .int
  | _ => .array (.array .int)
abbrev wsX30 : List Cond := u_ws RX3 TX3 6
theorem nmX3 : ∀ a, a < 6 → ∀ b, b < 6 → a ≠ b → (TX3 a).2.1 ≠ (TX3 b).2.1 := by decide +kernel
theorem tyX3_ok : ∀ k, k < 6 → parseFieldDescriptor (TX3 k).2.2.1 = some (tyX3 k) := by decide +kernel
abbrev cX3_init : ByteArray := prog_5_method_1_code
def yX3_init : MethodName := ⟨RX3, "<init>", "()V"⟩
abbrev cX3_paint : ByteArray := prog_5_method_2_code
def yX3_paint : MethodName := ⟨RX3, "paint", "([LGraphTwins$Graph;)V"⟩
abbrev cX3_paintsAlike : ByteArray := prog_5_method_3_code
def yX3_paintsAlike : MethodName := ⟨RX3, "paintsAlike", "([LGraphTwins$Graph;)Z"⟩
abbrev cX3_paintTints : ByteArray := prog_5_method_4_code
def yX3_paintTints : MethodName := ⟨RX3, "paintTints", "([LGraphTwins$Graph;I)V"⟩
abbrev cX3_gatherKeys : ByteArray := prog_5_method_5_code
def yX3_gatherKeys : MethodName := ⟨RX3, "gatherKeys", "([LGraphTwins$Graph;I)V"⟩
abbrev cX3_gatherKeysOf : ByteArray := prog_5_method_6_code
def yX3_gatherKeysOf : MethodName := ⟨RX3, "gatherKeysOf", "(LGraphTwins$Graph;II)V"⟩
abbrev cX3_renumber : ByteArray := prog_5_method_7_code
def yX3_renumber : MethodName := ⟨RX3, "renumber", "(II)V"⟩
abbrev cX3_sortSpots : ByteArray := prog_5_method_8_code
def yX3_sortSpots : MethodName := ⟨RX3, "sortSpots", "(II)V"⟩
abbrev cX3_difference : ByteArray := prog_5_method_9_code
def yX3_difference : MethodName := ⟨RX3, "difference", "(III)I"⟩
def RX4 : String := "GraphTwins$SymmetryFinder"
def TX4 : u_T := fun k => match k with
  | _ => ("GraphTwins$SymmetryFinder", "seeker", "LGraphTwins$NamingSeeker;", true)
def tyX4 : Nat → FieldType := fun k => match k with
  | _ => .object "GraphTwins$NamingSeeker"
abbrev wsX40 : List Cond := u_ws RX4 TX4 1
theorem nmX4 : ∀ a, a < 1 → ∀ b, b < 1 → a ≠ b → (TX4 a).2.1 ≠ (TX4 b).2.1 := by decide +kernel
theorem tyX4_ok : ∀ k, k < 1 → parseFieldDescriptor (TX4 k).2.2.1 = some (tyX4 k) := by decide +kernel
abbrev cX4_init : ByteArray := prog_6_method_1_code
def yX4_init : MethodName := ⟨RX4, "<init>", "()V"⟩
abbrev cX4_find : ByteArray := prog_6_method_2_code
def yX4_find : MethodName := ⟨RX4, "find", "(LGraphTwins$Graph;)V"⟩
abbrev cX4_joinOrbits : ByteArray := prog_6_method_3_code
def yX4_joinOrbits : MethodName := ⟨RX4, "joinOrbits", "(LGraphTwins$Graph;)V"⟩
abbrev cX4_replace : ByteArray := prog_6_method_4_code
def yX4_replace : MethodName := ⟨RX4, "replace", "([IIII)V"⟩
def RX5 : String := "GraphTwins"
def TX5 : u_T := fun k => match k with
  | 0 => ("GraphTwins", "graphs", "[LGraphTwins$Graph;", true)
  | 1 => ("GraphTwins", "painter", "LGraphTwins$Painter;", true)
  | 2 => ("GraphTwins", "seeker", "LGraphTwins$NamingSeeker;", true)
  | 3 => ("GraphTwins", "symmetryFinder", "LGraphTwins$SymmetryFinder;", true)
  | 4 => ("GraphTwins", "formFinder", "LGraphTwins$FormFinder;", true)
  | 5 => ("GraphTwins", "painted", "Z", false)
  | _ => ("GraphTwins", "atHand", "Z", false)
def tyX5 : Nat → FieldType := fun k => match k with
  | 0 => .array (.object "GraphTwins$Graph")
  | 1 => .object "GraphTwins$Painter"
  | 2 => .object "GraphTwins$NamingSeeker"
  | 3 => .object "GraphTwins$SymmetryFinder"
  | 4 => .object "GraphTwins$FormFinder"
  | 5 => .boolean
  | _ => .boolean
abbrev wsX50 : List Cond := u_ws RX5 TX5 7
theorem nmX5 : ∀ a, a < 7 → ∀ b, b < 7 → a ≠ b → (TX5 a).2.1 ≠ (TX5 b).2.1 := by decide +kernel
theorem tyX5_ok : ∀ k, k < 7 → parseFieldDescriptor (TX5 k).2.2.1 = some (tyX5 k) := by decide +kernel
abbrev cX5_init : ByteArray := prog_1_method_1_code
def yX5_init : MethodName := ⟨RX5, "<init>", "()V"⟩
abbrev cX5_begin : ByteArray := prog_1_method_2_code
def yX5_begin : MethodName := ⟨RX5, "begin", "(I)I"⟩
abbrev cX5_label : ByteArray := prog_1_method_3_code
def yX5_label : MethodName := ⟨RX5, "label", "(IIII)I"⟩
abbrev cX5_tint : ByteArray := prog_1_method_4_code
def yX5_tint : MethodName := ⟨RX5, "tint", "(III)I"⟩
abbrev cX5_exchange : ByteArray := prog_1_method_5_code
def yX5_exchange : MethodName := ⟨RX5, "exchange", "(III)I"⟩
abbrev cX5_copy : ByteArray := prog_1_method_6_code
def yX5_copy : MethodName := ⟨RX5, "copy", "(I)I"⟩
abbrev cX5_colours : ByteArray := prog_1_method_7_code
def yX5_colours : MethodName := ⟨RX5, "colours", "()I"⟩
abbrev cX5_colour : ByteArray := prog_1_method_8_code
def yX5_colour : MethodName := ⟨RX5, "colour", "(II)I"⟩
abbrev cX5_twins : ByteArray := prog_1_method_9_code
def yX5_twins : MethodName := ⟨RX5, "twins", "()I"⟩
abbrev cX5_image : ByteArray := prog_1_method_10_code
def yX5_image : MethodName := ⟨RX5, "image", "(I)I"⟩
abbrev cX5_next : ByteArray := prog_1_method_11_code
def yX5_next : MethodName := ⟨RX5, "next", "()I"⟩
abbrev cX5_symmetries : ByteArray := prog_1_method_12_code
def yX5_symmetries : MethodName := ⟨RX5, "symmetries", "(I)I"⟩
abbrev cX5_orbit : ByteArray := prog_1_method_13_code
def yX5_orbit : MethodName := ⟨RX5, "orbit", "(II)I"⟩
abbrev cX5_form : ByteArray := prog_1_method_14_code
def yX5_form : MethodName := ⟨RX5, "form", "(II)I"⟩
abbrev cX5_compare : ByteArray := prog_1_method_15_code
def yX5_compare : MethodName := ⟨RX5, "compare", "(I)I"⟩
abbrev cX5_count : ByteArray := prog_1_method_16_code
def yX5_count : MethodName := ⟨RX5, "count", "(I)I"⟩
abbrev cX5_isGraph : ByteArray := prog_1_method_17_code
def yX5_isGraph : MethodName := ⟨RX5, "isGraph", "(I)Z"⟩
abbrev cX5_isVertex : ByteArray := prog_1_method_18_code
def yX5_isVertex : MethodName := ⟨RX5, "isVertex", "(II)Z"⟩
abbrev cX5_isMark : ByteArray := prog_1_method_19_code
def yX5_isMark : MethodName := ⟨RX5, "isMark", "(I)Z"⟩
abbrev cX5_formLength : ByteArray := prog_1_method_20_code
def yX5_formLength : MethodName := ⟨RX5, "formLength", "()I"⟩
abbrev cX5_noteChange : ByteArray := prog_1_method_21_code
def yX5_noteChange : MethodName := ⟨RX5, "noteChange", "(LGraphTwins$Graph;)V"⟩
abbrev cX5_paintGraphs : ByteArray := prog_1_method_22_code
def yX5_paintGraphs : MethodName := ⟨RX5, "paintGraphs", "()V"⟩
abbrev cX5_withSymmetries : ByteArray := prog_1_method_23_code
def yX5_withSymmetries : MethodName := ⟨RX5, "withSymmetries", "(I)LGraphTwins$Graph;"⟩
abbrev cX5_withForm : ByteArray := prog_1_method_24_code
def yX5_withForm : MethodName := ⟨RX5, "withForm", "(I)LGraphTwins$Graph;"⟩
abbrev cX5_compareRows : ByteArray := prog_1_method_25_code
def yX5_compareRows : MethodName := ⟨RX5, "compareRows", "([J[JI)I"⟩
def RX6 : String := "GraphTwinsModel"
def TX6 : u_T := fun k => match k with
  | 0 => ("GraphTwinsModel", "n", "I", false)
  | 1 => ("GraphTwinsModel", "labels", "[I", true)
  | 2 => ("GraphTwinsModel", "tints", "[I", true)
  | 3 => ("GraphTwinsModel", "atHand", "Z", false)
  | 4 => ("GraphTwinsModel", "naming", "[I", true)
  | 5 => ("GraphTwinsModel", "way", "[I", true)
  | 6 => ("GraphTwinsModel", "fixed", "[I", true)
  | 7 => ("GraphTwinsModel", "hasForm", "[Z", true)
  | 8 => ("GraphTwinsModel", "forms", "[I", true)
  | 9 => ("GraphTwinsModel", "row", "[I", true)
  | 10 => ("GraphTwinsModel", "isColoured", "Z", false)
  | 11 => ("GraphTwinsModel", "colours", "[I", true)
  | 12 => ("GraphTwinsModel", "others", "[I", true)
  | _ => ("GraphTwinsModel", "colourCount", "I", false)
def tyX6 : Nat → FieldType := fun k => match k with
  | 0 => .int
  | 1 => .array .int
  | 2 => .array .int
  | 3 => .boolean
  | 4 => .array .int
  | 5 => .array .int
  | 6 => .array .int
  | 7 => .array .boolean
  | 8 => .array .int
  | 9 => .array .int
  | 10 => .boolean
  | 11 => .array .int
  | 12 => .array .int
  | _ => .int
abbrev wsX60 : List Cond := u_ws RX6 TX6 14
theorem nmX6 : ∀ a, a < 14 → ∀ b, b < 14 → a ≠ b → (TX6 a).2.1 ≠ (TX6 b).2.1 := by decide +kernel
theorem tyX6_ok : ∀ k, k < 14 → parseFieldDescriptor (TX6 k).2.2.1 = some (tyX6 k) := by decide +kernel
abbrev cX6_init : ByteArray := prog_8_method_1_code
def yX6_init : MethodName := ⟨RX6, "<init>", "()V"⟩
abbrev cX6_isGraph : ByteArray := prog_8_method_2_code
def yX6_isGraph : MethodName := ⟨RX6, "isGraph", "(I)Z"⟩
abbrev cX6_isVertex : ByteArray := prog_8_method_3_code
def yX6_isVertex : MethodName := ⟨RX6, "isVertex", "(I)Z"⟩
abbrev cX6_labelOf : ByteArray := prog_8_method_4_code
def yX6_labelOf : MethodName := ⟨RX6, "labelOf", "(III)I"⟩
abbrev cX6_changed : ByteArray := prog_8_method_5_code
def yX6_changed : MethodName := ⟨RX6, "changed", "()V"⟩
abbrev cX6_begin : ByteArray := prog_8_method_6_code
def yX6_begin : MethodName := ⟨RX6, "begin", "(I)I"⟩
abbrev cX6_label : ByteArray := prog_8_method_7_code
def yX6_label : MethodName := ⟨RX6, "label", "(IIII)I"⟩
abbrev cX6_tint : ByteArray := prog_8_method_8_code
def yX6_tint : MethodName := ⟨RX6, "tint", "(III)I"⟩
abbrev cX6_other : ByteArray := prog_8_method_9_code
def yX6_other : MethodName := ⟨RX6, "other", "(III)I"⟩
abbrev cX6_exchange : ByteArray := prog_8_method_10_code
def yX6_exchange : MethodName := ⟨RX6, "exchange", "(III)I"⟩
abbrev cX6_copy : ByteArray := prog_8_method_11_code
def yX6_copy : MethodName := ⟨RX6, "copy", "(I)I"⟩
abbrev cX6_many : ByteArray := prog_8_method_12_code
def yX6_many : MethodName := ⟨RX6, "many", "(IIII)I"⟩
abbrev cX6_order : ByteArray := prog_8_method_13_code
def yX6_order : MethodName := ⟨RX6, "order", "(II)I"⟩
abbrev cX6_isThere : ByteArray := prog_8_method_14_code
def yX6_isThere : MethodName := ⟨RX6, "isThere", "(I)Z"⟩
abbrev cX6_paint : ByteArray := prog_8_method_15_code
def yX6_paint : MethodName := ⟨RX6, "paint", "()V"⟩
abbrev cX6_colours : ByteArray := prog_8_method_16_code
def yX6_colours : MethodName := ⟨RX6, "colours", "()I"⟩
abbrev cX6_colour : ByteArray := prog_8_method_17_code
def yX6_colour : MethodName := ⟨RX6, "colour", "(II)I"⟩
abbrev cX6_fits : ByteArray := prog_8_method_18_code
def yX6_fits : MethodName := ⟨RX6, "fits", "(IIII)Z"⟩
abbrev cX6_search : ByteArray := prog_8_method_19_code
def yX6_search : MethodName := ⟨RX6, "search", "(III)Z"⟩
abbrev cX6_free : ByteArray := prog_8_method_20_code
def yX6_free : MethodName := ⟨RX6, "free", "()V"⟩
abbrev cX6_twins : ByteArray := prog_8_method_21_code
def yX6_twins : MethodName := ⟨RX6, "twins", "()I"⟩
abbrev cX6_keep : ByteArray := prog_8_method_22_code
def yX6_keep : MethodName := ⟨RX6, "keep", "()V"⟩
abbrev cX6_image : ByteArray := prog_8_method_23_code
def yX6_image : MethodName := ⟨RX6, "image", "(I)I"⟩
abbrev cX6_next : ByteArray := prog_8_method_24_code
def yX6_next : MethodName := ⟨RX6, "next", "()I"⟩
abbrev cX6_symmetries : ByteArray := prog_8_method_25_code
def yX6_symmetries : MethodName := ⟨RX6, "symmetries", "(I)I"⟩
abbrev cX6_orbit : ByteArray := prog_8_method_26_code
def yX6_orbit : MethodName := ⟨RX6, "orbit", "(II)I"⟩
abbrev cX6_sizeOf : ByteArray := prog_8_method_27_code
def yX6_sizeOf : MethodName := ⟨RX6, "sizeOf", "(I)I"⟩
abbrev cX6_write : ByteArray := prog_8_method_28_code
def yX6_write : MethodName := ⟨RX6, "write", "(I)V"⟩
abbrev cX6_isUnused : ByteArray := prog_8_method_29_code
def yX6_isUnused : MethodName := ⟨RX6, "isUnused", "(I)Z"⟩
abbrev cX6_part : ByteArray := prog_8_method_30_code
def yX6_part : MethodName := ⟨RX6, "part", "(II)V"⟩
abbrev cX6_compareRows : ByteArray := prog_8_method_31_code
def yX6_compareRows : MethodName := ⟨RX6, "compareRows", "(II)I"⟩
abbrev cX6_form : ByteArray := prog_8_method_32_code
def yX6_form : MethodName := ⟨RX6, "form", "(II)I"⟩
abbrev cX6_compare : ByteArray := prog_8_method_33_code
def yX6_compare : MethodName := ⟨RX6, "compare", "(I)I"⟩
abbrev cX6_edges : ByteArray := prog_8_method_34_code
def yX6_edges : MethodName := ⟨RX6, "edges", "(I)I"⟩
abbrev cX6_count : ByteArray := prog_8_method_35_code
def yX6_count : MethodName := ⟨RX6, "count", "(I)I"⟩
def RJ9 : String := "java/lang/Math"
def TJ9 : u_T := fun k => match k with
  | _ => ("", "", "", false)
def tyJ9 : Nat → FieldType := fun k => match k with
  | _ => .int
abbrev wsJ90 : List Cond := u_ws RJ9 TJ9 0
theorem nmJ9 : ∀ a, a < 0 → ∀ b, b < 0 → a ≠ b → (TJ9 a).2.1 ≠ (TJ9 b).2.1 := by decide +kernel
theorem tyJ9_ok : ∀ k, k < 0 → parseFieldDescriptor (TJ9 k).2.2.1 = some (tyJ9 k) := by decide +kernel
abbrev cJ9_max_7cf53 : ByteArray := prog_9_method_65_code
def yJ9_max_7cf53 : MethodName := ⟨RJ9, "max", "(II)I"⟩
abbrev cJ9_min_7cf53 : ByteArray := prog_9_method_69_code
def yJ9_min_7cf53 : MethodName := ⟨RJ9, "min", "(II)I"⟩
def RJ10 : String := "java/lang/System"
def TJ10 : u_T := fun k => match k with
  | _ => ("", "", "", false)
def tyJ10 : Nat → FieldType := fun k => match k with
  | _ => .int
abbrev wsJ100 : List Cond := u_ws RJ10 TJ10 0
theorem nmJ10 : ∀ a, a < 0 → ∀ b, b < 0 → a ≠ b → (TJ10 a).2.1 ≠ (TJ10 b).2.1 := by decide +kernel
theorem tyJ10_ok : ∀ k, k < 0 → parseFieldDescriptor (TJ10 k).2.2.1 = some (tyJ10 k) := by decide +kernel
def RJ7 : String := "java/util/Arrays"
def TJ7 : u_T := fun k => match k with
  | _ => ("", "", "", false)
def tyJ7 : Nat → FieldType := fun k => match k with
  | _ => .int
abbrev wsJ70 : List Cond := u_ws RJ7 TJ7 0
theorem nmJ7 : ∀ a, a < 0 → ∀ b, b < 0 → a ≠ b → (TJ7 a).2.1 ≠ (TJ7 b).2.1 := by decide +kernel
theorem tyJ7_ok : ∀ k, k < 0 → parseFieldDescriptor (TJ7 k).2.2.1 = some (tyJ7 k) := by decide +kernel
abbrev cJ7_fill_d0a16 : ByteArray := prog_11_method_101_code
def yJ7_fill_d0a16 : MethodName := ⟨RJ7, "fill", "([JJ)V"⟩
abbrev cJ7_fill_53178 : ByteArray := prog_11_method_103_code
def yJ7_fill_53178 : MethodName := ⟨RJ7, "fill", "([II)V"⟩
def RL : String := "GraphTwinsLaw"
abbrev cL_law : ByteArray := code
def yL_law : MethodName := ⟨RL, "law", "([I)Z"⟩
abbrev vwCl : List vw_C := [(RX0, TX0, 4), (RX1, TX1, 9), (RX2, TX2, 1), (RX3, TX3, 6), (RX4, TX4, 1), (RX5, TX5, 7), (RX6, TX6, 14)]
end
section
theorem dJ7_fill_d0a16_0 : decode cJ7_fill_d0a16 0 = .ok (.iconst 0, 1) := by decide +kernel
theorem dJ7_fill_d0a16_1 : decode cJ7_fill_d0a16 1 = .ok (.istore_n 3, 1) := by decide +kernel
theorem dJ7_fill_d0a16_2 : decode cJ7_fill_d0a16 2 = .ok (.aload_n 0, 1) := by decide +kernel
theorem dJ7_fill_d0a16_3 : decode cJ7_fill_d0a16 3 = .ok (.arraylength, 1) := by decide +kernel
theorem dJ7_fill_d0a16_4 : decode cJ7_fill_d0a16 4 = .ok (.istore 4, 2) := by decide +kernel
theorem dJ7_fill_d0a16_6 : decode cJ7_fill_d0a16 6 = .ok (.iload_n 3, 1) := by decide +kernel
theorem dJ7_fill_d0a16_7 : decode cJ7_fill_d0a16 7 = .ok (.iload 4, 2) := by decide +kernel
theorem dJ7_fill_d0a16_9 : decode cJ7_fill_d0a16 9 = .ok (.if_icmp .ge 13, 3) := by decide +kernel
theorem dJ7_fill_d0a16_12 : decode cJ7_fill_d0a16 12 = .ok (.aload_n 0, 1) := by decide +kernel
theorem dJ7_fill_d0a16_13 : decode cJ7_fill_d0a16 13 = .ok (.iload_n 3, 1) := by decide +kernel
theorem dJ7_fill_d0a16_14 : decode cJ7_fill_d0a16 14 = .ok (.lload_n 1, 1) := by decide +kernel
theorem dJ7_fill_d0a16_15 : decode cJ7_fill_d0a16 15 = .ok (.lastore, 1) := by decide +kernel
theorem dJ7_fill_d0a16_16 : decode cJ7_fill_d0a16 16 = .ok (.iinc 3 1, 3) := by decide +kernel
theorem dJ7_fill_d0a16_19 : decode cJ7_fill_d0a16 19 = .ok (.goto (-13), 3) := by decide +kernel
theorem dJ7_fill_d0a16_22 : decode cJ7_fill_d0a16 22 = .ok (.return_, 1) := by decide +kernel
theorem dJ7_fill_53178_0 : decode cJ7_fill_53178 0 = .ok (.iconst 0, 1) := by decide +kernel
theorem dJ7_fill_53178_1 : decode cJ7_fill_53178 1 = .ok (.istore_n 2, 1) := by decide +kernel
theorem dJ7_fill_53178_2 : decode cJ7_fill_53178 2 = .ok (.aload_n 0, 1) := by decide +kernel
theorem dJ7_fill_53178_3 : decode cJ7_fill_53178 3 = .ok (.arraylength, 1) := by decide +kernel
theorem dJ7_fill_53178_4 : decode cJ7_fill_53178 4 = .ok (.istore_n 3, 1) := by decide +kernel
theorem dJ7_fill_53178_5 : decode cJ7_fill_53178 5 = .ok (.iload_n 2, 1) := by decide +kernel
theorem dJ7_fill_53178_6 : decode cJ7_fill_53178 6 = .ok (.iload_n 3, 1) := by decide +kernel
theorem dJ7_fill_53178_7 : decode cJ7_fill_53178 7 = .ok (.if_icmp .ge 13, 3) := by decide +kernel
theorem dJ7_fill_53178_10 : decode cJ7_fill_53178 10 = .ok (.aload_n 0, 1) := by decide +kernel
theorem dJ7_fill_53178_11 : decode cJ7_fill_53178 11 = .ok (.iload_n 2, 1) := by decide +kernel
theorem dJ7_fill_53178_12 : decode cJ7_fill_53178 12 = .ok (.iload_n 1, 1) := by decide +kernel
theorem dJ7_fill_53178_13 : decode cJ7_fill_53178 13 = .ok (.iastore, 1) := by decide +kernel
theorem dJ7_fill_53178_14 : decode cJ7_fill_53178 14 = .ok (.iinc 2 1, 3) := by decide +kernel
theorem dJ7_fill_53178_17 : decode cJ7_fill_53178 17 = .ok (.goto (-12), 3) := by decide +kernel
theorem dJ7_fill_53178_20 : decode cJ7_fill_53178 20 = .ok (.return_, 1) := by decide +kernel
theorem dJ9_max_7cf53_0 : decode cJ9_max_7cf53 0 = .ok (.iload_n 0, 1) := by decide +kernel
theorem dJ9_max_7cf53_1 : decode cJ9_max_7cf53 1 = .ok (.iload_n 1, 1) := by decide +kernel
theorem dJ9_max_7cf53_2 : decode cJ9_max_7cf53 2 = .ok (.if_icmp .lt 7, 3) := by decide +kernel
theorem dJ9_max_7cf53_5 : decode cJ9_max_7cf53 5 = .ok (.iload_n 0, 1) := by decide +kernel
theorem dJ9_max_7cf53_6 : decode cJ9_max_7cf53 6 = .ok (.goto 4, 3) := by decide +kernel
theorem dJ9_max_7cf53_9 : decode cJ9_max_7cf53 9 = .ok (.iload_n 1, 1) := by decide +kernel
theorem dJ9_max_7cf53_10 : decode cJ9_max_7cf53 10 = .ok (.ireturn, 1) := by decide +kernel
theorem dJ9_min_7cf53_0 : decode cJ9_min_7cf53 0 = .ok (.iload_n 0, 1) := by decide +kernel
theorem dJ9_min_7cf53_1 : decode cJ9_min_7cf53 1 = .ok (.iload_n 1, 1) := by decide +kernel
theorem dJ9_min_7cf53_2 : decode cJ9_min_7cf53 2 = .ok (.if_icmp .gt 7, 3) := by decide +kernel
theorem dJ9_min_7cf53_5 : decode cJ9_min_7cf53 5 = .ok (.iload_n 0, 1) := by decide +kernel
theorem dJ9_min_7cf53_6 : decode cJ9_min_7cf53 6 = .ok (.goto 4, 3) := by decide +kernel
theorem dJ9_min_7cf53_9 : decode cJ9_min_7cf53 9 = .ok (.iload_n 1, 1) := by decide +kernel
theorem dJ9_min_7cf53_10 : decode cJ9_min_7cf53 10 = .ok (.ireturn, 1) := by decide +kernel
theorem dL_law_0 : decode cL_law 0 = .ok (.new 7, 3) := by decide +kernel
theorem dL_law_3 : decode cL_law 3 = .ok (.dup, 1) := by decide +kernel
theorem dL_law_4 : decode cL_law 4 = .ok (.invokespecial 9, 3) := by decide +kernel
theorem dL_law_7 : decode cL_law 7 = .ok (.astore_n 1, 1) := by decide +kernel
theorem dL_law_8 : decode cL_law 8 = .ok (.new 10, 3) := by decide +kernel
theorem dL_law_11 : decode cL_law 11 = .ok (.dup, 1) := by decide +kernel
theorem dL_law_12 : decode cL_law 12 = .ok (.invokespecial 12, 3) := by decide +kernel
theorem dL_law_15 : decode cL_law 15 = .ok (.astore_n 2, 1) := by decide +kernel
theorem dL_law_16 : decode cL_law 16 = .ok (.iconst 0, 1) := by decide +kernel
theorem dL_law_17 : decode cL_law 17 = .ok (.istore_n 3, 1) := by decide +kernel
theorem dL_law_18 : decode cL_law 18 = .ok (.iload_n 3, 1) := by decide +kernel
theorem dL_law_19 : decode cL_law 19 = .ok (.aload_n 0, 1) := by decide +kernel
theorem dL_law_20 : decode cL_law 20 = .ok (.arraylength, 1) := by decide +kernel
theorem dL_law_21 : decode cL_law 21 = .ok (.iconst 5, 1) := by decide +kernel
theorem dL_law_22 : decode cL_law 22 = .ok (.isub, 1) := by decide +kernel
theorem dL_law_23 : decode cL_law 23 = .ok (.if_icmp .gt 506, 3) := by decide +kernel
theorem dL_law_26 : decode cL_law 26 = .ok (.aload_n 0, 1) := by decide +kernel
theorem dL_law_27 : decode cL_law 27 = .ok (.iload_n 3, 1) := by decide +kernel
theorem dL_law_28 : decode cL_law 28 = .ok (.iaload, 1) := by decide +kernel
theorem dL_law_29 : decode cL_law 29 = .ok (.bipush 15, 2) := by decide +kernel
theorem dL_law_31 : decode cL_law 31 = .ok (.iand, 1) := by decide +kernel
theorem dL_law_32 : decode cL_law 32 = .ok (.tableswitch 491 0 14 #[76, 99, 152, 195, 238, 261, 274, 307, 320, 343, 356, 379, 412, 445, 468], 76) := by decide +kernel
theorem dL_law_108 : decode cL_law 108 = .ok (.aload_n 1, 1) := by decide +kernel
theorem dL_law_109 : decode cL_law 109 = .ok (.aload_n 0, 1) := by decide +kernel
theorem dL_law_110 : decode cL_law 110 = .ok (.iload_n 3, 1) := by decide +kernel
theorem dL_law_111 : decode cL_law 111 = .ok (.iconst 1, 1) := by decide +kernel
theorem dL_law_112 : decode cL_law 112 = .ok (.iadd, 1) := by decide +kernel
theorem dL_law_113 : decode cL_law 113 = .ok (.iaload, 1) := by decide +kernel
theorem dL_law_114 : decode cL_law 114 = .ok (.invokevirtual 13, 3) := by decide +kernel
theorem dL_law_117 : decode cL_law 117 = .ok (.aload_n 2, 1) := by decide +kernel
theorem dL_law_118 : decode cL_law 118 = .ok (.aload_n 0, 1) := by decide +kernel
theorem dL_law_119 : decode cL_law 119 = .ok (.iload_n 3, 1) := by decide +kernel
theorem dL_law_120 : decode cL_law 120 = .ok (.iconst 1, 1) := by decide +kernel
theorem dL_law_121 : decode cL_law 121 = .ok (.iadd, 1) := by decide +kernel
theorem dL_law_122 : decode cL_law 122 = .ok (.iaload, 1) := by decide +kernel
theorem dL_law_123 : decode cL_law 123 = .ok (.invokevirtual 17, 3) := by decide +kernel
theorem dL_law_126 : decode cL_law 126 = .ok (.if_icmp .eq 397, 3) := by decide +kernel
theorem dL_law_129 : decode cL_law 129 = .ok (.iconst 0, 1) := by decide +kernel
theorem dL_law_130 : decode cL_law 130 = .ok (.ireturn, 1) := by decide +kernel
theorem dL_law_131 : decode cL_law 131 = .ok (.aload_n 1, 1) := by decide +kernel
theorem dL_law_132 : decode cL_law 132 = .ok (.aload_n 0, 1) := by decide +kernel
theorem dL_law_133 : decode cL_law 133 = .ok (.iload_n 3, 1) := by decide +kernel
theorem dL_law_134 : decode cL_law 134 = .ok (.iconst 1, 1) := by decide +kernel
theorem dL_law_135 : decode cL_law 135 = .ok (.iadd, 1) := by decide +kernel
theorem dL_law_136 : decode cL_law 136 = .ok (.iaload, 1) := by decide +kernel
theorem dL_law_137 : decode cL_law 137 = .ok (.aload_n 0, 1) := by decide +kernel
theorem dL_law_138 : decode cL_law 138 = .ok (.iload_n 3, 1) := by decide +kernel
theorem dL_law_139 : decode cL_law 139 = .ok (.iconst 2, 1) := by decide +kernel
theorem dL_law_140 : decode cL_law 140 = .ok (.iadd, 1) := by decide +kernel
theorem dL_law_141 : decode cL_law 141 = .ok (.iaload, 1) := by decide +kernel
theorem dL_law_142 : decode cL_law 142 = .ok (.aload_n 0, 1) := by decide +kernel
theorem dL_law_143 : decode cL_law 143 = .ok (.iload_n 3, 1) := by decide +kernel
theorem dL_law_144 : decode cL_law 144 = .ok (.iconst 3, 1) := by decide +kernel
theorem dL_law_145 : decode cL_law 145 = .ok (.iadd, 1) := by decide +kernel
theorem dL_law_146 : decode cL_law 146 = .ok (.iaload, 1) := by decide +kernel
theorem dL_law_147 : decode cL_law 147 = .ok (.aload_n 0, 1) := by decide +kernel
theorem dL_law_148 : decode cL_law 148 = .ok (.iload_n 3, 1) := by decide +kernel
theorem dL_law_149 : decode cL_law 149 = .ok (.iconst 4, 1) := by decide +kernel
theorem dL_law_150 : decode cL_law 150 = .ok (.iadd, 1) := by decide +kernel
theorem dL_law_151 : decode cL_law 151 = .ok (.iaload, 1) := by decide +kernel
theorem dL_law_152 : decode cL_law 152 = .ok (.invokevirtual 18, 3) := by decide +kernel
theorem dL_law_155 : decode cL_law 155 = .ok (.aload_n 2, 1) := by decide +kernel
theorem dL_law_156 : decode cL_law 156 = .ok (.aload_n 0, 1) := by decide +kernel
theorem dL_law_157 : decode cL_law 157 = .ok (.iload_n 3, 1) := by decide +kernel
theorem dL_law_158 : decode cL_law 158 = .ok (.iconst 1, 1) := by decide +kernel
theorem dL_law_159 : decode cL_law 159 = .ok (.iadd, 1) := by decide +kernel
theorem dL_law_160 : decode cL_law 160 = .ok (.iaload, 1) := by decide +kernel
theorem dL_law_161 : decode cL_law 161 = .ok (.aload_n 0, 1) := by decide +kernel
theorem dL_law_162 : decode cL_law 162 = .ok (.iload_n 3, 1) := by decide +kernel
theorem dL_law_163 : decode cL_law 163 = .ok (.iconst 2, 1) := by decide +kernel
theorem dL_law_164 : decode cL_law 164 = .ok (.iadd, 1) := by decide +kernel
theorem dL_law_165 : decode cL_law 165 = .ok (.iaload, 1) := by decide +kernel
theorem dL_law_166 : decode cL_law 166 = .ok (.aload_n 0, 1) := by decide +kernel
theorem dL_law_167 : decode cL_law 167 = .ok (.iload_n 3, 1) := by decide +kernel
theorem dL_law_168 : decode cL_law 168 = .ok (.iconst 3, 1) := by decide +kernel
theorem dL_law_169 : decode cL_law 169 = .ok (.iadd, 1) := by decide +kernel
theorem dL_law_170 : decode cL_law 170 = .ok (.iaload, 1) := by decide +kernel
theorem dL_law_171 : decode cL_law 171 = .ok (.aload_n 0, 1) := by decide +kernel
theorem dL_law_172 : decode cL_law 172 = .ok (.iload_n 3, 1) := by decide +kernel
theorem dL_law_173 : decode cL_law 173 = .ok (.iconst 4, 1) := by decide +kernel
theorem dL_law_174 : decode cL_law 174 = .ok (.iadd, 1) := by decide +kernel
theorem dL_law_175 : decode cL_law 175 = .ok (.iaload, 1) := by decide +kernel
theorem dL_law_176 : decode cL_law 176 = .ok (.invokevirtual 22, 3) := by decide +kernel
theorem dL_law_179 : decode cL_law 179 = .ok (.if_icmp .eq 344, 3) := by decide +kernel
theorem dL_law_182 : decode cL_law 182 = .ok (.iconst 0, 1) := by decide +kernel
theorem dL_law_183 : decode cL_law 183 = .ok (.ireturn, 1) := by decide +kernel
theorem dL_law_184 : decode cL_law 184 = .ok (.aload_n 1, 1) := by decide +kernel
theorem dL_law_185 : decode cL_law 185 = .ok (.aload_n 0, 1) := by decide +kernel
theorem dL_law_186 : decode cL_law 186 = .ok (.iload_n 3, 1) := by decide +kernel
theorem dL_law_187 : decode cL_law 187 = .ok (.iconst 1, 1) := by decide +kernel
theorem dL_law_188 : decode cL_law 188 = .ok (.iadd, 1) := by decide +kernel
theorem dL_law_189 : decode cL_law 189 = .ok (.iaload, 1) := by decide +kernel
theorem dL_law_190 : decode cL_law 190 = .ok (.aload_n 0, 1) := by decide +kernel
theorem dL_law_191 : decode cL_law 191 = .ok (.iload_n 3, 1) := by decide +kernel
theorem dL_law_192 : decode cL_law 192 = .ok (.iconst 2, 1) := by decide +kernel
theorem dL_law_193 : decode cL_law 193 = .ok (.iadd, 1) := by decide +kernel
theorem dL_law_194 : decode cL_law 194 = .ok (.iaload, 1) := by decide +kernel
theorem dL_law_195 : decode cL_law 195 = .ok (.aload_n 0, 1) := by decide +kernel
theorem dL_law_196 : decode cL_law 196 = .ok (.iload_n 3, 1) := by decide +kernel
theorem dL_law_197 : decode cL_law 197 = .ok (.iconst 3, 1) := by decide +kernel
theorem dL_law_198 : decode cL_law 198 = .ok (.iadd, 1) := by decide +kernel
theorem dL_law_199 : decode cL_law 199 = .ok (.iaload, 1) := by decide +kernel
theorem dL_law_200 : decode cL_law 200 = .ok (.invokevirtual 23, 3) := by decide +kernel
theorem dL_law_203 : decode cL_law 203 = .ok (.aload_n 2, 1) := by decide +kernel
theorem dL_law_204 : decode cL_law 204 = .ok (.aload_n 0, 1) := by decide +kernel
theorem dL_law_205 : decode cL_law 205 = .ok (.iload_n 3, 1) := by decide +kernel
theorem dL_law_206 : decode cL_law 206 = .ok (.iconst 1, 1) := by decide +kernel
theorem dL_law_207 : decode cL_law 207 = .ok (.iadd, 1) := by decide +kernel
theorem dL_law_208 : decode cL_law 208 = .ok (.iaload, 1) := by decide +kernel
theorem dL_law_209 : decode cL_law 209 = .ok (.aload_n 0, 1) := by decide +kernel
theorem dL_law_210 : decode cL_law 210 = .ok (.iload_n 3, 1) := by decide +kernel
theorem dL_law_211 : decode cL_law 211 = .ok (.iconst 2, 1) := by decide +kernel
theorem dL_law_212 : decode cL_law 212 = .ok (.iadd, 1) := by decide +kernel
theorem dL_law_213 : decode cL_law 213 = .ok (.iaload, 1) := by decide +kernel
theorem dL_law_214 : decode cL_law 214 = .ok (.aload_n 0, 1) := by decide +kernel
theorem dL_law_215 : decode cL_law 215 = .ok (.iload_n 3, 1) := by decide +kernel
theorem dL_law_216 : decode cL_law 216 = .ok (.iconst 3, 1) := by decide +kernel
theorem dL_law_217 : decode cL_law 217 = .ok (.iadd, 1) := by decide +kernel
theorem dL_law_218 : decode cL_law 218 = .ok (.iaload, 1) := by decide +kernel
theorem dL_law_219 : decode cL_law 219 = .ok (.invokevirtual 27, 3) := by decide +kernel
theorem dL_law_222 : decode cL_law 222 = .ok (.if_icmp .eq 301, 3) := by decide +kernel
theorem dL_law_225 : decode cL_law 225 = .ok (.iconst 0, 1) := by decide +kernel
theorem dL_law_226 : decode cL_law 226 = .ok (.ireturn, 1) := by decide +kernel
theorem dL_law_227 : decode cL_law 227 = .ok (.aload_n 1, 1) := by decide +kernel
theorem dL_law_228 : decode cL_law 228 = .ok (.aload_n 0, 1) := by decide +kernel
theorem dL_law_229 : decode cL_law 229 = .ok (.iload_n 3, 1) := by decide +kernel
theorem dL_law_230 : decode cL_law 230 = .ok (.iconst 1, 1) := by decide +kernel
theorem dL_law_231 : decode cL_law 231 = .ok (.iadd, 1) := by decide +kernel
theorem dL_law_232 : decode cL_law 232 = .ok (.iaload, 1) := by decide +kernel
theorem dL_law_233 : decode cL_law 233 = .ok (.aload_n 0, 1) := by decide +kernel
theorem dL_law_234 : decode cL_law 234 = .ok (.iload_n 3, 1) := by decide +kernel
theorem dL_law_235 : decode cL_law 235 = .ok (.iconst 2, 1) := by decide +kernel
theorem dL_law_236 : decode cL_law 236 = .ok (.iadd, 1) := by decide +kernel
theorem dL_law_237 : decode cL_law 237 = .ok (.iaload, 1) := by decide +kernel
theorem dL_law_238 : decode cL_law 238 = .ok (.aload_n 0, 1) := by decide +kernel
theorem dL_law_239 : decode cL_law 239 = .ok (.iload_n 3, 1) := by decide +kernel
theorem dL_law_240 : decode cL_law 240 = .ok (.iconst 3, 1) := by decide +kernel
theorem dL_law_241 : decode cL_law 241 = .ok (.iadd, 1) := by decide +kernel
theorem dL_law_242 : decode cL_law 242 = .ok (.iaload, 1) := by decide +kernel
theorem dL_law_243 : decode cL_law 243 = .ok (.invokevirtual 28, 3) := by decide +kernel
theorem dL_law_246 : decode cL_law 246 = .ok (.aload_n 2, 1) := by decide +kernel
theorem dL_law_247 : decode cL_law 247 = .ok (.aload_n 0, 1) := by decide +kernel
theorem dL_law_248 : decode cL_law 248 = .ok (.iload_n 3, 1) := by decide +kernel
theorem dL_law_249 : decode cL_law 249 = .ok (.iconst 1, 1) := by decide +kernel
theorem dL_law_250 : decode cL_law 250 = .ok (.iadd, 1) := by decide +kernel
theorem dL_law_251 : decode cL_law 251 = .ok (.iaload, 1) := by decide +kernel
theorem dL_law_252 : decode cL_law 252 = .ok (.aload_n 0, 1) := by decide +kernel
theorem dL_law_253 : decode cL_law 253 = .ok (.iload_n 3, 1) := by decide +kernel
theorem dL_law_254 : decode cL_law 254 = .ok (.iconst 2, 1) := by decide +kernel
theorem dL_law_255 : decode cL_law 255 = .ok (.iadd, 1) := by decide +kernel
theorem dL_law_256 : decode cL_law 256 = .ok (.iaload, 1) := by decide +kernel
theorem dL_law_257 : decode cL_law 257 = .ok (.aload_n 0, 1) := by decide +kernel
theorem dL_law_258 : decode cL_law 258 = .ok (.iload_n 3, 1) := by decide +kernel
theorem dL_law_259 : decode cL_law 259 = .ok (.iconst 3, 1) := by decide +kernel
theorem dL_law_260 : decode cL_law 260 = .ok (.iadd, 1) := by decide +kernel
theorem dL_law_261 : decode cL_law 261 = .ok (.iaload, 1) := by decide +kernel
theorem dL_law_262 : decode cL_law 262 = .ok (.invokevirtual 31, 3) := by decide +kernel
theorem dL_law_265 : decode cL_law 265 = .ok (.if_icmp .eq 258, 3) := by decide +kernel
theorem dL_law_268 : decode cL_law 268 = .ok (.iconst 0, 1) := by decide +kernel
theorem dL_law_269 : decode cL_law 269 = .ok (.ireturn, 1) := by decide +kernel
theorem dL_law_270 : decode cL_law 270 = .ok (.aload_n 1, 1) := by decide +kernel
theorem dL_law_271 : decode cL_law 271 = .ok (.aload_n 0, 1) := by decide +kernel
theorem dL_law_272 : decode cL_law 272 = .ok (.iload_n 3, 1) := by decide +kernel
theorem dL_law_273 : decode cL_law 273 = .ok (.iconst 1, 1) := by decide +kernel
theorem dL_law_274 : decode cL_law 274 = .ok (.iadd, 1) := by decide +kernel
theorem dL_law_275 : decode cL_law 275 = .ok (.iaload, 1) := by decide +kernel
theorem dL_law_276 : decode cL_law 276 = .ok (.invokevirtual 32, 3) := by decide +kernel
theorem dL_law_279 : decode cL_law 279 = .ok (.aload_n 2, 1) := by decide +kernel
theorem dL_law_280 : decode cL_law 280 = .ok (.aload_n 0, 1) := by decide +kernel
theorem dL_law_281 : decode cL_law 281 = .ok (.iload_n 3, 1) := by decide +kernel
theorem dL_law_282 : decode cL_law 282 = .ok (.iconst 1, 1) := by decide +kernel
theorem dL_law_283 : decode cL_law 283 = .ok (.iadd, 1) := by decide +kernel
theorem dL_law_284 : decode cL_law 284 = .ok (.iaload, 1) := by decide +kernel
theorem dL_law_285 : decode cL_law 285 = .ok (.invokevirtual 35, 3) := by decide +kernel
theorem dL_law_288 : decode cL_law 288 = .ok (.if_icmp .eq 235, 3) := by decide +kernel
theorem dL_law_291 : decode cL_law 291 = .ok (.iconst 0, 1) := by decide +kernel
theorem dL_law_292 : decode cL_law 292 = .ok (.ireturn, 1) := by decide +kernel
theorem dL_law_293 : decode cL_law 293 = .ok (.aload_n 1, 1) := by decide +kernel
theorem dL_law_294 : decode cL_law 294 = .ok (.invokevirtual 36, 3) := by decide +kernel
theorem dL_law_297 : decode cL_law 297 = .ok (.aload_n 2, 1) := by decide +kernel
theorem dL_law_298 : decode cL_law 298 = .ok (.invokevirtual 40, 3) := by decide +kernel
theorem dL_law_301 : decode cL_law 301 = .ok (.if_icmp .eq 222, 3) := by decide +kernel
theorem dL_law_304 : decode cL_law 304 = .ok (.iconst 0, 1) := by decide +kernel
theorem dL_law_305 : decode cL_law 305 = .ok (.ireturn, 1) := by decide +kernel
theorem dL_law_306 : decode cL_law 306 = .ok (.aload_n 1, 1) := by decide +kernel
theorem dL_law_307 : decode cL_law 307 = .ok (.aload_n 0, 1) := by decide +kernel
theorem dL_law_308 : decode cL_law 308 = .ok (.iload_n 3, 1) := by decide +kernel
theorem dL_law_309 : decode cL_law 309 = .ok (.iconst 1, 1) := by decide +kernel
theorem dL_law_310 : decode cL_law 310 = .ok (.iadd, 1) := by decide +kernel
theorem dL_law_311 : decode cL_law 311 = .ok (.iaload, 1) := by decide +kernel
theorem dL_law_312 : decode cL_law 312 = .ok (.aload_n 0, 1) := by decide +kernel
theorem dL_law_313 : decode cL_law 313 = .ok (.iload_n 3, 1) := by decide +kernel
theorem dL_law_314 : decode cL_law 314 = .ok (.iconst 2, 1) := by decide +kernel
theorem dL_law_315 : decode cL_law 315 = .ok (.iadd, 1) := by decide +kernel
theorem dL_law_316 : decode cL_law 316 = .ok (.iaload, 1) := by decide +kernel
theorem dL_law_317 : decode cL_law 317 = .ok (.invokevirtual 41, 3) := by decide +kernel
theorem dL_law_320 : decode cL_law 320 = .ok (.aload_n 2, 1) := by decide +kernel
theorem dL_law_321 : decode cL_law 321 = .ok (.aload_n 0, 1) := by decide +kernel
theorem dL_law_322 : decode cL_law 322 = .ok (.iload_n 3, 1) := by decide +kernel
theorem dL_law_323 : decode cL_law 323 = .ok (.iconst 1, 1) := by decide +kernel
theorem dL_law_324 : decode cL_law 324 = .ok (.iadd, 1) := by decide +kernel
theorem dL_law_325 : decode cL_law 325 = .ok (.iaload, 1) := by decide +kernel
theorem dL_law_326 : decode cL_law 326 = .ok (.aload_n 0, 1) := by decide +kernel
theorem dL_law_327 : decode cL_law 327 = .ok (.iload_n 3, 1) := by decide +kernel
theorem dL_law_328 : decode cL_law 328 = .ok (.iconst 2, 1) := by decide +kernel
theorem dL_law_329 : decode cL_law 329 = .ok (.iadd, 1) := by decide +kernel
theorem dL_law_330 : decode cL_law 330 = .ok (.iaload, 1) := by decide +kernel
theorem dL_law_331 : decode cL_law 331 = .ok (.invokevirtual 45, 3) := by decide +kernel
theorem dL_law_334 : decode cL_law 334 = .ok (.if_icmp .eq 189, 3) := by decide +kernel
theorem dL_law_337 : decode cL_law 337 = .ok (.iconst 0, 1) := by decide +kernel
theorem dL_law_338 : decode cL_law 338 = .ok (.ireturn, 1) := by decide +kernel
theorem dL_law_339 : decode cL_law 339 = .ok (.aload_n 1, 1) := by decide +kernel
theorem dL_law_340 : decode cL_law 340 = .ok (.invokevirtual 46, 3) := by decide +kernel
theorem dL_law_343 : decode cL_law 343 = .ok (.aload_n 2, 1) := by decide +kernel
theorem dL_law_344 : decode cL_law 344 = .ok (.invokevirtual 49, 3) := by decide +kernel
theorem dL_law_347 : decode cL_law 347 = .ok (.if_icmp .eq 176, 3) := by decide +kernel
theorem dL_law_350 : decode cL_law 350 = .ok (.iconst 0, 1) := by decide +kernel
theorem dL_law_351 : decode cL_law 351 = .ok (.ireturn, 1) := by decide +kernel
theorem dL_law_352 : decode cL_law 352 = .ok (.aload_n 1, 1) := by decide +kernel
theorem dL_law_353 : decode cL_law 353 = .ok (.aload_n 0, 1) := by decide +kernel
theorem dL_law_354 : decode cL_law 354 = .ok (.iload_n 3, 1) := by decide +kernel
theorem dL_law_355 : decode cL_law 355 = .ok (.iconst 1, 1) := by decide +kernel
theorem dL_law_356 : decode cL_law 356 = .ok (.iadd, 1) := by decide +kernel
theorem dL_law_357 : decode cL_law 357 = .ok (.iaload, 1) := by decide +kernel
theorem dL_law_358 : decode cL_law 358 = .ok (.invokevirtual 50, 3) := by decide +kernel
theorem dL_law_361 : decode cL_law 361 = .ok (.aload_n 2, 1) := by decide +kernel
theorem dL_law_362 : decode cL_law 362 = .ok (.aload_n 0, 1) := by decide +kernel
theorem dL_law_363 : decode cL_law 363 = .ok (.iload_n 3, 1) := by decide +kernel
theorem dL_law_364 : decode cL_law 364 = .ok (.iconst 1, 1) := by decide +kernel
theorem dL_law_365 : decode cL_law 365 = .ok (.iadd, 1) := by decide +kernel
theorem dL_law_366 : decode cL_law 366 = .ok (.iaload, 1) := by decide +kernel
theorem dL_law_367 : decode cL_law 367 = .ok (.invokevirtual 53, 3) := by decide +kernel
theorem dL_law_370 : decode cL_law 370 = .ok (.if_icmp .eq 153, 3) := by decide +kernel
theorem dL_law_373 : decode cL_law 373 = .ok (.iconst 0, 1) := by decide +kernel
theorem dL_law_374 : decode cL_law 374 = .ok (.ireturn, 1) := by decide +kernel
theorem dL_law_375 : decode cL_law 375 = .ok (.aload_n 1, 1) := by decide +kernel
theorem dL_law_376 : decode cL_law 376 = .ok (.invokevirtual 54, 3) := by decide +kernel
theorem dL_law_379 : decode cL_law 379 = .ok (.aload_n 2, 1) := by decide +kernel
theorem dL_law_380 : decode cL_law 380 = .ok (.invokevirtual 57, 3) := by decide +kernel
theorem dL_law_383 : decode cL_law 383 = .ok (.if_icmp .eq 140, 3) := by decide +kernel
theorem dL_law_386 : decode cL_law 386 = .ok (.iconst 0, 1) := by decide +kernel
theorem dL_law_387 : decode cL_law 387 = .ok (.ireturn, 1) := by decide +kernel
theorem dL_law_388 : decode cL_law 388 = .ok (.aload_n 1, 1) := by decide +kernel
theorem dL_law_389 : decode cL_law 389 = .ok (.aload_n 0, 1) := by decide +kernel
theorem dL_law_390 : decode cL_law 390 = .ok (.iload_n 3, 1) := by decide +kernel
theorem dL_law_391 : decode cL_law 391 = .ok (.iconst 1, 1) := by decide +kernel
theorem dL_law_392 : decode cL_law 392 = .ok (.iadd, 1) := by decide +kernel
theorem dL_law_393 : decode cL_law 393 = .ok (.iaload, 1) := by decide +kernel
theorem dL_law_394 : decode cL_law 394 = .ok (.invokevirtual 58, 3) := by decide +kernel
theorem dL_law_397 : decode cL_law 397 = .ok (.aload_n 2, 1) := by decide +kernel
theorem dL_law_398 : decode cL_law 398 = .ok (.aload_n 0, 1) := by decide +kernel
theorem dL_law_399 : decode cL_law 399 = .ok (.iload_n 3, 1) := by decide +kernel
theorem dL_law_400 : decode cL_law 400 = .ok (.iconst 1, 1) := by decide +kernel
theorem dL_law_401 : decode cL_law 401 = .ok (.iadd, 1) := by decide +kernel
theorem dL_law_402 : decode cL_law 402 = .ok (.iaload, 1) := by decide +kernel
theorem dL_law_403 : decode cL_law 403 = .ok (.invokevirtual 61, 3) := by decide +kernel
theorem dL_law_406 : decode cL_law 406 = .ok (.if_icmp .eq 117, 3) := by decide +kernel
theorem dL_law_409 : decode cL_law 409 = .ok (.iconst 0, 1) := by decide +kernel
theorem dL_law_410 : decode cL_law 410 = .ok (.ireturn, 1) := by decide +kernel
theorem dL_law_411 : decode cL_law 411 = .ok (.aload_n 1, 1) := by decide +kernel
theorem dL_law_412 : decode cL_law 412 = .ok (.aload_n 0, 1) := by decide +kernel
theorem dL_law_413 : decode cL_law 413 = .ok (.iload_n 3, 1) := by decide +kernel
theorem dL_law_414 : decode cL_law 414 = .ok (.iconst 1, 1) := by decide +kernel
theorem dL_law_415 : decode cL_law 415 = .ok (.iadd, 1) := by decide +kernel
theorem dL_law_416 : decode cL_law 416 = .ok (.iaload, 1) := by decide +kernel
theorem dL_law_417 : decode cL_law 417 = .ok (.aload_n 0, 1) := by decide +kernel
theorem dL_law_418 : decode cL_law 418 = .ok (.iload_n 3, 1) := by decide +kernel
theorem dL_law_419 : decode cL_law 419 = .ok (.iconst 2, 1) := by decide +kernel
theorem dL_law_420 : decode cL_law 420 = .ok (.iadd, 1) := by decide +kernel
theorem dL_law_421 : decode cL_law 421 = .ok (.iaload, 1) := by decide +kernel
theorem dL_law_422 : decode cL_law 422 = .ok (.invokevirtual 62, 3) := by decide +kernel
theorem dL_law_425 : decode cL_law 425 = .ok (.aload_n 2, 1) := by decide +kernel
theorem dL_law_426 : decode cL_law 426 = .ok (.aload_n 0, 1) := by decide +kernel
theorem dL_law_427 : decode cL_law 427 = .ok (.iload_n 3, 1) := by decide +kernel
theorem dL_law_428 : decode cL_law 428 = .ok (.iconst 1, 1) := by decide +kernel
theorem dL_law_429 : decode cL_law 429 = .ok (.iadd, 1) := by decide +kernel
theorem dL_law_430 : decode cL_law 430 = .ok (.iaload, 1) := by decide +kernel
theorem dL_law_431 : decode cL_law 431 = .ok (.aload_n 0, 1) := by decide +kernel
theorem dL_law_432 : decode cL_law 432 = .ok (.iload_n 3, 1) := by decide +kernel
theorem dL_law_433 : decode cL_law 433 = .ok (.iconst 2, 1) := by decide +kernel
theorem dL_law_434 : decode cL_law 434 = .ok (.iadd, 1) := by decide +kernel
theorem dL_law_435 : decode cL_law 435 = .ok (.iaload, 1) := by decide +kernel
theorem dL_law_436 : decode cL_law 436 = .ok (.invokevirtual 65, 3) := by decide +kernel
theorem dL_law_439 : decode cL_law 439 = .ok (.if_icmp .eq 84, 3) := by decide +kernel
theorem dL_law_442 : decode cL_law 442 = .ok (.iconst 0, 1) := by decide +kernel
theorem dL_law_443 : decode cL_law 443 = .ok (.ireturn, 1) := by decide +kernel
theorem dL_law_444 : decode cL_law 444 = .ok (.aload_n 1, 1) := by decide +kernel
theorem dL_law_445 : decode cL_law 445 = .ok (.aload_n 0, 1) := by decide +kernel
theorem dL_law_446 : decode cL_law 446 = .ok (.iload_n 3, 1) := by decide +kernel
theorem dL_law_447 : decode cL_law 447 = .ok (.iconst 1, 1) := by decide +kernel
theorem dL_law_448 : decode cL_law 448 = .ok (.iadd, 1) := by decide +kernel
theorem dL_law_449 : decode cL_law 449 = .ok (.iaload, 1) := by decide +kernel
theorem dL_law_450 : decode cL_law 450 = .ok (.aload_n 0, 1) := by decide +kernel
theorem dL_law_451 : decode cL_law 451 = .ok (.iload_n 3, 1) := by decide +kernel
theorem dL_law_452 : decode cL_law 452 = .ok (.iconst 2, 1) := by decide +kernel
theorem dL_law_453 : decode cL_law 453 = .ok (.iadd, 1) := by decide +kernel
theorem dL_law_454 : decode cL_law 454 = .ok (.iaload, 1) := by decide +kernel
theorem dL_law_455 : decode cL_law 455 = .ok (.invokevirtual 66, 3) := by decide +kernel
theorem dL_law_458 : decode cL_law 458 = .ok (.aload_n 2, 1) := by decide +kernel
theorem dL_law_459 : decode cL_law 459 = .ok (.aload_n 0, 1) := by decide +kernel
theorem dL_law_460 : decode cL_law 460 = .ok (.iload_n 3, 1) := by decide +kernel
theorem dL_law_461 : decode cL_law 461 = .ok (.iconst 1, 1) := by decide +kernel
theorem dL_law_462 : decode cL_law 462 = .ok (.iadd, 1) := by decide +kernel
theorem dL_law_463 : decode cL_law 463 = .ok (.iaload, 1) := by decide +kernel
theorem dL_law_464 : decode cL_law 464 = .ok (.aload_n 0, 1) := by decide +kernel
theorem dL_law_465 : decode cL_law 465 = .ok (.iload_n 3, 1) := by decide +kernel
theorem dL_law_466 : decode cL_law 466 = .ok (.iconst 2, 1) := by decide +kernel
theorem dL_law_467 : decode cL_law 467 = .ok (.iadd, 1) := by decide +kernel
theorem dL_law_468 : decode cL_law 468 = .ok (.iaload, 1) := by decide +kernel
theorem dL_law_469 : decode cL_law 469 = .ok (.invokevirtual 69, 3) := by decide +kernel
theorem dL_law_472 : decode cL_law 472 = .ok (.if_icmp .eq 51, 3) := by decide +kernel
theorem dL_law_475 : decode cL_law 475 = .ok (.iconst 0, 1) := by decide +kernel
theorem dL_law_476 : decode cL_law 476 = .ok (.ireturn, 1) := by decide +kernel
theorem dL_law_477 : decode cL_law 477 = .ok (.aload_n 1, 1) := by decide +kernel
theorem dL_law_478 : decode cL_law 478 = .ok (.aload_n 0, 1) := by decide +kernel
theorem dL_law_479 : decode cL_law 479 = .ok (.iload_n 3, 1) := by decide +kernel
theorem dL_law_480 : decode cL_law 480 = .ok (.iconst 1, 1) := by decide +kernel
theorem dL_law_481 : decode cL_law 481 = .ok (.iadd, 1) := by decide +kernel
theorem dL_law_482 : decode cL_law 482 = .ok (.iaload, 1) := by decide +kernel
theorem dL_law_483 : decode cL_law 483 = .ok (.invokevirtual 70, 3) := by decide +kernel
theorem dL_law_486 : decode cL_law 486 = .ok (.aload_n 2, 1) := by decide +kernel
theorem dL_law_487 : decode cL_law 487 = .ok (.aload_n 0, 1) := by decide +kernel
theorem dL_law_488 : decode cL_law 488 = .ok (.iload_n 3, 1) := by decide +kernel
theorem dL_law_489 : decode cL_law 489 = .ok (.iconst 1, 1) := by decide +kernel
theorem dL_law_490 : decode cL_law 490 = .ok (.iadd, 1) := by decide +kernel
theorem dL_law_491 : decode cL_law 491 = .ok (.iaload, 1) := by decide +kernel
theorem dL_law_492 : decode cL_law 492 = .ok (.invokevirtual 73, 3) := by decide +kernel
theorem dL_law_495 : decode cL_law 495 = .ok (.if_icmp .eq 28, 3) := by decide +kernel
theorem dL_law_498 : decode cL_law 498 = .ok (.iconst 0, 1) := by decide +kernel
theorem dL_law_499 : decode cL_law 499 = .ok (.ireturn, 1) := by decide +kernel
theorem dL_law_500 : decode cL_law 500 = .ok (.aload_n 1, 1) := by decide +kernel
theorem dL_law_501 : decode cL_law 501 = .ok (.aload_n 0, 1) := by decide +kernel
theorem dL_law_502 : decode cL_law 502 = .ok (.iload_n 3, 1) := by decide +kernel
theorem dL_law_503 : decode cL_law 503 = .ok (.iconst 1, 1) := by decide +kernel
theorem dL_law_504 : decode cL_law 504 = .ok (.iadd, 1) := by decide +kernel
theorem dL_law_505 : decode cL_law 505 = .ok (.iaload, 1) := by decide +kernel
theorem dL_law_506 : decode cL_law 506 = .ok (.invokevirtual 74, 3) := by decide +kernel
theorem dL_law_509 : decode cL_law 509 = .ok (.aload_n 2, 1) := by decide +kernel
theorem dL_law_510 : decode cL_law 510 = .ok (.aload_n 0, 1) := by decide +kernel
theorem dL_law_511 : decode cL_law 511 = .ok (.iload_n 3, 1) := by decide +kernel
theorem dL_law_512 : decode cL_law 512 = .ok (.iconst 1, 1) := by decide +kernel
theorem dL_law_513 : decode cL_law 513 = .ok (.iadd, 1) := by decide +kernel
theorem dL_law_514 : decode cL_law 514 = .ok (.iaload, 1) := by decide +kernel
theorem dL_law_515 : decode cL_law 515 = .ok (.invokevirtual 77, 3) := by decide +kernel
theorem dL_law_518 : decode cL_law 518 = .ok (.if_icmp .eq 5, 3) := by decide +kernel
theorem dL_law_521 : decode cL_law 521 = .ok (.iconst 0, 1) := by decide +kernel
theorem dL_law_522 : decode cL_law 522 = .ok (.ireturn, 1) := by decide +kernel
theorem dL_law_523 : decode cL_law 523 = .ok (.iinc 3 5, 3) := by decide +kernel
theorem dL_law_526 : decode cL_law 526 = .ok (.goto (-508), 3) := by decide +kernel
theorem dL_law_529 : decode cL_law 529 = .ok (.iconst 1, 1) := by decide +kernel
theorem dL_law_530 : decode cL_law 530 = .ok (.ireturn, 1) := by decide +kernel
end
section
theorem dX0_init_0 : decode cX0_init 0 = .ok (.aload_n 0, 1) := by decide +kernel
theorem dX0_init_1 : decode cX0_init 1 = .ok (.invokespecial 3, 3) := by decide +kernel
theorem dX0_init_4 : decode cX0_init 4 = .ok (.aload_n 0, 1) := by decide +kernel
theorem dX0_init_5 : decode cX0_init 5 = .ok (.bipush 9, 2) := by decide +kernel
theorem dX0_init_7 : decode cX0_init 7 = .ok (.bipush 9, 2) := by decide +kernel
theorem dX0_init_9 : decode cX0_init 9 = .ok (.multianewarray 9 2, 4) := by decide +kernel
theorem dX0_init_13 : decode cX0_init 13 = .ok (.putfield 11, 3) := by decide +kernel
theorem dX0_init_16 : decode cX0_init 16 = .ok (.aload_n 0, 1) := by decide +kernel
theorem dX0_init_17 : decode cX0_init 17 = .ok (.bipush 9, 2) := by decide +kernel
theorem dX0_init_19 : decode cX0_init 19 = .ok (.newarray .long, 2) := by decide +kernel
theorem dX0_init_21 : decode cX0_init 21 = .ok (.putfield 16, 3) := by decide +kernel
theorem dX0_init_24 : decode cX0_init 24 = .ok (.aload_n 0, 1) := by decide +kernel
theorem dX0_init_25 : decode cX0_init 25 = .ok (.bipush 81, 2) := by decide +kernel
theorem dX0_init_27 : decode cX0_init 27 = .ok (.bipush 9, 2) := by decide +kernel
theorem dX0_init_29 : decode cX0_init 29 = .ok (.multianewarray 9 2, 4) := by decide +kernel
theorem dX0_init_33 : decode cX0_init 33 = .ok (.putfield 20, 3) := by decide +kernel
theorem dX0_init_36 : decode cX0_init 36 = .ok (.aload_n 0, 1) := by decide +kernel
theorem dX0_init_37 : decode cX0_init 37 = .ok (.bipush 9, 2) := by decide +kernel
theorem dX0_init_39 : decode cX0_init 39 = .ok (.newarray .int, 2) := by decide +kernel
theorem dX0_init_41 : decode cX0_init 41 = .ok (.putfield 23, 3) := by decide +kernel
theorem dX0_init_44 : decode cX0_init 44 = .ok (.return_, 1) := by decide +kernel
theorem dX0_find_0 : decode cX0_find 0 = .ok (.aload_n 1, 1) := by decide +kernel
theorem dX0_find_1 : decode cX0_find 1 = .ok (.getfield 27, 3) := by decide +kernel
theorem dX0_find_4 : decode cX0_find 4 = .ok (.ldc2_w 32, 3) := by decide +kernel
theorem dX0_find_7 : decode cX0_find 7 = .ok (.invokestatic 34, 3) := by decide +kernel
theorem dX0_find_10 : decode cX0_find 10 = .ok (.iconst 0, 1) := by decide +kernel
theorem dX0_find_11 : decode cX0_find 11 = .ok (.istore_n 2, 1) := by decide +kernel
theorem dX0_find_12 : decode cX0_find 12 = .ok (.iload_n 2, 1) := by decide +kernel
theorem dX0_find_13 : decode cX0_find 13 = .ok (.aload_n 1, 1) := by decide +kernel
theorem dX0_find_14 : decode cX0_find 14 = .ok (.getfield 40, 3) := by decide +kernel
theorem dX0_find_17 : decode cX0_find 17 = .ok (.if_icmp .ge 35, 3) := by decide +kernel
theorem dX0_find_20 : decode cX0_find 20 = .ok (.aload_n 0, 1) := by decide +kernel
theorem dX0_find_21 : decode cX0_find 21 = .ok (.getfield 11, 3) := by decide +kernel
theorem dX0_find_24 : decode cX0_find 24 = .ok (.iconst 0, 1) := by decide +kernel
theorem dX0_find_25 : decode cX0_find 25 = .ok (.aaload, 1) := by decide +kernel
theorem dX0_find_26 : decode cX0_find 26 = .ok (.iload_n 2, 1) := by decide +kernel
theorem dX0_find_27 : decode cX0_find 27 = .ok (.aload_n 1, 1) := by decide +kernel
theorem dX0_find_28 : decode cX0_find 28 = .ok (.getfield 44, 3) := by decide +kernel
theorem dX0_find_31 : decode cX0_find 31 = .ok (.iload_n 2, 1) := by decide +kernel
theorem dX0_find_32 : decode cX0_find 32 = .ok (.iaload, 1) := by decide +kernel
theorem dX0_find_33 : decode cX0_find 33 = .ok (.i2l, 1) := by decide +kernel
theorem dX0_find_34 : decode cX0_find 34 = .ok (.lastore, 1) := by decide +kernel
theorem dX0_find_35 : decode cX0_find 35 = .ok (.aload_n 0, 1) := by decide +kernel
theorem dX0_find_36 : decode cX0_find 36 = .ok (.getfield 23, 3) := by decide +kernel
theorem dX0_find_39 : decode cX0_find 39 = .ok (.iload_n 2, 1) := by decide +kernel
theorem dX0_find_40 : decode cX0_find 40 = .ok (.aload_n 1, 1) := by decide +kernel
theorem dX0_find_41 : decode cX0_find 41 = .ok (.iload_n 2, 1) := by decide +kernel
theorem dX0_find_42 : decode cX0_find 42 = .ok (.invokestatic 47, 3) := by decide +kernel
theorem dX0_find_45 : decode cX0_find 45 = .ok (.iastore, 1) := by decide +kernel
theorem dX0_find_46 : decode cX0_find 46 = .ok (.iinc 2 1, 3) := by decide +kernel
theorem dX0_find_49 : decode cX0_find 49 = .ok (.goto (-37), 3) := by decide +kernel
theorem dX0_find_52 : decode cX0_find 52 = .ok (.aload_n 0, 1) := by decide +kernel
theorem dX0_find_53 : decode cX0_find 53 = .ok (.aload_n 1, 1) := by decide +kernel
theorem dX0_find_54 : decode cX0_find 54 = .ok (.iconst 0, 1) := by decide +kernel
theorem dX0_find_55 : decode cX0_find 55 = .ok (.iconst 0, 1) := by decide +kernel
theorem dX0_find_56 : decode cX0_find 56 = .ok (.invokevirtual 51, 3) := by decide +kernel
theorem dX0_find_59 : decode cX0_find 59 = .ok (.return_, 1) := by decide +kernel
theorem dX0_lesserLikes_0 : decode cX0_lesserLikes 0 = .ok (.iconst 0, 1) := by decide +kernel
theorem dX0_lesserLikes_1 : decode cX0_lesserLikes 1 = .ok (.istore_n 2, 1) := by decide +kernel
theorem dX0_lesserLikes_2 : decode cX0_lesserLikes 2 = .ok (.iconst 0, 1) := by decide +kernel
theorem dX0_lesserLikes_3 : decode cX0_lesserLikes 3 = .ok (.istore_n 3, 1) := by decide +kernel
theorem dX0_lesserLikes_4 : decode cX0_lesserLikes 4 = .ok (.iload_n 3, 1) := by decide +kernel
theorem dX0_lesserLikes_5 : decode cX0_lesserLikes 5 = .ok (.iload_n 1, 1) := by decide +kernel
theorem dX0_lesserLikes_6 : decode cX0_lesserLikes 6 = .ok (.if_icmp .ge 24, 3) := by decide +kernel
theorem dX0_lesserLikes_9 : decode cX0_lesserLikes 9 = .ok (.aload_n 0, 1) := by decide +kernel
theorem dX0_lesserLikes_10 : decode cX0_lesserLikes 10 = .ok (.iload_n 3, 1) := by decide +kernel
theorem dX0_lesserLikes_11 : decode cX0_lesserLikes 11 = .ok (.iload_n 1, 1) := by decide +kernel
theorem dX0_lesserLikes_12 : decode cX0_lesserLikes 12 = .ok (.invokevirtual 55, 3) := by decide +kernel
theorem dX0_lesserLikes_15 : decode cX0_lesserLikes 15 = .ok (.ifCond .eq 9, 3) := by decide +kernel
theorem dX0_lesserLikes_18 : decode cX0_lesserLikes 18 = .ok (.iload_n 2, 1) := by decide +kernel
theorem dX0_lesserLikes_19 : decode cX0_lesserLikes 19 = .ok (.iconst 1, 1) := by decide +kernel
theorem dX0_lesserLikes_20 : decode cX0_lesserLikes 20 = .ok (.iload_n 3, 1) := by decide +kernel
theorem dX0_lesserLikes_21 : decode cX0_lesserLikes 21 = .ok (.ishl, 1) := by decide +kernel
theorem dX0_lesserLikes_22 : decode cX0_lesserLikes 22 = .ok (.ior, 1) := by decide +kernel
theorem dX0_lesserLikes_23 : decode cX0_lesserLikes 23 = .ok (.istore_n 2, 1) := by decide +kernel
theorem dX0_lesserLikes_24 : decode cX0_lesserLikes 24 = .ok (.iinc 3 1, 3) := by decide +kernel
theorem dX0_lesserLikes_27 : decode cX0_lesserLikes 27 = .ok (.goto (-23), 3) := by decide +kernel
theorem dX0_lesserLikes_30 : decode cX0_lesserLikes 30 = .ok (.iload_n 2, 1) := by decide +kernel
theorem dX0_lesserLikes_31 : decode cX0_lesserLikes 31 = .ok (.ireturn, 1) := by decide +kernel
theorem dX0_write_0 : decode cX0_write 0 = .ok (.iload_n 2, 1) := by decide +kernel
theorem dX0_write_1 : decode cX0_write 1 = .ok (.aload_n 1, 1) := by decide +kernel
theorem dX0_write_2 : decode cX0_write 2 = .ok (.getfield 40, 3) := by decide +kernel
theorem dX0_write_5 : decode cX0_write 5 = .ok (.if_icmp .lt 4, 3) := by decide +kernel
theorem dX0_write_8 : decode cX0_write 8 = .ok (.return_, 1) := by decide +kernel
theorem dX0_write_9 : decode cX0_write 9 = .ok (.aload_n 0, 1) := by decide +kernel
theorem dX0_write_10 : decode cX0_write 10 = .ok (.aload_n 1, 1) := by decide +kernel
theorem dX0_write_11 : decode cX0_write 11 = .ok (.iload_n 2, 1) := by decide +kernel
theorem dX0_write_12 : decode cX0_write 12 = .ok (.iload_n 3, 1) := by decide +kernel
theorem dX0_write_13 : decode cX0_write 13 = .ok (.invokevirtual 59, 3) := by decide +kernel
theorem dX0_write_16 : decode cX0_write 16 = .ok (.istore 4, 2) := by decide +kernel
theorem dX0_write_18 : decode cX0_write 18 = .ok (.iconst 0, 1) := by decide +kernel
theorem dX0_write_19 : decode cX0_write 19 = .ok (.istore 5, 2) := by decide +kernel
theorem dX0_write_21 : decode cX0_write 21 = .ok (.iload 5, 2) := by decide +kernel
theorem dX0_write_23 : decode cX0_write 23 = .ok (.aload_n 1, 1) := by decide +kernel
theorem dX0_write_24 : decode cX0_write 24 = .ok (.getfield 40, 3) := by decide +kernel
theorem dX0_write_27 : decode cX0_write 27 = .ok (.if_icmp .ge 29, 3) := by decide +kernel
theorem dX0_write_30 : decode cX0_write 30 = .ok (.iload 4, 2) := by decide +kernel
theorem dX0_write_32 : decode cX0_write 32 = .ok (.iload 5, 2) := by decide +kernel
theorem dX0_write_34 : decode cX0_write 34 = .ok (.ishr, 1) := by decide +kernel
theorem dX0_write_35 : decode cX0_write 35 = .ok (.iconst 1, 1) := by decide +kernel
theorem dX0_write_36 : decode cX0_write 36 = .ok (.iand, 1) := by decide +kernel
theorem dX0_write_37 : decode cX0_write 37 = .ok (.iconst 1, 1) := by decide +kernel
theorem dX0_write_38 : decode cX0_write 38 = .ok (.if_icmp .ne 12, 3) := by decide +kernel
theorem dX0_write_41 : decode cX0_write 41 = .ok (.aload_n 0, 1) := by decide +kernel
theorem dX0_write_42 : decode cX0_write 42 = .ok (.aload_n 1, 1) := by decide +kernel
theorem dX0_write_43 : decode cX0_write 43 = .ok (.iload_n 2, 1) := by decide +kernel
theorem dX0_write_44 : decode cX0_write 44 = .ok (.iload_n 3, 1) := by decide +kernel
theorem dX0_write_45 : decode cX0_write 45 = .ok (.iload 5, 2) := by decide +kernel
theorem dX0_write_47 : decode cX0_write 47 = .ok (.invokevirtual 63, 3) := by decide +kernel
theorem dX0_write_50 : decode cX0_write 50 = .ok (.iinc 5 1, 3) := by decide +kernel
theorem dX0_write_53 : decode cX0_write 53 = .ok (.goto (-32), 3) := by decide +kernel
theorem dX0_write_56 : decode cX0_write 56 = .ok (.iconst 0, 1) := by decide +kernel
theorem dX0_write_57 : decode cX0_write 57 = .ok (.istore 5, 2) := by decide +kernel
theorem dX0_write_59 : decode cX0_write 59 = .ok (.iload 5, 2) := by decide +kernel
theorem dX0_write_61 : decode cX0_write 61 = .ok (.aload_n 1, 1) := by decide +kernel
theorem dX0_write_62 : decode cX0_write 62 = .ok (.getfield 40, 3) := by decide +kernel
theorem dX0_write_65 : decode cX0_write 65 = .ok (.if_icmp .ge 59, 3) := by decide +kernel
theorem dX0_write_68 : decode cX0_write 68 = .ok (.aload_n 0, 1) := by decide +kernel
theorem dX0_write_69 : decode cX0_write 69 = .ok (.aload_n 1, 1) := by decide +kernel
theorem dX0_write_70 : decode cX0_write 70 = .ok (.getfield 40, 3) := by decide +kernel
theorem dX0_write_73 : decode cX0_write 73 = .ok (.iload_n 2, 1) := by decide +kernel
theorem dX0_write_74 : decode cX0_write 74 = .ok (.iload 4, 2) := by decide +kernel
theorem dX0_write_76 : decode cX0_write 76 = .ok (.invokevirtual 67, 3) := by decide +kernel
theorem dX0_write_79 : decode cX0_write 79 = .ok (.istore 6, 2) := by decide +kernel
theorem dX0_write_81 : decode cX0_write 81 = .ok (.iload 6, 2) := by decide +kernel
theorem dX0_write_83 : decode cX0_write 83 = .ok (.ifCond .lt 14, 3) := by decide +kernel
theorem dX0_write_86 : decode cX0_write 86 = .ok (.aload_n 0, 1) := by decide +kernel
theorem dX0_write_87 : decode cX0_write 87 = .ok (.aload_n 1, 1) := by decide +kernel
theorem dX0_write_88 : decode cX0_write 88 = .ok (.iload_n 2, 1) := by decide +kernel
theorem dX0_write_89 : decode cX0_write 89 = .ok (.iload 6, 2) := by decide +kernel
theorem dX0_write_91 : decode cX0_write 91 = .ok (.invokevirtual 71, 3) := by decide +kernel
theorem dX0_write_94 : decode cX0_write 94 = .ok (.ifCond .ne 4, 3) := by decide +kernel
theorem dX0_write_97 : decode cX0_write 97 = .ok (.return_, 1) := by decide +kernel
theorem dX0_write_98 : decode cX0_write 98 = .ok (.iload 4, 2) := by decide +kernel
theorem dX0_write_100 : decode cX0_write 100 = .ok (.iconst 1, 1) := by decide +kernel
theorem dX0_write_101 : decode cX0_write 101 = .ok (.iload 6, 2) := by decide +kernel
theorem dX0_write_103 : decode cX0_write 103 = .ok (.ishl, 1) := by decide +kernel
theorem dX0_write_104 : decode cX0_write 104 = .ok (.iconst (-1), 1) := by decide +kernel
theorem dX0_write_105 : decode cX0_write 105 = .ok (.ixor, 1) := by decide +kernel
theorem dX0_write_106 : decode cX0_write 106 = .ok (.iand, 1) := by decide +kernel
theorem dX0_write_107 : decode cX0_write 107 = .ok (.istore 4, 2) := by decide +kernel
theorem dX0_write_109 : decode cX0_write 109 = .ok (.aload_n 0, 1) := by decide +kernel
theorem dX0_write_110 : decode cX0_write 110 = .ok (.aload_n 1, 1) := by decide +kernel
theorem dX0_write_111 : decode cX0_write 111 = .ok (.iload_n 2, 1) := by decide +kernel
theorem dX0_write_112 : decode cX0_write 112 = .ok (.iload_n 3, 1) := by decide +kernel
theorem dX0_write_113 : decode cX0_write 113 = .ok (.iload 6, 2) := by decide +kernel
theorem dX0_write_115 : decode cX0_write 115 = .ok (.invokevirtual 75, 3) := by decide +kernel
theorem dX0_write_118 : decode cX0_write 118 = .ok (.iinc 5 1, 3) := by decide +kernel
theorem dX0_write_121 : decode cX0_write 121 = .ok (.goto (-62), 3) := by decide +kernel
theorem dX0_write_124 : decode cX0_write 124 = .ok (.return_, 1) := by decide +kernel
theorem dX0_candidates_0 : decode cX0_candidates 0 = .ok (.ldc2_w 32, 3) := by decide +kernel
theorem dX0_candidates_3 : decode cX0_candidates 3 = .ok (.lstore 4, 2) := by decide +kernel
theorem dX0_candidates_5 : decode cX0_candidates 5 = .ok (.iconst 0, 1) := by decide +kernel
theorem dX0_candidates_6 : decode cX0_candidates 6 = .ok (.istore 6, 2) := by decide +kernel
theorem dX0_candidates_8 : decode cX0_candidates 8 = .ok (.iconst 0, 1) := by decide +kernel
theorem dX0_candidates_9 : decode cX0_candidates 9 = .ok (.istore 7, 2) := by decide +kernel
theorem dX0_candidates_11 : decode cX0_candidates 11 = .ok (.iload 7, 2) := by decide +kernel
theorem dX0_candidates_13 : decode cX0_candidates 13 = .ok (.aload_n 1, 1) := by decide +kernel
theorem dX0_candidates_14 : decode cX0_candidates 14 = .ok (.getfield 40, 3) := by decide +kernel
theorem dX0_candidates_17 : decode cX0_candidates 17 = .ok (.if_icmp .ge 85, 3) := by decide +kernel
theorem dX0_candidates_20 : decode cX0_candidates 20 = .ok (.iload_n 3, 1) := by decide +kernel
theorem dX0_candidates_21 : decode cX0_candidates 21 = .ok (.iload 7, 2) := by decide +kernel
theorem dX0_candidates_23 : decode cX0_candidates 23 = .ok (.ishr, 1) := by decide +kernel
theorem dX0_candidates_24 : decode cX0_candidates 24 = .ok (.iconst 1, 1) := by decide +kernel
theorem dX0_candidates_25 : decode cX0_candidates 25 = .ok (.iand, 1) := by decide +kernel
theorem dX0_candidates_26 : decode cX0_candidates 26 = .ok (.ifCond .ne 70, 3) := by decide +kernel
theorem dX0_candidates_29 : decode cX0_candidates 29 = .ok (.aload_n 0, 1) := by decide +kernel
theorem dX0_candidates_30 : decode cX0_candidates 30 = .ok (.getfield 23, 3) := by decide +kernel
theorem dX0_candidates_33 : decode cX0_candidates 33 = .ok (.iload 7, 2) := by decide +kernel
theorem dX0_candidates_35 : decode cX0_candidates 35 = .ok (.iaload, 1) := by decide +kernel
theorem dX0_candidates_36 : decode cX0_candidates 36 = .ok (.iload_n 3, 1) := by decide +kernel
theorem dX0_candidates_37 : decode cX0_candidates 37 = .ok (.iconst (-1), 1) := by decide +kernel
theorem dX0_candidates_38 : decode cX0_candidates 38 = .ok (.ixor, 1) := by decide +kernel
theorem dX0_candidates_39 : decode cX0_candidates 39 = .ok (.iand, 1) := by decide +kernel
theorem dX0_candidates_40 : decode cX0_candidates 40 = .ok (.ifCond .ne 56, 3) := by decide +kernel
theorem dX0_candidates_43 : decode cX0_candidates 43 = .ok (.aload_n 0, 1) := by decide +kernel
theorem dX0_candidates_44 : decode cX0_candidates 44 = .ok (.getfield 11, 3) := by decide +kernel
theorem dX0_candidates_47 : decode cX0_candidates 47 = .ok (.iload_n 2, 1) := by decide +kernel
theorem dX0_candidates_48 : decode cX0_candidates 48 = .ok (.aaload, 1) := by decide +kernel
theorem dX0_candidates_49 : decode cX0_candidates 49 = .ok (.iload 7, 2) := by decide +kernel
theorem dX0_candidates_51 : decode cX0_candidates 51 = .ok (.laload, 1) := by decide +kernel
theorem dX0_candidates_52 : decode cX0_candidates 52 = .ok (.lload 4, 2) := by decide +kernel
theorem dX0_candidates_54 : decode cX0_candidates 54 = .ok (.lcmp, 1) := by decide +kernel
theorem dX0_candidates_55 : decode cX0_candidates 55 = .ok (.ifCond .gt 41, 3) := by decide +kernel
theorem dX0_candidates_58 : decode cX0_candidates 58 = .ok (.aload_n 0, 1) := by decide +kernel
theorem dX0_candidates_59 : decode cX0_candidates 59 = .ok (.getfield 11, 3) := by decide +kernel
theorem dX0_candidates_62 : decode cX0_candidates 62 = .ok (.iload_n 2, 1) := by decide +kernel
theorem dX0_candidates_63 : decode cX0_candidates 63 = .ok (.aaload, 1) := by decide +kernel
theorem dX0_candidates_64 : decode cX0_candidates 64 = .ok (.iload 7, 2) := by decide +kernel
theorem dX0_candidates_66 : decode cX0_candidates 66 = .ok (.laload, 1) := by decide +kernel
theorem dX0_candidates_67 : decode cX0_candidates 67 = .ok (.lload 4, 2) := by decide +kernel
theorem dX0_candidates_69 : decode cX0_candidates 69 = .ok (.lcmp, 1) := by decide +kernel
theorem dX0_candidates_70 : decode cX0_candidates 70 = .ok (.ifCond .ge 17, 3) := by decide +kernel
theorem dX0_candidates_73 : decode cX0_candidates 73 = .ok (.iconst 0, 1) := by decide +kernel
theorem dX0_candidates_74 : decode cX0_candidates 74 = .ok (.istore 6, 2) := by decide +kernel
theorem dX0_candidates_76 : decode cX0_candidates 76 = .ok (.aload_n 0, 1) := by decide +kernel
theorem dX0_candidates_77 : decode cX0_candidates 77 = .ok (.getfield 11, 3) := by decide +kernel
theorem dX0_candidates_80 : decode cX0_candidates 80 = .ok (.iload_n 2, 1) := by decide +kernel
theorem dX0_candidates_81 : decode cX0_candidates 81 = .ok (.aaload, 1) := by decide +kernel
theorem dX0_candidates_82 : decode cX0_candidates 82 = .ok (.iload 7, 2) := by decide +kernel
theorem dX0_candidates_84 : decode cX0_candidates 84 = .ok (.laload, 1) := by decide +kernel
theorem dX0_candidates_85 : decode cX0_candidates 85 = .ok (.lstore 4, 2) := by decide +kernel
theorem dX0_candidates_87 : decode cX0_candidates 87 = .ok (.iload 6, 2) := by decide +kernel
theorem dX0_candidates_89 : decode cX0_candidates 89 = .ok (.iconst 1, 1) := by decide +kernel
theorem dX0_candidates_90 : decode cX0_candidates 90 = .ok (.iload 7, 2) := by decide +kernel
theorem dX0_candidates_92 : decode cX0_candidates 92 = .ok (.ishl, 1) := by decide +kernel
theorem dX0_candidates_93 : decode cX0_candidates 93 = .ok (.ior, 1) := by decide +kernel
theorem dX0_candidates_94 : decode cX0_candidates 94 = .ok (.istore 6, 2) := by decide +kernel
theorem dX0_candidates_96 : decode cX0_candidates 96 = .ok (.iinc 7 1, 3) := by decide +kernel
theorem dX0_candidates_99 : decode cX0_candidates 99 = .ok (.goto (-88), 3) := by decide +kernel
theorem dX0_candidates_102 : decode cX0_candidates 102 = .ok (.aload_n 0, 1) := by decide +kernel
theorem dX0_candidates_103 : decode cX0_candidates 103 = .ok (.getfield 16, 3) := by decide +kernel
theorem dX0_candidates_106 : decode cX0_candidates 106 = .ok (.iload_n 2, 1) := by decide +kernel
theorem dX0_candidates_107 : decode cX0_candidates 107 = .ok (.lload 4, 2) := by decide +kernel
theorem dX0_candidates_109 : decode cX0_candidates 109 = .ok (.lastore, 1) := by decide +kernel
theorem dX0_candidates_110 : decode cX0_candidates 110 = .ok (.iload 6, 2) := by decide +kernel
theorem dX0_candidates_112 : decode cX0_candidates 112 = .ok (.ireturn, 1) := by decide +kernel
theorem dX0_bound_0 : decode cX0_bound 0 = .ok (.aload_n 0, 1) := by decide +kernel
theorem dX0_bound_1 : decode cX0_bound 1 = .ok (.getfield 20, 3) := by decide +kernel
theorem dX0_bound_4 : decode cX0_bound 4 = .ok (.iload_n 2, 1) := by decide +kernel
theorem dX0_bound_5 : decode cX0_bound 5 = .ok (.bipush 9, 2) := by decide +kernel
theorem dX0_bound_7 : decode cX0_bound 7 = .ok (.imul, 1) := by decide +kernel
theorem dX0_bound_8 : decode cX0_bound 8 = .ok (.iload 4, 2) := by decide +kernel
theorem dX0_bound_10 : decode cX0_bound 10 = .ok (.iadd, 1) := by decide +kernel
theorem dX0_bound_11 : decode cX0_bound 11 = .ok (.aaload, 1) := by decide +kernel
theorem dX0_bound_12 : decode cX0_bound 12 = .ok (.astore 5, 2) := by decide +kernel
theorem dX0_bound_14 : decode cX0_bound 14 = .ok (.aload_n 0, 1) := by decide +kernel
theorem dX0_bound_15 : decode cX0_bound 15 = .ok (.getfield 16, 3) := by decide +kernel
theorem dX0_bound_18 : decode cX0_bound 18 = .ok (.iconst 0, 1) := by decide +kernel
theorem dX0_bound_19 : decode cX0_bound 19 = .ok (.aload 5, 2) := by decide +kernel
theorem dX0_bound_21 : decode cX0_bound 21 = .ok (.iconst 0, 1) := by decide +kernel
theorem dX0_bound_22 : decode cX0_bound 22 = .ok (.iload_n 2, 1) := by decide +kernel
theorem dX0_bound_23 : decode cX0_bound 23 = .ok (.iconst 1, 1) := by decide +kernel
theorem dX0_bound_24 : decode cX0_bound 24 = .ok (.iadd, 1) := by decide +kernel
theorem dX0_bound_25 : decode cX0_bound 25 = .ok (.invokestatic 78, 3) := by decide +kernel
theorem dX0_bound_28 : decode cX0_bound 28 = .ok (.iload_n 2, 1) := by decide +kernel
theorem dX0_bound_29 : decode cX0_bound 29 = .ok (.iconst 1, 1) := by decide +kernel
theorem dX0_bound_30 : decode cX0_bound 30 = .ok (.iadd, 1) := by decide +kernel
theorem dX0_bound_31 : decode cX0_bound 31 = .ok (.istore 6, 2) := by decide +kernel
theorem dX0_bound_33 : decode cX0_bound 33 = .ok (.iconst 0, 1) := by decide +kernel
theorem dX0_bound_34 : decode cX0_bound 34 = .ok (.istore 7, 2) := by decide +kernel
theorem dX0_bound_36 : decode cX0_bound 36 = .ok (.iload 7, 2) := by decide +kernel
theorem dX0_bound_38 : decode cX0_bound 38 = .ok (.aload_n 1, 1) := by decide +kernel
theorem dX0_bound_39 : decode cX0_bound 39 = .ok (.getfield 40, 3) := by decide +kernel
theorem dX0_bound_42 : decode cX0_bound 42 = .ok (.if_icmp .ge 90, 3) := by decide +kernel
theorem dX0_bound_45 : decode cX0_bound 45 = .ok (.iload 7, 2) := by decide +kernel
theorem dX0_bound_47 : decode cX0_bound 47 = .ok (.iload 4, 2) := by decide +kernel
theorem dX0_bound_49 : decode cX0_bound 49 = .ok (.if_icmp .eq 77, 3) := by decide +kernel
theorem dX0_bound_52 : decode cX0_bound 52 = .ok (.iload_n 3, 1) := by decide +kernel
theorem dX0_bound_53 : decode cX0_bound 53 = .ok (.iload 7, 2) := by decide +kernel
theorem dX0_bound_55 : decode cX0_bound 55 = .ok (.ishr, 1) := by decide +kernel
theorem dX0_bound_56 : decode cX0_bound 56 = .ok (.iconst 1, 1) := by decide +kernel
theorem dX0_bound_57 : decode cX0_bound 57 = .ok (.iand, 1) := by decide +kernel
theorem dX0_bound_58 : decode cX0_bound 58 = .ok (.ifCond .ne 68, 3) := by decide +kernel
theorem dX0_bound_61 : decode cX0_bound 61 = .ok (.aload_n 0, 1) := by decide +kernel
theorem dX0_bound_62 : decode cX0_bound 62 = .ok (.aload_n 1, 1) := by decide +kernel
theorem dX0_bound_63 : decode cX0_bound 63 = .ok (.iload_n 2, 1) := by decide +kernel
theorem dX0_bound_64 : decode cX0_bound 64 = .ok (.iload 7, 2) := by decide +kernel
theorem dX0_bound_66 : decode cX0_bound 66 = .ok (.iload 4, 2) := by decide +kernel
theorem dX0_bound_68 : decode cX0_bound 68 = .ok (.invokevirtual 84, 3) := by decide +kernel
theorem dX0_bound_71 : decode cX0_bound 71 = .ok (.lstore 8, 2) := by decide +kernel
theorem dX0_bound_73 : decode cX0_bound 73 = .ok (.iload 6, 2) := by decide +kernel
theorem dX0_bound_75 : decode cX0_bound 75 = .ok (.istore 10, 2) := by decide +kernel
theorem dX0_bound_77 : decode cX0_bound 77 = .ok (.iload 10, 2) := by decide +kernel
theorem dX0_bound_79 : decode cX0_bound 79 = .ok (.iload_n 2, 1) := by decide +kernel
theorem dX0_bound_80 : decode cX0_bound 80 = .ok (.iconst 1, 1) := by decide +kernel
theorem dX0_bound_81 : decode cX0_bound 81 = .ok (.iadd, 1) := by decide +kernel
theorem dX0_bound_82 : decode cX0_bound 82 = .ok (.if_icmp .le 34, 3) := by decide +kernel
theorem dX0_bound_85 : decode cX0_bound 85 = .ok (.aload 5, 2) := by decide +kernel
theorem dX0_bound_87 : decode cX0_bound 87 = .ok (.iload 10, 2) := by decide +kernel
theorem dX0_bound_89 : decode cX0_bound 89 = .ok (.iconst 1, 1) := by decide +kernel
theorem dX0_bound_90 : decode cX0_bound 90 = .ok (.isub, 1) := by decide +kernel
theorem dX0_bound_91 : decode cX0_bound 91 = .ok (.laload, 1) := by decide +kernel
theorem dX0_bound_92 : decode cX0_bound 92 = .ok (.lload 8, 2) := by decide +kernel
theorem dX0_bound_94 : decode cX0_bound 94 = .ok (.lcmp, 1) := by decide +kernel
theorem dX0_bound_95 : decode cX0_bound 95 = .ok (.ifCond .le 21, 3) := by decide +kernel
theorem dX0_bound_98 : decode cX0_bound 98 = .ok (.aload 5, 2) := by decide +kernel
theorem dX0_bound_100 : decode cX0_bound 100 = .ok (.iload 10, 2) := by decide +kernel
theorem dX0_bound_102 : decode cX0_bound 102 = .ok (.aload 5, 2) := by decide +kernel
theorem dX0_bound_104 : decode cX0_bound 104 = .ok (.iload 10, 2) := by decide +kernel
theorem dX0_bound_106 : decode cX0_bound 106 = .ok (.iconst 1, 1) := by decide +kernel
theorem dX0_bound_107 : decode cX0_bound 107 = .ok (.isub, 1) := by decide +kernel
theorem dX0_bound_108 : decode cX0_bound 108 = .ok (.laload, 1) := by decide +kernel
theorem dX0_bound_109 : decode cX0_bound 109 = .ok (.lastore, 1) := by decide +kernel
theorem dX0_bound_110 : decode cX0_bound 110 = .ok (.iinc 10 (-1), 3) := by decide +kernel
theorem dX0_bound_113 : decode cX0_bound 113 = .ok (.goto (-36), 3) := by decide +kernel
theorem dX0_bound_116 : decode cX0_bound 116 = .ok (.aload 5, 2) := by decide +kernel
theorem dX0_bound_118 : decode cX0_bound 118 = .ok (.iload 10, 2) := by decide +kernel
theorem dX0_bound_120 : decode cX0_bound 120 = .ok (.lload 8, 2) := by decide +kernel
theorem dX0_bound_122 : decode cX0_bound 122 = .ok (.lastore, 1) := by decide +kernel
theorem dX0_bound_123 : decode cX0_bound 123 = .ok (.iinc 6 1, 3) := by decide +kernel
theorem dX0_bound_126 : decode cX0_bound 126 = .ok (.iinc 7 1, 3) := by decide +kernel
theorem dX0_bound_129 : decode cX0_bound 129 = .ok (.goto (-93), 3) := by decide +kernel
theorem dX0_bound_132 : decode cX0_bound 132 = .ok (.iload_n 2, 1) := by decide +kernel
theorem dX0_bound_133 : decode cX0_bound 133 = .ok (.iconst 2, 1) := by decide +kernel
theorem dX0_bound_134 : decode cX0_bound 134 = .ok (.iadd, 1) := by decide +kernel
theorem dX0_bound_135 : decode cX0_bound 135 = .ok (.istore 7, 2) := by decide +kernel
theorem dX0_bound_137 : decode cX0_bound 137 = .ok (.iload 7, 2) := by decide +kernel
theorem dX0_bound_139 : decode cX0_bound 139 = .ok (.iload 6, 2) := by decide +kernel
theorem dX0_bound_141 : decode cX0_bound 141 = .ok (.if_icmp .ge 25, 3) := by decide +kernel
theorem dX0_bound_144 : decode cX0_bound 144 = .ok (.aload 5, 2) := by decide +kernel
theorem dX0_bound_146 : decode cX0_bound 146 = .ok (.iload 7, 2) := by decide +kernel
theorem dX0_bound_148 : decode cX0_bound 148 = .ok (.dup2, 1) := by decide +kernel
theorem dX0_bound_149 : decode cX0_bound 149 = .ok (.laload, 1) := by decide +kernel
theorem dX0_bound_150 : decode cX0_bound 150 = .ok (.iconst 4, 1) := by decide +kernel
theorem dX0_bound_151 : decode cX0_bound 151 = .ok (.iload 7, 2) := by decide +kernel
theorem dX0_bound_153 : decode cX0_bound 153 = .ok (.iload_n 2, 1) := by decide +kernel
theorem dX0_bound_154 : decode cX0_bound 154 = .ok (.isub, 1) := by decide +kernel
theorem dX0_bound_155 : decode cX0_bound 155 = .ok (.iconst 1, 1) := by decide +kernel
theorem dX0_bound_156 : decode cX0_bound 156 = .ok (.isub, 1) := by decide +kernel
theorem dX0_bound_157 : decode cX0_bound 157 = .ok (.imul, 1) := by decide +kernel
theorem dX0_bound_158 : decode cX0_bound 158 = .ok (.lshl, 1) := by decide +kernel
theorem dX0_bound_159 : decode cX0_bound 159 = .ok (.lastore, 1) := by decide +kernel
theorem dX0_bound_160 : decode cX0_bound 160 = .ok (.iinc 7 1, 3) := by decide +kernel
theorem dX0_bound_163 : decode cX0_bound 163 = .ok (.goto (-26), 3) := by decide +kernel
theorem dX0_bound_166 : decode cX0_bound 166 = .ok (.return_, 1) := by decide +kernel
theorem dX0_longerRow_0 : decode cX0_longerRow 0 = .ok (.aload_n 0, 1) := by decide +kernel
theorem dX0_longerRow_1 : decode cX0_longerRow 1 = .ok (.getfield 11, 3) := by decide +kernel
theorem dX0_longerRow_4 : decode cX0_longerRow 4 = .ok (.iload_n 2, 1) := by decide +kernel
theorem dX0_longerRow_5 : decode cX0_longerRow 5 = .ok (.aaload, 1) := by decide +kernel
theorem dX0_longerRow_6 : decode cX0_longerRow 6 = .ok (.iload_n 3, 1) := by decide +kernel
theorem dX0_longerRow_7 : decode cX0_longerRow 7 = .ok (.laload, 1) := by decide +kernel
theorem dX0_longerRow_8 : decode cX0_longerRow 8 = .ok (.iconst 4, 1) := by decide +kernel
theorem dX0_longerRow_9 : decode cX0_longerRow 9 = .ok (.lshl, 1) := by decide +kernel
theorem dX0_longerRow_10 : decode cX0_longerRow 10 = .ok (.aload_n 1, 1) := by decide +kernel
theorem dX0_longerRow_11 : decode cX0_longerRow 11 = .ok (.iload_n 3, 1) := by decide +kernel
theorem dX0_longerRow_12 : decode cX0_longerRow 12 = .ok (.iload 4, 2) := by decide +kernel
theorem dX0_longerRow_14 : decode cX0_longerRow 14 = .ok (.invokevirtual 88, 3) := by decide +kernel
theorem dX0_longerRow_17 : decode cX0_longerRow 17 = .ok (.i2l, 1) := by decide +kernel
theorem dX0_longerRow_18 : decode cX0_longerRow 18 = .ok (.lor, 1) := by decide +kernel
theorem dX0_longerRow_19 : decode cX0_longerRow 19 = .ok (.lreturn, 1) := by decide +kernel
theorem dX0_leastBounded_0 : decode cX0_leastBounded 0 = .ok (.iconst (-1), 1) := by decide +kernel
theorem dX0_leastBounded_1 : decode cX0_leastBounded 1 = .ok (.istore 4, 2) := by decide +kernel
theorem dX0_leastBounded_3 : decode cX0_leastBounded 3 = .ok (.iconst 0, 1) := by decide +kernel
theorem dX0_leastBounded_4 : decode cX0_leastBounded 4 = .ok (.istore 5, 2) := by decide +kernel
theorem dX0_leastBounded_6 : decode cX0_leastBounded 6 = .ok (.iload 5, 2) := by decide +kernel
theorem dX0_leastBounded_8 : decode cX0_leastBounded 8 = .ok (.iload_n 1, 1) := by decide +kernel
theorem dX0_leastBounded_9 : decode cX0_leastBounded 9 = .ok (.if_icmp .ge 41, 3) := by decide +kernel
theorem dX0_leastBounded_12 : decode cX0_leastBounded 12 = .ok (.iload_n 3, 1) := by decide +kernel
theorem dX0_leastBounded_13 : decode cX0_leastBounded 13 = .ok (.iload 5, 2) := by decide +kernel
theorem dX0_leastBounded_15 : decode cX0_leastBounded 15 = .ok (.ishr, 1) := by decide +kernel
theorem dX0_leastBounded_16 : decode cX0_leastBounded 16 = .ok (.iconst 1, 1) := by decide +kernel
theorem dX0_leastBounded_17 : decode cX0_leastBounded 17 = .ok (.iand, 1) := by decide +kernel
theorem dX0_leastBounded_18 : decode cX0_leastBounded 18 = .ok (.iconst 1, 1) := by decide +kernel
theorem dX0_leastBounded_19 : decode cX0_leastBounded 19 = .ok (.if_icmp .ne 25, 3) := by decide +kernel
theorem dX0_leastBounded_22 : decode cX0_leastBounded 22 = .ok (.iload 4, 2) := by decide +kernel
theorem dX0_leastBounded_24 : decode cX0_leastBounded 24 = .ok (.ifCond .lt 16, 3) := by decide +kernel
theorem dX0_leastBounded_27 : decode cX0_leastBounded 27 = .ok (.aload_n 0, 1) := by decide +kernel
theorem dX0_leastBounded_28 : decode cX0_leastBounded 28 = .ok (.iload_n 1, 1) := by decide +kernel
theorem dX0_leastBounded_29 : decode cX0_leastBounded 29 = .ok (.iload_n 2, 1) := by decide +kernel
theorem dX0_leastBounded_30 : decode cX0_leastBounded 30 = .ok (.iload 5, 2) := by decide +kernel
theorem dX0_leastBounded_32 : decode cX0_leastBounded 32 = .ok (.iload 4, 2) := by decide +kernel
theorem dX0_leastBounded_34 : decode cX0_leastBounded 34 = .ok (.invokevirtual 92, 3) := by decide +kernel
theorem dX0_leastBounded_37 : decode cX0_leastBounded 37 = .ok (.ifCond .eq 7, 3) := by decide +kernel
theorem dX0_leastBounded_40 : decode cX0_leastBounded 40 = .ok (.iload 5, 2) := by decide +kernel
theorem dX0_leastBounded_42 : decode cX0_leastBounded 42 = .ok (.istore 4, 2) := by decide +kernel
theorem dX0_leastBounded_44 : decode cX0_leastBounded 44 = .ok (.iinc 5 1, 3) := by decide +kernel
theorem dX0_leastBounded_47 : decode cX0_leastBounded 47 = .ok (.goto (-41), 3) := by decide +kernel
theorem dX0_leastBounded_50 : decode cX0_leastBounded 50 = .ok (.iload 4, 2) := by decide +kernel
theorem dX0_leastBounded_52 : decode cX0_leastBounded 52 = .ok (.ireturn, 1) := by decide +kernel
theorem dX0_promisesLess_0 : decode cX0_promisesLess 0 = .ok (.aload_n 0, 1) := by decide +kernel
theorem dX0_promisesLess_1 : decode cX0_promisesLess 1 = .ok (.getfield 20, 3) := by decide +kernel
theorem dX0_promisesLess_4 : decode cX0_promisesLess 4 = .ok (.iload_n 2, 1) := by decide +kernel
theorem dX0_promisesLess_5 : decode cX0_promisesLess 5 = .ok (.bipush 9, 2) := by decide +kernel
theorem dX0_promisesLess_7 : decode cX0_promisesLess 7 = .ok (.imul, 1) := by decide +kernel
theorem dX0_promisesLess_8 : decode cX0_promisesLess 8 = .ok (.iload_n 3, 1) := by decide +kernel
theorem dX0_promisesLess_9 : decode cX0_promisesLess 9 = .ok (.iadd, 1) := by decide +kernel
theorem dX0_promisesLess_10 : decode cX0_promisesLess 10 = .ok (.aaload, 1) := by decide +kernel
theorem dX0_promisesLess_11 : decode cX0_promisesLess 11 = .ok (.aload_n 1, 1) := by decide +kernel
theorem dX0_promisesLess_12 : decode cX0_promisesLess 12 = .ok (.getfield 27, 3) := by decide +kernel
theorem dX0_promisesLess_15 : decode cX0_promisesLess 15 = .ok (.aload_n 1, 1) := by decide +kernel
theorem dX0_promisesLess_16 : decode cX0_promisesLess 16 = .ok (.getfield 40, 3) := by decide +kernel
theorem dX0_promisesLess_19 : decode cX0_promisesLess 19 = .ok (.invokestatic 96, 3) := by decide +kernel
theorem dX0_promisesLess_22 : decode cX0_promisesLess 22 = .ok (.ifCond .ge 7, 3) := by decide +kernel
theorem dX0_promisesLess_25 : decode cX0_promisesLess 25 = .ok (.iconst 1, 1) := by decide +kernel
theorem dX0_promisesLess_26 : decode cX0_promisesLess 26 = .ok (.goto 4, 3) := by decide +kernel
theorem dX0_promisesLess_29 : decode cX0_promisesLess 29 = .ok (.iconst 0, 1) := by decide +kernel
theorem dX0_promisesLess_30 : decode cX0_promisesLess 30 = .ok (.ireturn, 1) := by decide +kernel
theorem dX0_isBoundLess_0 : decode cX0_isBoundLess 0 = .ok (.iload_n 2, 1) := by decide +kernel
theorem dX0_isBoundLess_1 : decode cX0_isBoundLess 1 = .ok (.bipush 9, 2) := by decide +kernel
theorem dX0_isBoundLess_3 : decode cX0_isBoundLess 3 = .ok (.imul, 1) := by decide +kernel
theorem dX0_isBoundLess_4 : decode cX0_isBoundLess 4 = .ok (.istore 5, 2) := by decide +kernel
theorem dX0_isBoundLess_6 : decode cX0_isBoundLess 6 = .ok (.aload_n 0, 1) := by decide +kernel
theorem dX0_isBoundLess_7 : decode cX0_isBoundLess 7 = .ok (.getfield 20, 3) := by decide +kernel
theorem dX0_isBoundLess_10 : decode cX0_isBoundLess 10 = .ok (.iload 5, 2) := by decide +kernel
theorem dX0_isBoundLess_12 : decode cX0_isBoundLess 12 = .ok (.iload_n 3, 1) := by decide +kernel
theorem dX0_isBoundLess_13 : decode cX0_isBoundLess 13 = .ok (.iadd, 1) := by decide +kernel
theorem dX0_isBoundLess_14 : decode cX0_isBoundLess 14 = .ok (.aaload, 1) := by decide +kernel
theorem dX0_isBoundLess_15 : decode cX0_isBoundLess 15 = .ok (.aload_n 0, 1) := by decide +kernel
theorem dX0_isBoundLess_16 : decode cX0_isBoundLess 16 = .ok (.getfield 20, 3) := by decide +kernel
theorem dX0_isBoundLess_19 : decode cX0_isBoundLess 19 = .ok (.iload 5, 2) := by decide +kernel
theorem dX0_isBoundLess_21 : decode cX0_isBoundLess 21 = .ok (.iload 4, 2) := by decide +kernel
theorem dX0_isBoundLess_23 : decode cX0_isBoundLess 23 = .ok (.iadd, 1) := by decide +kernel
theorem dX0_isBoundLess_24 : decode cX0_isBoundLess 24 = .ok (.aaload, 1) := by decide +kernel
theorem dX0_isBoundLess_25 : decode cX0_isBoundLess 25 = .ok (.iload_n 1, 1) := by decide +kernel
theorem dX0_isBoundLess_26 : decode cX0_isBoundLess 26 = .ok (.invokestatic 96, 3) := by decide +kernel
theorem dX0_isBoundLess_29 : decode cX0_isBoundLess 29 = .ok (.ifCond .ge 7, 3) := by decide +kernel
theorem dX0_isBoundLess_32 : decode cX0_isBoundLess 32 = .ok (.iconst 1, 1) := by decide +kernel
theorem dX0_isBoundLess_33 : decode cX0_isBoundLess 33 = .ok (.goto 4, 3) := by decide +kernel
theorem dX0_isBoundLess_36 : decode cX0_isBoundLess 36 = .ok (.iconst 0, 1) := by decide +kernel
theorem dX0_isBoundLess_37 : decode cX0_isBoundLess 37 = .ok (.ireturn, 1) := by decide +kernel
theorem dX0_writeVertex_0 : decode cX0_writeVertex 0 = .ok (.iload_n 2, 1) := by decide +kernel
theorem dX0_writeVertex_1 : decode cX0_writeVertex 1 = .ok (.aload_n 1, 1) := by decide +kernel
theorem dX0_writeVertex_2 : decode cX0_writeVertex 2 = .ok (.getfield 40, 3) := by decide +kernel
theorem dX0_writeVertex_5 : decode cX0_writeVertex 5 = .ok (.iconst 1, 1) := by decide +kernel
theorem dX0_writeVertex_6 : decode cX0_writeVertex 6 = .ok (.isub, 1) := by decide +kernel
theorem dX0_writeVertex_7 : decode cX0_writeVertex 7 = .ok (.if_icmp .ne 21, 3) := by decide +kernel
theorem dX0_writeVertex_10 : decode cX0_writeVertex 10 = .ok (.aload_n 0, 1) := by decide +kernel
theorem dX0_writeVertex_11 : decode cX0_writeVertex 11 = .ok (.getfield 16, 3) := by decide +kernel
theorem dX0_writeVertex_14 : decode cX0_writeVertex 14 = .ok (.iconst 0, 1) := by decide +kernel
theorem dX0_writeVertex_15 : decode cX0_writeVertex 15 = .ok (.aload_n 1, 1) := by decide +kernel
theorem dX0_writeVertex_16 : decode cX0_writeVertex 16 = .ok (.getfield 27, 3) := by decide +kernel
theorem dX0_writeVertex_19 : decode cX0_writeVertex 19 = .ok (.iconst 0, 1) := by decide +kernel
theorem dX0_writeVertex_20 : decode cX0_writeVertex 20 = .ok (.aload_n 1, 1) := by decide +kernel
theorem dX0_writeVertex_21 : decode cX0_writeVertex 21 = .ok (.getfield 40, 3) := by decide +kernel
theorem dX0_writeVertex_24 : decode cX0_writeVertex 24 = .ok (.invokestatic 78, 3) := by decide +kernel
theorem dX0_writeVertex_27 : decode cX0_writeVertex 27 = .ok (.return_, 1) := by decide +kernel
theorem dX0_writeVertex_28 : decode cX0_writeVertex 28 = .ok (.iload_n 3, 1) := by decide +kernel
theorem dX0_writeVertex_29 : decode cX0_writeVertex 29 = .ok (.iconst 1, 1) := by decide +kernel
theorem dX0_writeVertex_30 : decode cX0_writeVertex 30 = .ok (.iload 4, 2) := by decide +kernel
theorem dX0_writeVertex_32 : decode cX0_writeVertex 32 = .ok (.ishl, 1) := by decide +kernel
theorem dX0_writeVertex_33 : decode cX0_writeVertex 33 = .ok (.ior, 1) := by decide +kernel
theorem dX0_writeVertex_34 : decode cX0_writeVertex 34 = .ok (.istore 5, 2) := by decide +kernel
theorem dX0_writeVertex_36 : decode cX0_writeVertex 36 = .ok (.iconst 0, 1) := by decide +kernel
theorem dX0_writeVertex_37 : decode cX0_writeVertex 37 = .ok (.istore 6, 2) := by decide +kernel
theorem dX0_writeVertex_39 : decode cX0_writeVertex 39 = .ok (.iload 6, 2) := by decide +kernel
theorem dX0_writeVertex_41 : decode cX0_writeVertex 41 = .ok (.aload_n 1, 1) := by decide +kernel
theorem dX0_writeVertex_42 : decode cX0_writeVertex 42 = .ok (.getfield 40, 3) := by decide +kernel
theorem dX0_writeVertex_45 : decode cX0_writeVertex 45 = .ok (.if_icmp .ge 40, 3) := by decide +kernel
theorem dX0_writeVertex_48 : decode cX0_writeVertex 48 = .ok (.iload 5, 2) := by decide +kernel
theorem dX0_writeVertex_50 : decode cX0_writeVertex 50 = .ok (.iload 6, 2) := by decide +kernel
theorem dX0_writeVertex_52 : decode cX0_writeVertex 52 = .ok (.ishr, 1) := by decide +kernel
theorem dX0_writeVertex_53 : decode cX0_writeVertex 53 = .ok (.iconst 1, 1) := by decide +kernel
theorem dX0_writeVertex_54 : decode cX0_writeVertex 54 = .ok (.iand, 1) := by decide +kernel
theorem dX0_writeVertex_55 : decode cX0_writeVertex 55 = .ok (.ifCond .ne 24, 3) := by decide +kernel
theorem dX0_writeVertex_58 : decode cX0_writeVertex 58 = .ok (.aload_n 0, 1) := by decide +kernel
theorem dX0_writeVertex_59 : decode cX0_writeVertex 59 = .ok (.getfield 11, 3) := by decide +kernel
theorem dX0_writeVertex_62 : decode cX0_writeVertex 62 = .ok (.iload_n 2, 1) := by decide +kernel
theorem dX0_writeVertex_63 : decode cX0_writeVertex 63 = .ok (.iconst 1, 1) := by decide +kernel
theorem dX0_writeVertex_64 : decode cX0_writeVertex 64 = .ok (.iadd, 1) := by decide +kernel
theorem dX0_writeVertex_65 : decode cX0_writeVertex 65 = .ok (.aaload, 1) := by decide +kernel
theorem dX0_writeVertex_66 : decode cX0_writeVertex 66 = .ok (.iload 6, 2) := by decide +kernel
theorem dX0_writeVertex_68 : decode cX0_writeVertex 68 = .ok (.aload_n 0, 1) := by decide +kernel
theorem dX0_writeVertex_69 : decode cX0_writeVertex 69 = .ok (.aload_n 1, 1) := by decide +kernel
theorem dX0_writeVertex_70 : decode cX0_writeVertex 70 = .ok (.iload_n 2, 1) := by decide +kernel
theorem dX0_writeVertex_71 : decode cX0_writeVertex 71 = .ok (.iload 6, 2) := by decide +kernel
theorem dX0_writeVertex_73 : decode cX0_writeVertex 73 = .ok (.iload 4, 2) := by decide +kernel
theorem dX0_writeVertex_75 : decode cX0_writeVertex 75 = .ok (.invokevirtual 84, 3) := by decide +kernel
theorem dX0_writeVertex_78 : decode cX0_writeVertex 78 = .ok (.lastore, 1) := by decide +kernel
theorem dX0_writeVertex_79 : decode cX0_writeVertex 79 = .ok (.iinc 6 1, 3) := by decide +kernel
theorem dX0_writeVertex_82 : decode cX0_writeVertex 82 = .ok (.goto (-43), 3) := by decide +kernel
theorem dX0_writeVertex_85 : decode cX0_writeVertex 85 = .ok (.aload_n 0, 1) := by decide +kernel
theorem dX0_writeVertex_86 : decode cX0_writeVertex 86 = .ok (.aload_n 1, 1) := by decide +kernel
theorem dX0_writeVertex_87 : decode cX0_writeVertex 87 = .ok (.iload_n 2, 1) := by decide +kernel
theorem dX0_writeVertex_88 : decode cX0_writeVertex 88 = .ok (.iconst 1, 1) := by decide +kernel
theorem dX0_writeVertex_89 : decode cX0_writeVertex 89 = .ok (.iadd, 1) := by decide +kernel
theorem dX0_writeVertex_90 : decode cX0_writeVertex 90 = .ok (.iload 5, 2) := by decide +kernel
theorem dX0_writeVertex_92 : decode cX0_writeVertex 92 = .ok (.invokevirtual 51, 3) := by decide +kernel
theorem dX0_writeVertex_95 : decode cX0_writeVertex 95 = .ok (.return_, 1) := by decide +kernel
end
section
theorem dX1_init_0 : decode cX1_init 0 = .ok (.aload_n 0, 1) := by decide +kernel
theorem dX1_init_1 : decode cX1_init 1 = .ok (.invokespecial 3, 3) := by decide +kernel
theorem dX1_init_4 : decode cX1_init 4 = .ok (.aload_n 0, 1) := by decide +kernel
theorem dX1_init_5 : decode cX1_init 5 = .ok (.iconst 1, 1) := by decide +kernel
theorem dX1_init_6 : decode cX1_init 6 = .ok (.putfield 9, 3) := by decide +kernel
theorem dX1_init_9 : decode cX1_init 9 = .ok (.aload_n 0, 1) := by decide +kernel
theorem dX1_init_10 : decode cX1_init 10 = .ok (.bipush 9, 2) := by decide +kernel
theorem dX1_init_12 : decode cX1_init 12 = .ok (.newarray .int, 2) := by decide +kernel
theorem dX1_init_14 : decode cX1_init 14 = .ok (.putfield 15, 3) := by decide +kernel
theorem dX1_init_17 : decode cX1_init 17 = .ok (.aload_n 0, 1) := by decide +kernel
theorem dX1_init_18 : decode cX1_init 18 = .ok (.bipush 9, 2) := by decide +kernel
theorem dX1_init_20 : decode cX1_init 20 = .ok (.bipush 9, 2) := by decide +kernel
theorem dX1_init_22 : decode cX1_init 22 = .ok (.multianewarray 19 2, 4) := by decide +kernel
theorem dX1_init_26 : decode cX1_init 26 = .ok (.putfield 21, 3) := by decide +kernel
theorem dX1_init_29 : decode cX1_init 29 = .ok (.aload_n 0, 1) := by decide +kernel
theorem dX1_init_30 : decode cX1_init 30 = .ok (.bipush 9, 2) := by decide +kernel
theorem dX1_init_32 : decode cX1_init 32 = .ok (.newarray .int, 2) := by decide +kernel
theorem dX1_init_34 : decode cX1_init 34 = .ok (.putfield 24, 3) := by decide +kernel
theorem dX1_init_37 : decode cX1_init 37 = .ok (.aload_n 0, 1) := by decide +kernel
theorem dX1_init_38 : decode cX1_init 38 = .ok (.bipush 9, 2) := by decide +kernel
theorem dX1_init_40 : decode cX1_init 40 = .ok (.newarray .int, 2) := by decide +kernel
theorem dX1_init_42 : decode cX1_init 42 = .ok (.putfield 27, 3) := by decide +kernel
theorem dX1_init_45 : decode cX1_init 45 = .ok (.aload_n 0, 1) := by decide +kernel
theorem dX1_init_46 : decode cX1_init 46 = .ok (.bipush 9, 2) := by decide +kernel
theorem dX1_init_48 : decode cX1_init 48 = .ok (.newarray .long, 2) := by decide +kernel
theorem dX1_init_50 : decode cX1_init 50 = .ok (.putfield 30, 3) := by decide +kernel
theorem dX1_init_53 : decode cX1_init 53 = .ok (.return_, 1) := by decide +kernel
theorem dX1_empty_0 : decode cX1_empty 0 = .ok (.aload_n 0, 1) := by decide +kernel
theorem dX1_empty_1 : decode cX1_empty 1 = .ok (.iload_n 1, 1) := by decide +kernel
theorem dX1_empty_2 : decode cX1_empty 2 = .ok (.putfield 9, 3) := by decide +kernel
theorem dX1_empty_5 : decode cX1_empty 5 = .ok (.aload_n 0, 1) := by decide +kernel
theorem dX1_empty_6 : decode cX1_empty 6 = .ok (.getfield 15, 3) := by decide +kernel
theorem dX1_empty_9 : decode cX1_empty 9 = .ok (.iconst 0, 1) := by decide +kernel
theorem dX1_empty_10 : decode cX1_empty 10 = .ok (.invokestatic 34, 3) := by decide +kernel
theorem dX1_empty_13 : decode cX1_empty 13 = .ok (.iconst 0, 1) := by decide +kernel
theorem dX1_empty_14 : decode cX1_empty 14 = .ok (.istore_n 2, 1) := by decide +kernel
theorem dX1_empty_15 : decode cX1_empty 15 = .ok (.iload_n 2, 1) := by decide +kernel
theorem dX1_empty_16 : decode cX1_empty 16 = .ok (.bipush 9, 2) := by decide +kernel
theorem dX1_empty_18 : decode cX1_empty 18 = .ok (.if_icmp .ge 19, 3) := by decide +kernel
theorem dX1_empty_21 : decode cX1_empty 21 = .ok (.aload_n 0, 1) := by decide +kernel
theorem dX1_empty_22 : decode cX1_empty 22 = .ok (.getfield 21, 3) := by decide +kernel
theorem dX1_empty_25 : decode cX1_empty 25 = .ok (.iload_n 2, 1) := by decide +kernel
theorem dX1_empty_26 : decode cX1_empty 26 = .ok (.aaload, 1) := by decide +kernel
theorem dX1_empty_27 : decode cX1_empty 27 = .ok (.iconst 0, 1) := by decide +kernel
theorem dX1_empty_28 : decode cX1_empty 28 = .ok (.invokestatic 34, 3) := by decide +kernel
theorem dX1_empty_31 : decode cX1_empty 31 = .ok (.iinc 2 1, 3) := by decide +kernel
theorem dX1_empty_34 : decode cX1_empty 34 = .ok (.goto (-19), 3) := by decide +kernel
theorem dX1_empty_37 : decode cX1_empty 37 = .ok (.return_, 1) := by decide +kernel
theorem dX1_become_0 : decode cX1_become 0 = .ok (.aload_n 1, 1) := by decide +kernel
theorem dX1_become_1 : decode cX1_become 1 = .ok (.getfield 15, 3) := by decide +kernel
theorem dX1_become_4 : decode cX1_become 4 = .ok (.iconst 0, 1) := by decide +kernel
theorem dX1_become_5 : decode cX1_become 5 = .ok (.aload_n 0, 1) := by decide +kernel
theorem dX1_become_6 : decode cX1_become 6 = .ok (.getfield 15, 3) := by decide +kernel
theorem dX1_become_9 : decode cX1_become 9 = .ok (.iconst 0, 1) := by decide +kernel
theorem dX1_become_10 : decode cX1_become 10 = .ok (.bipush 9, 2) := by decide +kernel
theorem dX1_become_12 : decode cX1_become 12 = .ok (.invokestatic 40, 3) := by decide +kernel
theorem dX1_become_15 : decode cX1_become 15 = .ok (.iconst 0, 1) := by decide +kernel
theorem dX1_become_16 : decode cX1_become 16 = .ok (.istore_n 2, 1) := by decide +kernel
theorem dX1_become_17 : decode cX1_become 17 = .ok (.iload_n 2, 1) := by decide +kernel
theorem dX1_become_18 : decode cX1_become 18 = .ok (.bipush 9, 2) := by decide +kernel
theorem dX1_become_20 : decode cX1_become 20 = .ok (.if_icmp .ge 28, 3) := by decide +kernel
theorem dX1_become_23 : decode cX1_become 23 = .ok (.aload_n 1, 1) := by decide +kernel
theorem dX1_become_24 : decode cX1_become 24 = .ok (.getfield 21, 3) := by decide +kernel
theorem dX1_become_27 : decode cX1_become 27 = .ok (.iload_n 2, 1) := by decide +kernel
theorem dX1_become_28 : decode cX1_become 28 = .ok (.aaload, 1) := by decide +kernel
theorem dX1_become_29 : decode cX1_become 29 = .ok (.iconst 0, 1) := by decide +kernel
theorem dX1_become_30 : decode cX1_become 30 = .ok (.aload_n 0, 1) := by decide +kernel
theorem dX1_become_31 : decode cX1_become 31 = .ok (.getfield 21, 3) := by decide +kernel
theorem dX1_become_34 : decode cX1_become 34 = .ok (.iload_n 2, 1) := by decide +kernel
theorem dX1_become_35 : decode cX1_become 35 = .ok (.aaload, 1) := by decide +kernel
theorem dX1_become_36 : decode cX1_become 36 = .ok (.iconst 0, 1) := by decide +kernel
theorem dX1_become_37 : decode cX1_become 37 = .ok (.bipush 9, 2) := by decide +kernel
theorem dX1_become_39 : decode cX1_become 39 = .ok (.invokestatic 40, 3) := by decide +kernel
theorem dX1_become_42 : decode cX1_become 42 = .ok (.iinc 2 1, 3) := by decide +kernel
theorem dX1_become_45 : decode cX1_become 45 = .ok (.goto (-28), 3) := by decide +kernel
theorem dX1_become_48 : decode cX1_become 48 = .ok (.return_, 1) := by decide +kernel
theorem dX1_swap_0 : decode cX1_swap 0 = .ok (.aload_n 0, 1) := by decide +kernel
theorem dX1_swap_1 : decode cX1_swap 1 = .ok (.getfield 15, 3) := by decide +kernel
theorem dX1_swap_4 : decode cX1_swap 4 = .ok (.iload_n 1, 1) := by decide +kernel
theorem dX1_swap_5 : decode cX1_swap 5 = .ok (.iaload, 1) := by decide +kernel
theorem dX1_swap_6 : decode cX1_swap 6 = .ok (.istore_n 3, 1) := by decide +kernel
theorem dX1_swap_7 : decode cX1_swap 7 = .ok (.aload_n 0, 1) := by decide +kernel
theorem dX1_swap_8 : decode cX1_swap 8 = .ok (.getfield 15, 3) := by decide +kernel
theorem dX1_swap_11 : decode cX1_swap 11 = .ok (.iload_n 1, 1) := by decide +kernel
theorem dX1_swap_12 : decode cX1_swap 12 = .ok (.aload_n 0, 1) := by decide +kernel
theorem dX1_swap_13 : decode cX1_swap 13 = .ok (.getfield 15, 3) := by decide +kernel
theorem dX1_swap_16 : decode cX1_swap 16 = .ok (.iload_n 2, 1) := by decide +kernel
theorem dX1_swap_17 : decode cX1_swap 17 = .ok (.iaload, 1) := by decide +kernel
theorem dX1_swap_18 : decode cX1_swap 18 = .ok (.iastore, 1) := by decide +kernel
theorem dX1_swap_19 : decode cX1_swap 19 = .ok (.aload_n 0, 1) := by decide +kernel
theorem dX1_swap_20 : decode cX1_swap 20 = .ok (.getfield 15, 3) := by decide +kernel
theorem dX1_swap_23 : decode cX1_swap 23 = .ok (.iload_n 2, 1) := by decide +kernel
theorem dX1_swap_24 : decode cX1_swap 24 = .ok (.iload_n 3, 1) := by decide +kernel
theorem dX1_swap_25 : decode cX1_swap 25 = .ok (.iastore, 1) := by decide +kernel
theorem dX1_swap_26 : decode cX1_swap 26 = .ok (.iconst 0, 1) := by decide +kernel
theorem dX1_swap_27 : decode cX1_swap 27 = .ok (.istore 4, 2) := by decide +kernel
theorem dX1_swap_29 : decode cX1_swap 29 = .ok (.iload 4, 2) := by decide +kernel
theorem dX1_swap_31 : decode cX1_swap 31 = .ok (.aload_n 0, 1) := by decide +kernel
theorem dX1_swap_32 : decode cX1_swap 32 = .ok (.getfield 9, 3) := by decide +kernel
theorem dX1_swap_35 : decode cX1_swap 35 = .ok (.if_icmp .ge 49, 3) := by decide +kernel
theorem dX1_swap_38 : decode cX1_swap 38 = .ok (.aload_n 0, 1) := by decide +kernel
theorem dX1_swap_39 : decode cX1_swap 39 = .ok (.getfield 21, 3) := by decide +kernel
theorem dX1_swap_42 : decode cX1_swap 42 = .ok (.iload_n 1, 1) := by decide +kernel
theorem dX1_swap_43 : decode cX1_swap 43 = .ok (.aaload, 1) := by decide +kernel
theorem dX1_swap_44 : decode cX1_swap 44 = .ok (.iload 4, 2) := by decide +kernel
theorem dX1_swap_46 : decode cX1_swap 46 = .ok (.iaload, 1) := by decide +kernel
theorem dX1_swap_47 : decode cX1_swap 47 = .ok (.istore 5, 2) := by decide +kernel
theorem dX1_swap_49 : decode cX1_swap 49 = .ok (.aload_n 0, 1) := by decide +kernel
theorem dX1_swap_50 : decode cX1_swap 50 = .ok (.getfield 21, 3) := by decide +kernel
theorem dX1_swap_53 : decode cX1_swap 53 = .ok (.iload_n 1, 1) := by decide +kernel
theorem dX1_swap_54 : decode cX1_swap 54 = .ok (.aaload, 1) := by decide +kernel
theorem dX1_swap_55 : decode cX1_swap 55 = .ok (.iload 4, 2) := by decide +kernel
theorem dX1_swap_57 : decode cX1_swap 57 = .ok (.aload_n 0, 1) := by decide +kernel
theorem dX1_swap_58 : decode cX1_swap 58 = .ok (.getfield 21, 3) := by decide +kernel
theorem dX1_swap_61 : decode cX1_swap 61 = .ok (.iload_n 2, 1) := by decide +kernel
theorem dX1_swap_62 : decode cX1_swap 62 = .ok (.aaload, 1) := by decide +kernel
theorem dX1_swap_63 : decode cX1_swap 63 = .ok (.iload 4, 2) := by decide +kernel
theorem dX1_swap_65 : decode cX1_swap 65 = .ok (.iaload, 1) := by decide +kernel
theorem dX1_swap_66 : decode cX1_swap 66 = .ok (.iastore, 1) := by decide +kernel
theorem dX1_swap_67 : decode cX1_swap 67 = .ok (.aload_n 0, 1) := by decide +kernel
theorem dX1_swap_68 : decode cX1_swap 68 = .ok (.getfield 21, 3) := by decide +kernel
theorem dX1_swap_71 : decode cX1_swap 71 = .ok (.iload_n 2, 1) := by decide +kernel
theorem dX1_swap_72 : decode cX1_swap 72 = .ok (.aaload, 1) := by decide +kernel
theorem dX1_swap_73 : decode cX1_swap 73 = .ok (.iload 4, 2) := by decide +kernel
theorem dX1_swap_75 : decode cX1_swap 75 = .ok (.iload 5, 2) := by decide +kernel
theorem dX1_swap_77 : decode cX1_swap 77 = .ok (.iastore, 1) := by decide +kernel
theorem dX1_swap_78 : decode cX1_swap 78 = .ok (.iinc 4 1, 3) := by decide +kernel
theorem dX1_swap_81 : decode cX1_swap 81 = .ok (.goto (-52), 3) := by decide +kernel
theorem dX1_swap_84 : decode cX1_swap 84 = .ok (.iconst 0, 1) := by decide +kernel
theorem dX1_swap_85 : decode cX1_swap 85 = .ok (.istore 4, 2) := by decide +kernel
theorem dX1_swap_87 : decode cX1_swap 87 = .ok (.iload 4, 2) := by decide +kernel
theorem dX1_swap_89 : decode cX1_swap 89 = .ok (.aload_n 0, 1) := by decide +kernel
theorem dX1_swap_90 : decode cX1_swap 90 = .ok (.getfield 9, 3) := by decide +kernel
theorem dX1_swap_93 : decode cX1_swap 93 = .ok (.if_icmp .ge 49, 3) := by decide +kernel
theorem dX1_swap_96 : decode cX1_swap 96 = .ok (.aload_n 0, 1) := by decide +kernel
theorem dX1_swap_97 : decode cX1_swap 97 = .ok (.getfield 21, 3) := by decide +kernel
theorem dX1_swap_100 : decode cX1_swap 100 = .ok (.iload 4, 2) := by decide +kernel
theorem dX1_swap_102 : decode cX1_swap 102 = .ok (.aaload, 1) := by decide +kernel
theorem dX1_swap_103 : decode cX1_swap 103 = .ok (.iload_n 1, 1) := by decide +kernel
theorem dX1_swap_104 : decode cX1_swap 104 = .ok (.iaload, 1) := by decide +kernel
theorem dX1_swap_105 : decode cX1_swap 105 = .ok (.istore 5, 2) := by decide +kernel
theorem dX1_swap_107 : decode cX1_swap 107 = .ok (.aload_n 0, 1) := by decide +kernel
theorem dX1_swap_108 : decode cX1_swap 108 = .ok (.getfield 21, 3) := by decide +kernel
theorem dX1_swap_111 : decode cX1_swap 111 = .ok (.iload 4, 2) := by decide +kernel
theorem dX1_swap_113 : decode cX1_swap 113 = .ok (.aaload, 1) := by decide +kernel
theorem dX1_swap_114 : decode cX1_swap 114 = .ok (.iload_n 1, 1) := by decide +kernel
theorem dX1_swap_115 : decode cX1_swap 115 = .ok (.aload_n 0, 1) := by decide +kernel
theorem dX1_swap_116 : decode cX1_swap 116 = .ok (.getfield 21, 3) := by decide +kernel
theorem dX1_swap_119 : decode cX1_swap 119 = .ok (.iload 4, 2) := by decide +kernel
theorem dX1_swap_121 : decode cX1_swap 121 = .ok (.aaload, 1) := by decide +kernel
theorem dX1_swap_122 : decode cX1_swap 122 = .ok (.iload_n 2, 1) := by decide +kernel
theorem dX1_swap_123 : decode cX1_swap 123 = .ok (.iaload, 1) := by decide +kernel
theorem dX1_swap_124 : decode cX1_swap 124 = .ok (.iastore, 1) := by decide +kernel
theorem dX1_swap_125 : decode cX1_swap 125 = .ok (.aload_n 0, 1) := by decide +kernel
theorem dX1_swap_126 : decode cX1_swap 126 = .ok (.getfield 21, 3) := by decide +kernel
theorem dX1_swap_129 : decode cX1_swap 129 = .ok (.iload 4, 2) := by decide +kernel
theorem dX1_swap_131 : decode cX1_swap 131 = .ok (.aaload, 1) := by decide +kernel
theorem dX1_swap_132 : decode cX1_swap 132 = .ok (.iload_n 2, 1) := by decide +kernel
theorem dX1_swap_133 : decode cX1_swap 133 = .ok (.iload 5, 2) := by decide +kernel
theorem dX1_swap_135 : decode cX1_swap 135 = .ok (.iastore, 1) := by decide +kernel
theorem dX1_swap_136 : decode cX1_swap 136 = .ok (.iinc 4 1, 3) := by decide +kernel
theorem dX1_swap_139 : decode cX1_swap 139 = .ok (.goto (-52), 3) := by decide +kernel
theorem dX1_swap_142 : decode cX1_swap 142 = .ok (.return_, 1) := by decide +kernel
theorem dX1_edges_0 : decode cX1_edges 0 = .ok (.iconst 0, 1) := by decide +kernel
theorem dX1_edges_1 : decode cX1_edges 1 = .ok (.istore_n 1, 1) := by decide +kernel
theorem dX1_edges_2 : decode cX1_edges 2 = .ok (.iconst 0, 1) := by decide +kernel
theorem dX1_edges_3 : decode cX1_edges 3 = .ok (.istore_n 2, 1) := by decide +kernel
theorem dX1_edges_4 : decode cX1_edges 4 = .ok (.iload_n 2, 1) := by decide +kernel
theorem dX1_edges_5 : decode cX1_edges 5 = .ok (.aload_n 0, 1) := by decide +kernel
theorem dX1_edges_6 : decode cX1_edges 6 = .ok (.getfield 9, 3) := by decide +kernel
theorem dX1_edges_9 : decode cX1_edges 9 = .ok (.if_icmp .ge 39, 3) := by decide +kernel
theorem dX1_edges_12 : decode cX1_edges 12 = .ok (.iconst 0, 1) := by decide +kernel
theorem dX1_edges_13 : decode cX1_edges 13 = .ok (.istore_n 3, 1) := by decide +kernel
theorem dX1_edges_14 : decode cX1_edges 14 = .ok (.iload_n 3, 1) := by decide +kernel
theorem dX1_edges_15 : decode cX1_edges 15 = .ok (.aload_n 0, 1) := by decide +kernel
theorem dX1_edges_16 : decode cX1_edges 16 = .ok (.getfield 9, 3) := by decide +kernel
theorem dX1_edges_19 : decode cX1_edges 19 = .ok (.if_icmp .ge 23, 3) := by decide +kernel
theorem dX1_edges_22 : decode cX1_edges 22 = .ok (.aload_n 0, 1) := by decide +kernel
theorem dX1_edges_23 : decode cX1_edges 23 = .ok (.getfield 21, 3) := by decide +kernel
theorem dX1_edges_26 : decode cX1_edges 26 = .ok (.iload_n 2, 1) := by decide +kernel
theorem dX1_edges_27 : decode cX1_edges 27 = .ok (.aaload, 1) := by decide +kernel
theorem dX1_edges_28 : decode cX1_edges 28 = .ok (.iload_n 3, 1) := by decide +kernel
theorem dX1_edges_29 : decode cX1_edges 29 = .ok (.iaload, 1) := by decide +kernel
theorem dX1_edges_30 : decode cX1_edges 30 = .ok (.ifCond .le 6, 3) := by decide +kernel
theorem dX1_edges_33 : decode cX1_edges 33 = .ok (.iinc 1 1, 3) := by decide +kernel
theorem dX1_edges_36 : decode cX1_edges 36 = .ok (.iinc 3 1, 3) := by decide +kernel
theorem dX1_edges_39 : decode cX1_edges 39 = .ok (.goto (-25), 3) := by decide +kernel
theorem dX1_edges_42 : decode cX1_edges 42 = .ok (.iinc 2 1, 3) := by decide +kernel
theorem dX1_edges_45 : decode cX1_edges 45 = .ok (.goto (-41), 3) := by decide +kernel
theorem dX1_edges_48 : decode cX1_edges 48 = .ok (.iload_n 1, 1) := by decide +kernel
theorem dX1_edges_49 : decode cX1_edges 49 = .ok (.ireturn, 1) := by decide +kernel
theorem dX1_pair_0 : decode cX1_pair 0 = .ok (.iconst 4, 1) := by decide +kernel
theorem dX1_pair_1 : decode cX1_pair 1 = .ok (.aload_n 0, 1) := by decide +kernel
theorem dX1_pair_2 : decode cX1_pair 2 = .ok (.getfield 21, 3) := by decide +kernel
theorem dX1_pair_5 : decode cX1_pair 5 = .ok (.iload_n 1, 1) := by decide +kernel
theorem dX1_pair_6 : decode cX1_pair 6 = .ok (.aaload, 1) := by decide +kernel
theorem dX1_pair_7 : decode cX1_pair 7 = .ok (.iload_n 2, 1) := by decide +kernel
theorem dX1_pair_8 : decode cX1_pair 8 = .ok (.iaload, 1) := by decide +kernel
theorem dX1_pair_9 : decode cX1_pair 9 = .ok (.imul, 1) := by decide +kernel
theorem dX1_pair_10 : decode cX1_pair 10 = .ok (.aload_n 0, 1) := by decide +kernel
theorem dX1_pair_11 : decode cX1_pair 11 = .ok (.getfield 21, 3) := by decide +kernel
theorem dX1_pair_14 : decode cX1_pair 14 = .ok (.iload_n 2, 1) := by decide +kernel
theorem dX1_pair_15 : decode cX1_pair 15 = .ok (.aaload, 1) := by decide +kernel
theorem dX1_pair_16 : decode cX1_pair 16 = .ok (.iload_n 1, 1) := by decide +kernel
theorem dX1_pair_17 : decode cX1_pair 17 = .ok (.iaload, 1) := by decide +kernel
theorem dX1_pair_18 : decode cX1_pair 18 = .ok (.iadd, 1) := by decide +kernel
theorem dX1_pair_19 : decode cX1_pair 19 = .ok (.ireturn, 1) := by decide +kernel
theorem dX1_isAlike_0 : decode cX1_isAlike 0 = .ok (.aload_n 0, 1) := by decide +kernel
theorem dX1_isAlike_1 : decode cX1_isAlike 1 = .ok (.getfield 15, 3) := by decide +kernel
theorem dX1_isAlike_4 : decode cX1_isAlike 4 = .ok (.iload_n 1, 1) := by decide +kernel
theorem dX1_isAlike_5 : decode cX1_isAlike 5 = .ok (.iaload, 1) := by decide +kernel
theorem dX1_isAlike_6 : decode cX1_isAlike 6 = .ok (.aload_n 0, 1) := by decide +kernel
theorem dX1_isAlike_7 : decode cX1_isAlike 7 = .ok (.getfield 15, 3) := by decide +kernel
theorem dX1_isAlike_10 : decode cX1_isAlike 10 = .ok (.iload_n 2, 1) := by decide +kernel
theorem dX1_isAlike_11 : decode cX1_isAlike 11 = .ok (.iaload, 1) := by decide +kernel
theorem dX1_isAlike_12 : decode cX1_isAlike 12 = .ok (.if_icmp .ne 22, 3) := by decide +kernel
theorem dX1_isAlike_15 : decode cX1_isAlike 15 = .ok (.aload_n 0, 1) := by decide +kernel
theorem dX1_isAlike_16 : decode cX1_isAlike 16 = .ok (.getfield 21, 3) := by decide +kernel
theorem dX1_isAlike_19 : decode cX1_isAlike 19 = .ok (.iload_n 1, 1) := by decide +kernel
theorem dX1_isAlike_20 : decode cX1_isAlike 20 = .ok (.aaload, 1) := by decide +kernel
theorem dX1_isAlike_21 : decode cX1_isAlike 21 = .ok (.iload_n 2, 1) := by decide +kernel
theorem dX1_isAlike_22 : decode cX1_isAlike 22 = .ok (.iaload, 1) := by decide +kernel
theorem dX1_isAlike_23 : decode cX1_isAlike 23 = .ok (.aload_n 0, 1) := by decide +kernel
theorem dX1_isAlike_24 : decode cX1_isAlike 24 = .ok (.getfield 21, 3) := by decide +kernel
theorem dX1_isAlike_27 : decode cX1_isAlike 27 = .ok (.iload_n 2, 1) := by decide +kernel
theorem dX1_isAlike_28 : decode cX1_isAlike 28 = .ok (.aaload, 1) := by decide +kernel
theorem dX1_isAlike_29 : decode cX1_isAlike 29 = .ok (.iload_n 1, 1) := by decide +kernel
theorem dX1_isAlike_30 : decode cX1_isAlike 30 = .ok (.iaload, 1) := by decide +kernel
theorem dX1_isAlike_31 : decode cX1_isAlike 31 = .ok (.if_icmp .eq 5, 3) := by decide +kernel
theorem dX1_isAlike_34 : decode cX1_isAlike 34 = .ok (.iconst 0, 1) := by decide +kernel
theorem dX1_isAlike_35 : decode cX1_isAlike 35 = .ok (.ireturn, 1) := by decide +kernel
theorem dX1_isAlike_36 : decode cX1_isAlike 36 = .ok (.iconst 0, 1) := by decide +kernel
theorem dX1_isAlike_37 : decode cX1_isAlike 37 = .ok (.istore_n 3, 1) := by decide +kernel
theorem dX1_isAlike_38 : decode cX1_isAlike 38 = .ok (.iload_n 3, 1) := by decide +kernel
theorem dX1_isAlike_39 : decode cX1_isAlike 39 = .ok (.aload_n 0, 1) := by decide +kernel
theorem dX1_isAlike_40 : decode cX1_isAlike 40 = .ok (.getfield 9, 3) := by decide +kernel
theorem dX1_isAlike_43 : decode cX1_isAlike 43 = .ok (.if_icmp .ge 36, 3) := by decide +kernel
theorem dX1_isAlike_46 : decode cX1_isAlike 46 = .ok (.iload_n 3, 1) := by decide +kernel
theorem dX1_isAlike_47 : decode cX1_isAlike 47 = .ok (.iload_n 1, 1) := by decide +kernel
theorem dX1_isAlike_48 : decode cX1_isAlike 48 = .ok (.if_icmp .eq 25, 3) := by decide +kernel
theorem dX1_isAlike_51 : decode cX1_isAlike 51 = .ok (.iload_n 3, 1) := by decide +kernel
theorem dX1_isAlike_52 : decode cX1_isAlike 52 = .ok (.iload_n 2, 1) := by decide +kernel
theorem dX1_isAlike_53 : decode cX1_isAlike 53 = .ok (.if_icmp .eq 20, 3) := by decide +kernel
theorem dX1_isAlike_56 : decode cX1_isAlike 56 = .ok (.aload_n 0, 1) := by decide +kernel
theorem dX1_isAlike_57 : decode cX1_isAlike 57 = .ok (.iload_n 1, 1) := by decide +kernel
theorem dX1_isAlike_58 : decode cX1_isAlike 58 = .ok (.iload_n 3, 1) := by decide +kernel
theorem dX1_isAlike_59 : decode cX1_isAlike 59 = .ok (.invokevirtual 46, 3) := by decide +kernel
theorem dX1_isAlike_62 : decode cX1_isAlike 62 = .ok (.aload_n 0, 1) := by decide +kernel
theorem dX1_isAlike_63 : decode cX1_isAlike 63 = .ok (.iload_n 2, 1) := by decide +kernel
theorem dX1_isAlike_64 : decode cX1_isAlike 64 = .ok (.iload_n 3, 1) := by decide +kernel
theorem dX1_isAlike_65 : decode cX1_isAlike 65 = .ok (.invokevirtual 46, 3) := by decide +kernel
theorem dX1_isAlike_68 : decode cX1_isAlike 68 = .ok (.if_icmp .eq 5, 3) := by decide +kernel
theorem dX1_isAlike_71 : decode cX1_isAlike 71 = .ok (.iconst 0, 1) := by decide +kernel
theorem dX1_isAlike_72 : decode cX1_isAlike 72 = .ok (.ireturn, 1) := by decide +kernel
theorem dX1_isAlike_73 : decode cX1_isAlike 73 = .ok (.iinc 3 1, 3) := by decide +kernel
theorem dX1_isAlike_76 : decode cX1_isAlike 76 = .ok (.goto (-38), 3) := by decide +kernel
theorem dX1_isAlike_79 : decode cX1_isAlike 79 = .ok (.iconst 1, 1) := by decide +kernel
theorem dX1_isAlike_80 : decode cX1_isAlike 80 = .ok (.ireturn, 1) := by decide +kernel
theorem dX1_formNumber_0 : decode cX1_formNumber 0 = .ok (.iconst 0, 1) := by decide +kernel
theorem dX1_formNumber_1 : decode cX1_formNumber 1 = .ok (.istore_n 2, 1) := by decide +kernel
theorem dX1_formNumber_2 : decode cX1_formNumber 2 = .ok (.iload_n 2, 1) := by decide +kernel
theorem dX1_formNumber_3 : decode cX1_formNumber 3 = .ok (.aload_n 0, 1) := by decide +kernel
theorem dX1_formNumber_4 : decode cX1_formNumber 4 = .ok (.getfield 9, 3) := by decide +kernel
theorem dX1_formNumber_7 : decode cX1_formNumber 7 = .ok (.iconst 1, 1) := by decide +kernel
theorem dX1_formNumber_8 : decode cX1_formNumber 8 = .ok (.isub, 1) := by decide +kernel
theorem dX1_formNumber_9 : decode cX1_formNumber 9 = .ok (.if_icmp .ge 20, 3) := by decide +kernel
theorem dX1_formNumber_12 : decode cX1_formNumber 12 = .ok (.iload_n 2, 1) := by decide +kernel
theorem dX1_formNumber_13 : decode cX1_formNumber 13 = .ok (.iconst 1, 1) := by decide +kernel
theorem dX1_formNumber_14 : decode cX1_formNumber 14 = .ok (.iadd, 1) := by decide +kernel
theorem dX1_formNumber_15 : decode cX1_formNumber 15 = .ok (.iload_n 2, 1) := by decide +kernel
theorem dX1_formNumber_16 : decode cX1_formNumber 16 = .ok (.iconst 1, 1) := by decide +kernel
theorem dX1_formNumber_17 : decode cX1_formNumber 17 = .ok (.iadd, 1) := by decide +kernel
theorem dX1_formNumber_18 : decode cX1_formNumber 18 = .ok (.imul, 1) := by decide +kernel
theorem dX1_formNumber_19 : decode cX1_formNumber 19 = .ok (.iload_n 1, 1) := by decide +kernel
theorem dX1_formNumber_20 : decode cX1_formNumber 20 = .ok (.if_icmp .gt 9, 3) := by decide +kernel
theorem dX1_formNumber_23 : decode cX1_formNumber 23 = .ok (.iinc 2 1, 3) := by decide +kernel
theorem dX1_formNumber_26 : decode cX1_formNumber 26 = .ok (.goto (-24), 3) := by decide +kernel
theorem dX1_formNumber_29 : decode cX1_formNumber 29 = .ok (.iload_n 2, 1) := by decide +kernel
theorem dX1_formNumber_30 : decode cX1_formNumber 30 = .ok (.iload_n 2, 1) := by decide +kernel
theorem dX1_formNumber_31 : decode cX1_formNumber 31 = .ok (.imul, 1) := by decide +kernel
theorem dX1_formNumber_32 : decode cX1_formNumber 32 = .ok (.iconst 2, 1) := by decide +kernel
theorem dX1_formNumber_33 : decode cX1_formNumber 33 = .ok (.iload_n 2, 1) := by decide +kernel
theorem dX1_formNumber_34 : decode cX1_formNumber 34 = .ok (.imul, 1) := by decide +kernel
theorem dX1_formNumber_35 : decode cX1_formNumber 35 = .ok (.iadd, 1) := by decide +kernel
theorem dX1_formNumber_36 : decode cX1_formNumber 36 = .ok (.iload_n 1, 1) := by decide +kernel
theorem dX1_formNumber_37 : decode cX1_formNumber 37 = .ok (.isub, 1) := by decide +kernel
theorem dX1_formNumber_38 : decode cX1_formNumber 38 = .ok (.istore_n 3, 1) := by decide +kernel
theorem dX1_formNumber_39 : decode cX1_formNumber 39 = .ok (.aload_n 0, 1) := by decide +kernel
theorem dX1_formNumber_40 : decode cX1_formNumber 40 = .ok (.getfield 30, 3) := by decide +kernel
theorem dX1_formNumber_43 : decode cX1_formNumber 43 = .ok (.iload_n 2, 1) := by decide +kernel
theorem dX1_formNumber_44 : decode cX1_formNumber 44 = .ok (.laload, 1) := by decide +kernel
theorem dX1_formNumber_45 : decode cX1_formNumber 45 = .ok (.iconst 2, 1) := by decide +kernel
theorem dX1_formNumber_46 : decode cX1_formNumber 46 = .ok (.iload_n 3, 1) := by decide +kernel
theorem dX1_formNumber_47 : decode cX1_formNumber 47 = .ok (.imul, 1) := by decide +kernel
theorem dX1_formNumber_48 : decode cX1_formNumber 48 = .ok (.lshr, 1) := by decide +kernel
theorem dX1_formNumber_49 : decode cX1_formNumber 49 = .ok (.l2i, 1) := by decide +kernel
theorem dX1_formNumber_50 : decode cX1_formNumber 50 = .ok (.iconst 3, 1) := by decide +kernel
theorem dX1_formNumber_51 : decode cX1_formNumber 51 = .ok (.iand, 1) := by decide +kernel
theorem dX1_formNumber_52 : decode cX1_formNumber 52 = .ok (.ireturn, 1) := by decide +kernel
theorem dX2_init_0 : decode cX2_init 0 = .ok (.aload_n 0, 1) := by decide +kernel
theorem dX2_init_1 : decode cX2_init 1 = .ok (.invokespecial 3, 3) := by decide +kernel
theorem dX2_init_4 : decode cX2_init 4 = .ok (.aload_n 0, 1) := by decide +kernel
theorem dX2_init_5 : decode cX2_init 5 = .ok (.bipush 9, 2) := by decide +kernel
theorem dX2_init_7 : decode cX2_init 7 = .ok (.newarray .int, 2) := by decide +kernel
theorem dX2_init_9 : decode cX2_init 9 = .ok (.putfield 9, 3) := by decide +kernel
theorem dX2_init_12 : decode cX2_init 12 = .ok (.return_, 1) := by decide +kernel
theorem dX2_findFirst_0 : decode cX2_findFirst 0 = .ok (.aload_n 0, 1) := by decide +kernel
theorem dX2_findFirst_1 : decode cX2_findFirst 1 = .ok (.aload_n 1, 1) := by decide +kernel
theorem dX2_findFirst_2 : decode cX2_findFirst 2 = .ok (.aload_n 2, 1) := by decide +kernel
theorem dX2_findFirst_3 : decode cX2_findFirst 3 = .ok (.iconst 0, 1) := by decide +kernel
theorem dX2_findFirst_4 : decode cX2_findFirst 4 = .ok (.iconst 0, 1) := by decide +kernel
theorem dX2_findFirst_5 : decode cX2_findFirst 5 = .ok (.iconst 0, 1) := by decide +kernel
theorem dX2_findFirst_6 : decode cX2_findFirst 6 = .ok (.invokevirtual 15, 3) := by decide +kernel
theorem dX2_findFirst_9 : decode cX2_findFirst 9 = .ok (.ireturn, 1) := by decide +kernel
theorem dX2_findNext_0 : decode cX2_findNext 0 = .ok (.aload_n 0, 1) := by decide +kernel
theorem dX2_findNext_1 : decode cX2_findNext 1 = .ok (.aload_n 1, 1) := by decide +kernel
theorem dX2_findNext_2 : decode cX2_findNext 2 = .ok (.aload_n 2, 1) := by decide +kernel
theorem dX2_findNext_3 : decode cX2_findNext 3 = .ok (.iconst 0, 1) := by decide +kernel
theorem dX2_findNext_4 : decode cX2_findNext 4 = .ok (.iconst 0, 1) := by decide +kernel
theorem dX2_findNext_5 : decode cX2_findNext 5 = .ok (.iconst 1, 1) := by decide +kernel
theorem dX2_findNext_6 : decode cX2_findNext 6 = .ok (.invokevirtual 15, 3) := by decide +kernel
theorem dX2_findNext_9 : decode cX2_findNext 9 = .ok (.ireturn, 1) := by decide +kernel
theorem dX2_findSymmetry_0 : decode cX2_findSymmetry 0 = .ok (.iconst 0, 1) := by decide +kernel
theorem dX2_findSymmetry_1 : decode cX2_findSymmetry 1 = .ok (.istore 4, 2) := by decide +kernel
theorem dX2_findSymmetry_3 : decode cX2_findSymmetry 3 = .ok (.iload 4, 2) := by decide +kernel
theorem dX2_findSymmetry_5 : decode cX2_findSymmetry 5 = .ok (.iload_n 2, 1) := by decide +kernel
theorem dX2_findSymmetry_6 : decode cX2_findSymmetry 6 = .ok (.if_icmp .ge 18, 3) := by decide +kernel
theorem dX2_findSymmetry_9 : decode cX2_findSymmetry 9 = .ok (.aload_n 0, 1) := by decide +kernel
theorem dX2_findSymmetry_10 : decode cX2_findSymmetry 10 = .ok (.getfield 9, 3) := by decide +kernel
theorem dX2_findSymmetry_13 : decode cX2_findSymmetry 13 = .ok (.iload 4, 2) := by decide +kernel
theorem dX2_findSymmetry_15 : decode cX2_findSymmetry 15 = .ok (.iload 4, 2) := by decide +kernel
theorem dX2_findSymmetry_17 : decode cX2_findSymmetry 17 = .ok (.iastore, 1) := by decide +kernel
theorem dX2_findSymmetry_18 : decode cX2_findSymmetry 18 = .ok (.iinc 4 1, 3) := by decide +kernel
theorem dX2_findSymmetry_21 : decode cX2_findSymmetry 21 = .ok (.goto (-18), 3) := by decide +kernel
theorem dX2_findSymmetry_24 : decode cX2_findSymmetry 24 = .ok (.aload_n 0, 1) := by decide +kernel
theorem dX2_findSymmetry_25 : decode cX2_findSymmetry 25 = .ok (.aload_n 1, 1) := by decide +kernel
theorem dX2_findSymmetry_26 : decode cX2_findSymmetry 26 = .ok (.aload_n 1, 1) := by decide +kernel
theorem dX2_findSymmetry_27 : decode cX2_findSymmetry 27 = .ok (.iload_n 2, 1) := by decide +kernel
theorem dX2_findSymmetry_28 : decode cX2_findSymmetry 28 = .ok (.iload_n 3, 1) := by decide +kernel
theorem dX2_findSymmetry_29 : decode cX2_findSymmetry 29 = .ok (.invokevirtual 19, 3) := by decide +kernel
theorem dX2_findSymmetry_32 : decode cX2_findSymmetry 32 = .ok (.ifCond .ne 5, 3) := by decide +kernel
theorem dX2_findSymmetry_35 : decode cX2_findSymmetry 35 = .ok (.iconst 0, 1) := by decide +kernel
theorem dX2_findSymmetry_36 : decode cX2_findSymmetry 36 = .ok (.ireturn, 1) := by decide +kernel
theorem dX2_findSymmetry_37 : decode cX2_findSymmetry 37 = .ok (.aload_n 0, 1) := by decide +kernel
theorem dX2_findSymmetry_38 : decode cX2_findSymmetry 38 = .ok (.getfield 9, 3) := by decide +kernel
theorem dX2_findSymmetry_41 : decode cX2_findSymmetry 41 = .ok (.iload_n 2, 1) := by decide +kernel
theorem dX2_findSymmetry_42 : decode cX2_findSymmetry 42 = .ok (.iload_n 3, 1) := by decide +kernel
theorem dX2_findSymmetry_43 : decode cX2_findSymmetry 43 = .ok (.iastore, 1) := by decide +kernel
theorem dX2_findSymmetry_44 : decode cX2_findSymmetry 44 = .ok (.iconst 1, 1) := by decide +kernel
theorem dX2_findSymmetry_45 : decode cX2_findSymmetry 45 = .ok (.iload_n 2, 1) := by decide +kernel
theorem dX2_findSymmetry_46 : decode cX2_findSymmetry 46 = .ok (.ishl, 1) := by decide +kernel
theorem dX2_findSymmetry_47 : decode cX2_findSymmetry 47 = .ok (.iconst 1, 1) := by decide +kernel
theorem dX2_findSymmetry_48 : decode cX2_findSymmetry 48 = .ok (.isub, 1) := by decide +kernel
theorem dX2_findSymmetry_49 : decode cX2_findSymmetry 49 = .ok (.iconst 1, 1) := by decide +kernel
theorem dX2_findSymmetry_50 : decode cX2_findSymmetry 50 = .ok (.iload_n 3, 1) := by decide +kernel
theorem dX2_findSymmetry_51 : decode cX2_findSymmetry 51 = .ok (.ishl, 1) := by decide +kernel
theorem dX2_findSymmetry_52 : decode cX2_findSymmetry 52 = .ok (.ior, 1) := by decide +kernel
theorem dX2_findSymmetry_53 : decode cX2_findSymmetry 53 = .ok (.istore 4, 2) := by decide +kernel
theorem dX2_findSymmetry_55 : decode cX2_findSymmetry 55 = .ok (.aload_n 0, 1) := by decide +kernel
theorem dX2_findSymmetry_56 : decode cX2_findSymmetry 56 = .ok (.aload_n 1, 1) := by decide +kernel
theorem dX2_findSymmetry_57 : decode cX2_findSymmetry 57 = .ok (.aload_n 1, 1) := by decide +kernel
theorem dX2_findSymmetry_58 : decode cX2_findSymmetry 58 = .ok (.iload_n 2, 1) := by decide +kernel
theorem dX2_findSymmetry_59 : decode cX2_findSymmetry 59 = .ok (.iconst 1, 1) := by decide +kernel
theorem dX2_findSymmetry_60 : decode cX2_findSymmetry 60 = .ok (.iadd, 1) := by decide +kernel
theorem dX2_findSymmetry_61 : decode cX2_findSymmetry 61 = .ok (.iload 4, 2) := by decide +kernel
theorem dX2_findSymmetry_63 : decode cX2_findSymmetry 63 = .ok (.iconst 0, 1) := by decide +kernel
theorem dX2_findSymmetry_64 : decode cX2_findSymmetry 64 = .ok (.invokevirtual 15, 3) := by decide +kernel
theorem dX2_findSymmetry_67 : decode cX2_findSymmetry 67 = .ok (.ireturn, 1) := by decide +kernel
theorem dX2_place_0 : decode cX2_place 0 = .ok (.iload_n 3, 1) := by decide +kernel
theorem dX2_place_1 : decode cX2_place 1 = .ok (.aload_n 1, 1) := by decide +kernel
theorem dX2_place_2 : decode cX2_place 2 = .ok (.getfield 23, 3) := by decide +kernel
theorem dX2_place_5 : decode cX2_place 5 = .ok (.if_icmp .lt 14, 3) := by decide +kernel
theorem dX2_place_8 : decode cX2_place 8 = .ok (.iload 5, 2) := by decide +kernel
theorem dX2_place_10 : decode cX2_place 10 = .ok (.ifCond .ne 7, 3) := by decide +kernel
theorem dX2_place_13 : decode cX2_place 13 = .ok (.iconst 1, 1) := by decide +kernel
theorem dX2_place_14 : decode cX2_place 14 = .ok (.goto 4, 3) := by decide +kernel
theorem dX2_place_17 : decode cX2_place 17 = .ok (.iconst 0, 1) := by decide +kernel
theorem dX2_place_18 : decode cX2_place 18 = .ok (.ireturn, 1) := by decide +kernel
theorem dX2_place_19 : decode cX2_place 19 = .ok (.iload 5, 2) := by decide +kernel
theorem dX2_place_21 : decode cX2_place 21 = .ok (.ifCond .eq 12, 3) := by decide +kernel
theorem dX2_place_24 : decode cX2_place 24 = .ok (.aload_n 0, 1) := by decide +kernel
theorem dX2_place_25 : decode cX2_place 25 = .ok (.getfield 9, 3) := by decide +kernel
theorem dX2_place_28 : decode cX2_place 28 = .ok (.iload_n 3, 1) := by decide +kernel
theorem dX2_place_29 : decode cX2_place 29 = .ok (.iaload, 1) := by decide +kernel
theorem dX2_place_30 : decode cX2_place 30 = .ok (.goto 4, 3) := by decide +kernel
theorem dX2_place_33 : decode cX2_place 33 = .ok (.iconst 0, 1) := by decide +kernel
theorem dX2_place_34 : decode cX2_place 34 = .ok (.istore 6, 2) := by decide +kernel
theorem dX2_place_36 : decode cX2_place 36 = .ok (.iload 6, 2) := by decide +kernel
theorem dX2_place_38 : decode cX2_place 38 = .ok (.istore 7, 2) := by decide +kernel
theorem dX2_place_40 : decode cX2_place 40 = .ok (.iload 7, 2) := by decide +kernel
theorem dX2_place_42 : decode cX2_place 42 = .ok (.aload_n 2, 1) := by decide +kernel
theorem dX2_place_43 : decode cX2_place 43 = .ok (.getfield 23, 3) := by decide +kernel
theorem dX2_place_46 : decode cX2_place 46 = .ok (.if_icmp .ge 77, 3) := by decide +kernel
theorem dX2_place_49 : decode cX2_place 49 = .ok (.iload 4, 2) := by decide +kernel
theorem dX2_place_51 : decode cX2_place 51 = .ok (.iload 7, 2) := by decide +kernel
theorem dX2_place_53 : decode cX2_place 53 = .ok (.ishr, 1) := by decide +kernel
theorem dX2_place_54 : decode cX2_place 54 = .ok (.iconst 1, 1) := by decide +kernel
theorem dX2_place_55 : decode cX2_place 55 = .ok (.iand, 1) := by decide +kernel
theorem dX2_place_56 : decode cX2_place 56 = .ok (.ifCond .ne 61, 3) := by decide +kernel
theorem dX2_place_59 : decode cX2_place 59 = .ok (.aload_n 0, 1) := by decide +kernel
theorem dX2_place_60 : decode cX2_place 60 = .ok (.aload_n 1, 1) := by decide +kernel
theorem dX2_place_61 : decode cX2_place 61 = .ok (.aload_n 2, 1) := by decide +kernel
theorem dX2_place_62 : decode cX2_place 62 = .ok (.iload_n 3, 1) := by decide +kernel
theorem dX2_place_63 : decode cX2_place 63 = .ok (.iload 7, 2) := by decide +kernel
theorem dX2_place_65 : decode cX2_place 65 = .ok (.invokevirtual 19, 3) := by decide +kernel
theorem dX2_place_68 : decode cX2_place 68 = .ok (.ifCond .eq 49, 3) := by decide +kernel
theorem dX2_place_71 : decode cX2_place 71 = .ok (.aload_n 0, 1) := by decide +kernel
theorem dX2_place_72 : decode cX2_place 72 = .ok (.getfield 9, 3) := by decide +kernel
theorem dX2_place_75 : decode cX2_place 75 = .ok (.iload_n 3, 1) := by decide +kernel
theorem dX2_place_76 : decode cX2_place 76 = .ok (.iload 7, 2) := by decide +kernel
theorem dX2_place_78 : decode cX2_place 78 = .ok (.iastore, 1) := by decide +kernel
theorem dX2_place_79 : decode cX2_place 79 = .ok (.aload_n 0, 1) := by decide +kernel
theorem dX2_place_80 : decode cX2_place 80 = .ok (.aload_n 1, 1) := by decide +kernel
theorem dX2_place_81 : decode cX2_place 81 = .ok (.aload_n 2, 1) := by decide +kernel
theorem dX2_place_82 : decode cX2_place 82 = .ok (.iload_n 3, 1) := by decide +kernel
theorem dX2_place_83 : decode cX2_place 83 = .ok (.iconst 1, 1) := by decide +kernel
theorem dX2_place_84 : decode cX2_place 84 = .ok (.iadd, 1) := by decide +kernel
theorem dX2_place_85 : decode cX2_place 85 = .ok (.iload 4, 2) := by decide +kernel
theorem dX2_place_87 : decode cX2_place 87 = .ok (.iconst 1, 1) := by decide +kernel
theorem dX2_place_88 : decode cX2_place 88 = .ok (.iload 7, 2) := by decide +kernel
theorem dX2_place_90 : decode cX2_place 90 = .ok (.ishl, 1) := by decide +kernel
theorem dX2_place_91 : decode cX2_place 91 = .ok (.ior, 1) := by decide +kernel
theorem dX2_place_92 : decode cX2_place 92 = .ok (.iload 5, 2) := by decide +kernel
theorem dX2_place_94 : decode cX2_place 94 = .ok (.ifCond .eq 14, 3) := by decide +kernel
theorem dX2_place_97 : decode cX2_place 97 = .ok (.iload 7, 2) := by decide +kernel
theorem dX2_place_99 : decode cX2_place 99 = .ok (.iload 6, 2) := by decide +kernel
theorem dX2_place_101 : decode cX2_place 101 = .ok (.if_icmp .ne 7, 3) := by decide +kernel
theorem dX2_place_104 : decode cX2_place 104 = .ok (.iconst 1, 1) := by decide +kernel
theorem dX2_place_105 : decode cX2_place 105 = .ok (.goto 4, 3) := by decide +kernel
theorem dX2_place_108 : decode cX2_place 108 = .ok (.iconst 0, 1) := by decide +kernel
theorem dX2_place_109 : decode cX2_place 109 = .ok (.invokevirtual 15, 3) := by decide +kernel
theorem dX2_place_112 : decode cX2_place 112 = .ok (.ifCond .eq 5, 3) := by decide +kernel
theorem dX2_place_115 : decode cX2_place 115 = .ok (.iconst 1, 1) := by decide +kernel
theorem dX2_place_116 : decode cX2_place 116 = .ok (.ireturn, 1) := by decide +kernel
theorem dX2_place_117 : decode cX2_place 117 = .ok (.iinc 7 1, 3) := by decide +kernel
theorem dX2_place_120 : decode cX2_place 120 = .ok (.goto (-80), 3) := by decide +kernel
theorem dX2_place_123 : decode cX2_place 123 = .ok (.iconst 0, 1) := by decide +kernel
theorem dX2_place_124 : decode cX2_place 124 = .ok (.ireturn, 1) := by decide +kernel
theorem dX2_fits_0 : decode cX2_fits 0 = .ok (.aload_n 1, 1) := by decide +kernel
theorem dX2_fits_1 : decode cX2_fits 1 = .ok (.getfield 29, 3) := by decide +kernel
theorem dX2_fits_4 : decode cX2_fits 4 = .ok (.iload_n 3, 1) := by decide +kernel
theorem dX2_fits_5 : decode cX2_fits 5 = .ok (.iaload, 1) := by decide +kernel
theorem dX2_fits_6 : decode cX2_fits 6 = .ok (.aload_n 2, 1) := by decide +kernel
theorem dX2_fits_7 : decode cX2_fits 7 = .ok (.getfield 29, 3) := by decide +kernel
theorem dX2_fits_10 : decode cX2_fits 10 = .ok (.iload 4, 2) := by decide +kernel
theorem dX2_fits_12 : decode cX2_fits 12 = .ok (.iaload, 1) := by decide +kernel
theorem dX2_fits_13 : decode cX2_fits 13 = .ok (.if_icmp .eq 5, 3) := by decide +kernel
theorem dX2_fits_16 : decode cX2_fits 16 = .ok (.iconst 0, 1) := by decide +kernel
theorem dX2_fits_17 : decode cX2_fits 17 = .ok (.ireturn, 1) := by decide +kernel
theorem dX2_fits_18 : decode cX2_fits 18 = .ok (.iconst 0, 1) := by decide +kernel
theorem dX2_fits_19 : decode cX2_fits 19 = .ok (.istore 5, 2) := by decide +kernel
theorem dX2_fits_21 : decode cX2_fits 21 = .ok (.iload 5, 2) := by decide +kernel
theorem dX2_fits_23 : decode cX2_fits 23 = .ok (.iload_n 3, 1) := by decide +kernel
theorem dX2_fits_24 : decode cX2_fits 24 = .ok (.if_icmp .ge 64, 3) := by decide +kernel
theorem dX2_fits_27 : decode cX2_fits 27 = .ok (.aload_n 0, 1) := by decide +kernel
theorem dX2_fits_28 : decode cX2_fits 28 = .ok (.getfield 9, 3) := by decide +kernel
theorem dX2_fits_31 : decode cX2_fits 31 = .ok (.iload 5, 2) := by decide +kernel
theorem dX2_fits_33 : decode cX2_fits 33 = .ok (.iaload, 1) := by decide +kernel
theorem dX2_fits_34 : decode cX2_fits 34 = .ok (.istore 6, 2) := by decide +kernel
theorem dX2_fits_36 : decode cX2_fits 36 = .ok (.aload_n 1, 1) := by decide +kernel
theorem dX2_fits_37 : decode cX2_fits 37 = .ok (.getfield 32, 3) := by decide +kernel
theorem dX2_fits_40 : decode cX2_fits 40 = .ok (.iload_n 3, 1) := by decide +kernel
theorem dX2_fits_41 : decode cX2_fits 41 = .ok (.aaload, 1) := by decide +kernel
theorem dX2_fits_42 : decode cX2_fits 42 = .ok (.iload 5, 2) := by decide +kernel
theorem dX2_fits_44 : decode cX2_fits 44 = .ok (.iaload, 1) := by decide +kernel
theorem dX2_fits_45 : decode cX2_fits 45 = .ok (.aload_n 2, 1) := by decide +kernel
theorem dX2_fits_46 : decode cX2_fits 46 = .ok (.getfield 32, 3) := by decide +kernel
theorem dX2_fits_49 : decode cX2_fits 49 = .ok (.iload 4, 2) := by decide +kernel
theorem dX2_fits_51 : decode cX2_fits 51 = .ok (.aaload, 1) := by decide +kernel
theorem dX2_fits_52 : decode cX2_fits 52 = .ok (.iload 6, 2) := by decide +kernel
theorem dX2_fits_54 : decode cX2_fits 54 = .ok (.iaload, 1) := by decide +kernel
theorem dX2_fits_55 : decode cX2_fits 55 = .ok (.if_icmp .ne 25, 3) := by decide +kernel
theorem dX2_fits_58 : decode cX2_fits 58 = .ok (.aload_n 1, 1) := by decide +kernel
theorem dX2_fits_59 : decode cX2_fits 59 = .ok (.getfield 32, 3) := by decide +kernel
theorem dX2_fits_62 : decode cX2_fits 62 = .ok (.iload 5, 2) := by decide +kernel
theorem dX2_fits_64 : decode cX2_fits 64 = .ok (.aaload, 1) := by decide +kernel
theorem dX2_fits_65 : decode cX2_fits 65 = .ok (.iload_n 3, 1) := by decide +kernel
theorem dX2_fits_66 : decode cX2_fits 66 = .ok (.iaload, 1) := by decide +kernel
theorem dX2_fits_67 : decode cX2_fits 67 = .ok (.aload_n 2, 1) := by decide +kernel
theorem dX2_fits_68 : decode cX2_fits 68 = .ok (.getfield 32, 3) := by decide +kernel
theorem dX2_fits_71 : decode cX2_fits 71 = .ok (.iload 6, 2) := by decide +kernel
theorem dX2_fits_73 : decode cX2_fits 73 = .ok (.aaload, 1) := by decide +kernel
theorem dX2_fits_74 : decode cX2_fits 74 = .ok (.iload 4, 2) := by decide +kernel
theorem dX2_fits_76 : decode cX2_fits 76 = .ok (.iaload, 1) := by decide +kernel
theorem dX2_fits_77 : decode cX2_fits 77 = .ok (.if_icmp .eq 5, 3) := by decide +kernel
theorem dX2_fits_80 : decode cX2_fits 80 = .ok (.iconst 0, 1) := by decide +kernel
theorem dX2_fits_81 : decode cX2_fits 81 = .ok (.ireturn, 1) := by decide +kernel
theorem dX2_fits_82 : decode cX2_fits 82 = .ok (.iinc 5 1, 3) := by decide +kernel
theorem dX2_fits_85 : decode cX2_fits 85 = .ok (.goto (-64), 3) := by decide +kernel
theorem dX2_fits_88 : decode cX2_fits 88 = .ok (.iconst 1, 1) := by decide +kernel
theorem dX2_fits_89 : decode cX2_fits 89 = .ok (.ireturn, 1) := by decide +kernel
end
section
theorem dX3_init_0 : decode cX3_init 0 = .ok (.aload_n 0, 1) := by decide +kernel
theorem dX3_init_1 : decode cX3_init 1 = .ok (.invokespecial 3, 3) := by decide +kernel
theorem dX3_init_4 : decode cX3_init 4 = .ok (.aload_n 0, 1) := by decide +kernel
theorem dX3_init_5 : decode cX3_init 5 = .ok (.bipush 18, 2) := by decide +kernel
theorem dX3_init_7 : decode cX3_init 7 = .ok (.newarray .int, 2) := by decide +kernel
theorem dX3_init_9 : decode cX3_init 9 = .ok (.putfield 11, 3) := by decide +kernel
theorem dX3_init_12 : decode cX3_init 12 = .ok (.aload_n 0, 1) := by decide +kernel
theorem dX3_init_13 : decode cX3_init 13 = .ok (.bipush 18, 2) := by decide +kernel
theorem dX3_init_15 : decode cX3_init 15 = .ok (.newarray .int, 2) := by decide +kernel
theorem dX3_init_17 : decode cX3_init 17 = .ok (.putfield 15, 3) := by decide +kernel
theorem dX3_init_20 : decode cX3_init 20 = .ok (.aload_n 0, 1) := by decide +kernel
theorem dX3_init_21 : decode cX3_init 21 = .ok (.bipush 18, 2) := by decide +kernel
theorem dX3_init_23 : decode cX3_init 23 = .ok (.newarray .int, 2) := by decide +kernel
theorem dX3_init_25 : decode cX3_init 25 = .ok (.putfield 18, 3) := by decide +kernel
theorem dX3_init_28 : decode cX3_init 28 = .ok (.aload_n 0, 1) := by decide +kernel
theorem dX3_init_29 : decode cX3_init 29 = .ok (.bipush 18, 2) := by decide +kernel
theorem dX3_init_31 : decode cX3_init 31 = .ok (.newarray .int, 2) := by decide +kernel
theorem dX3_init_33 : decode cX3_init 33 = .ok (.putfield 21, 3) := by decide +kernel
theorem dX3_init_36 : decode cX3_init 36 = .ok (.aload_n 0, 1) := by decide +kernel
theorem dX3_init_37 : decode cX3_init 37 = .ok (.bipush 18, 2) := by decide +kernel
theorem dX3_init_39 : decode cX3_init 39 = .ok (.bipush 9, 2) := by decide +kernel
theorem dX3_init_41 : decode cX3_init 41 = .ok (.multianewarray 24 2, 4) := by decide +kernel
theorem dX3_init_45 : decode cX3_init 45 = .ok (.putfield 26, 3) := by decide +kernel
theorem dX3_init_48 : decode cX3_init 48 = .ok (.return_, 1) := by decide +kernel
theorem dX3_paint_0 : decode cX3_paint 0 = .ok (.aload_n 1, 1) := by decide +kernel
theorem dX3_paint_1 : decode cX3_paint 1 = .ok (.iconst 0, 1) := by decide +kernel
theorem dX3_paint_2 : decode cX3_paint 2 = .ok (.aaload, 1) := by decide +kernel
theorem dX3_paint_3 : decode cX3_paint 3 = .ok (.getfield 29, 3) := by decide +kernel
theorem dX3_paint_6 : decode cX3_paint 6 = .ok (.istore_n 2, 1) := by decide +kernel
theorem dX3_paint_7 : decode cX3_paint 7 = .ok (.aload_n 0, 1) := by decide +kernel
theorem dX3_paint_8 : decode cX3_paint 8 = .ok (.aload_n 1, 1) := by decide +kernel
theorem dX3_paint_9 : decode cX3_paint 9 = .ok (.iload_n 2, 1) := by decide +kernel
theorem dX3_paint_10 : decode cX3_paint 10 = .ok (.invokevirtual 35, 3) := by decide +kernel
theorem dX3_paint_13 : decode cX3_paint 13 = .ok (.iconst 0, 1) := by decide +kernel
theorem dX3_paint_14 : decode cX3_paint 14 = .ok (.istore_n 3, 1) := by decide +kernel
theorem dX3_paint_15 : decode cX3_paint 15 = .ok (.iload_n 3, 1) := by decide +kernel
theorem dX3_paint_16 : decode cX3_paint 16 = .ok (.bipush 18, 2) := by decide +kernel
theorem dX3_paint_18 : decode cX3_paint 18 = .ok (.if_icmp .ge 43, 3) := by decide +kernel
theorem dX3_paint_21 : decode cX3_paint 21 = .ok (.aload_n 0, 1) := by decide +kernel
theorem dX3_paint_22 : decode cX3_paint 22 = .ok (.getfield 39, 3) := by decide +kernel
theorem dX3_paint_25 : decode cX3_paint 25 = .ok (.istore 4, 2) := by decide +kernel
theorem dX3_paint_27 : decode cX3_paint 27 = .ok (.aload_n 0, 1) := by decide +kernel
theorem dX3_paint_28 : decode cX3_paint 28 = .ok (.aload_n 1, 1) := by decide +kernel
theorem dX3_paint_29 : decode cX3_paint 29 = .ok (.iload_n 2, 1) := by decide +kernel
theorem dX3_paint_30 : decode cX3_paint 30 = .ok (.invokevirtual 42, 3) := by decide +kernel
theorem dX3_paint_33 : decode cX3_paint 33 = .ok (.aload_n 0, 1) := by decide +kernel
theorem dX3_paint_34 : decode cX3_paint 34 = .ok (.iconst 2, 1) := by decide +kernel
theorem dX3_paint_35 : decode cX3_paint 35 = .ok (.iload_n 2, 1) := by decide +kernel
theorem dX3_paint_36 : decode cX3_paint 36 = .ok (.imul, 1) := by decide +kernel
theorem dX3_paint_37 : decode cX3_paint 37 = .ok (.iload_n 2, 1) := by decide +kernel
theorem dX3_paint_38 : decode cX3_paint 38 = .ok (.iconst 1, 1) := by decide +kernel
theorem dX3_paint_39 : decode cX3_paint 39 = .ok (.isub, 1) := by decide +kernel
theorem dX3_paint_40 : decode cX3_paint 40 = .ok (.invokevirtual 45, 3) := by decide +kernel
theorem dX3_paint_43 : decode cX3_paint 43 = .ok (.aload_n 0, 1) := by decide +kernel
theorem dX3_paint_44 : decode cX3_paint 44 = .ok (.getfield 39, 3) := by decide +kernel
theorem dX3_paint_47 : decode cX3_paint 47 = .ok (.iload 4, 2) := by decide +kernel
theorem dX3_paint_49 : decode cX3_paint 49 = .ok (.if_icmp .ne 6, 3) := by decide +kernel
theorem dX3_paint_52 : decode cX3_paint 52 = .ok (.goto 9, 3) := by decide +kernel
theorem dX3_paint_55 : decode cX3_paint 55 = .ok (.iinc 3 1, 3) := by decide +kernel
theorem dX3_paint_58 : decode cX3_paint 58 = .ok (.goto (-43), 3) := by decide +kernel
theorem dX3_paint_61 : decode cX3_paint 61 = .ok (.iconst 0, 1) := by decide +kernel
theorem dX3_paint_62 : decode cX3_paint 62 = .ok (.istore_n 3, 1) := by decide +kernel
theorem dX3_paint_63 : decode cX3_paint 63 = .ok (.iload_n 3, 1) := by decide +kernel
theorem dX3_paint_64 : decode cX3_paint 64 = .ok (.iconst 2, 1) := by decide +kernel
theorem dX3_paint_65 : decode cX3_paint 65 = .ok (.if_icmp .ge 28, 3) := by decide +kernel
theorem dX3_paint_68 : decode cX3_paint 68 = .ok (.aload_n 0, 1) := by decide +kernel
theorem dX3_paint_69 : decode cX3_paint 69 = .ok (.getfield 11, 3) := by decide +kernel
theorem dX3_paint_72 : decode cX3_paint 72 = .ok (.iload_n 3, 1) := by decide +kernel
theorem dX3_paint_73 : decode cX3_paint 73 = .ok (.bipush 9, 2) := by decide +kernel
theorem dX3_paint_75 : decode cX3_paint 75 = .ok (.imul, 1) := by decide +kernel
theorem dX3_paint_76 : decode cX3_paint 76 = .ok (.aload_n 1, 1) := by decide +kernel
theorem dX3_paint_77 : decode cX3_paint 77 = .ok (.iload_n 3, 1) := by decide +kernel
theorem dX3_paint_78 : decode cX3_paint 78 = .ok (.aaload, 1) := by decide +kernel
theorem dX3_paint_79 : decode cX3_paint 79 = .ok (.getfield 49, 3) := by decide +kernel
theorem dX3_paint_82 : decode cX3_paint 82 = .ok (.iconst 0, 1) := by decide +kernel
theorem dX3_paint_83 : decode cX3_paint 83 = .ok (.iload_n 2, 1) := by decide +kernel
theorem dX3_paint_84 : decode cX3_paint 84 = .ok (.invokestatic 52, 3) := by decide +kernel
theorem dX3_paint_87 : decode cX3_paint 87 = .ok (.iinc 3 1, 3) := by decide +kernel
theorem dX3_paint_90 : decode cX3_paint 90 = .ok (.goto (-27), 3) := by decide +kernel
theorem dX3_paint_93 : decode cX3_paint 93 = .ok (.return_, 1) := by decide +kernel
theorem dX3_paintsAlike_0 : decode cX3_paintsAlike 0 = .ok (.aload_n 0, 1) := by decide +kernel
theorem dX3_paintsAlike_1 : decode cX3_paintsAlike 1 = .ok (.getfield 21, 3) := by decide +kernel
theorem dX3_paintsAlike_4 : decode cX3_paintsAlike 4 = .ok (.iconst 0, 1) := by decide +kernel
theorem dX3_paintsAlike_5 : decode cX3_paintsAlike 5 = .ok (.invokestatic 58, 3) := by decide +kernel
theorem dX3_paintsAlike_8 : decode cX3_paintsAlike 8 = .ok (.iconst 0, 1) := by decide +kernel
theorem dX3_paintsAlike_9 : decode cX3_paintsAlike 9 = .ok (.istore_n 2, 1) := by decide +kernel
theorem dX3_paintsAlike_10 : decode cX3_paintsAlike 10 = .ok (.iload_n 2, 1) := by decide +kernel
theorem dX3_paintsAlike_11 : decode cX3_paintsAlike 11 = .ok (.aload_n 1, 1) := by decide +kernel
theorem dX3_paintsAlike_12 : decode cX3_paintsAlike 12 = .ok (.iconst 0, 1) := by decide +kernel
theorem dX3_paintsAlike_13 : decode cX3_paintsAlike 13 = .ok (.aaload, 1) := by decide +kernel
theorem dX3_paintsAlike_14 : decode cX3_paintsAlike 14 = .ok (.getfield 29, 3) := by decide +kernel
theorem dX3_paintsAlike_17 : decode cX3_paintsAlike 17 = .ok (.if_icmp .ge 43, 3) := by decide +kernel
theorem dX3_paintsAlike_20 : decode cX3_paintsAlike 20 = .ok (.aload_n 0, 1) := by decide +kernel
theorem dX3_paintsAlike_21 : decode cX3_paintsAlike 21 = .ok (.getfield 21, 3) := by decide +kernel
theorem dX3_paintsAlike_24 : decode cX3_paintsAlike 24 = .ok (.aload_n 1, 1) := by decide +kernel
theorem dX3_paintsAlike_25 : decode cX3_paintsAlike 25 = .ok (.iconst 0, 1) := by decide +kernel
theorem dX3_paintsAlike_26 : decode cX3_paintsAlike 26 = .ok (.aaload, 1) := by decide +kernel
theorem dX3_paintsAlike_27 : decode cX3_paintsAlike 27 = .ok (.getfield 49, 3) := by decide +kernel
theorem dX3_paintsAlike_30 : decode cX3_paintsAlike 30 = .ok (.iload_n 2, 1) := by decide +kernel
theorem dX3_paintsAlike_31 : decode cX3_paintsAlike 31 = .ok (.iaload, 1) := by decide +kernel
theorem dX3_paintsAlike_32 : decode cX3_paintsAlike 32 = .ok (.dup2, 1) := by decide +kernel
theorem dX3_paintsAlike_33 : decode cX3_paintsAlike 33 = .ok (.iaload, 1) := by decide +kernel
theorem dX3_paintsAlike_34 : decode cX3_paintsAlike 34 = .ok (.iconst 1, 1) := by decide +kernel
theorem dX3_paintsAlike_35 : decode cX3_paintsAlike 35 = .ok (.iadd, 1) := by decide +kernel
theorem dX3_paintsAlike_36 : decode cX3_paintsAlike 36 = .ok (.iastore, 1) := by decide +kernel
theorem dX3_paintsAlike_37 : decode cX3_paintsAlike 37 = .ok (.aload_n 0, 1) := by decide +kernel
theorem dX3_paintsAlike_38 : decode cX3_paintsAlike 38 = .ok (.getfield 21, 3) := by decide +kernel
theorem dX3_paintsAlike_41 : decode cX3_paintsAlike 41 = .ok (.aload_n 1, 1) := by decide +kernel
theorem dX3_paintsAlike_42 : decode cX3_paintsAlike 42 = .ok (.iconst 1, 1) := by decide +kernel
theorem dX3_paintsAlike_43 : decode cX3_paintsAlike 43 = .ok (.aaload, 1) := by decide +kernel
theorem dX3_paintsAlike_44 : decode cX3_paintsAlike 44 = .ok (.getfield 49, 3) := by decide +kernel
theorem dX3_paintsAlike_47 : decode cX3_paintsAlike 47 = .ok (.iload_n 2, 1) := by decide +kernel
theorem dX3_paintsAlike_48 : decode cX3_paintsAlike 48 = .ok (.iaload, 1) := by decide +kernel
theorem dX3_paintsAlike_49 : decode cX3_paintsAlike 49 = .ok (.dup2, 1) := by decide +kernel
theorem dX3_paintsAlike_50 : decode cX3_paintsAlike 50 = .ok (.iaload, 1) := by decide +kernel
theorem dX3_paintsAlike_51 : decode cX3_paintsAlike 51 = .ok (.iconst 1, 1) := by decide +kernel
theorem dX3_paintsAlike_52 : decode cX3_paintsAlike 52 = .ok (.isub, 1) := by decide +kernel
theorem dX3_paintsAlike_53 : decode cX3_paintsAlike 53 = .ok (.iastore, 1) := by decide +kernel
theorem dX3_paintsAlike_54 : decode cX3_paintsAlike 54 = .ok (.iinc 2 1, 3) := by decide +kernel
theorem dX3_paintsAlike_57 : decode cX3_paintsAlike 57 = .ok (.goto (-47), 3) := by decide +kernel
theorem dX3_paintsAlike_60 : decode cX3_paintsAlike 60 = .ok (.iconst 0, 1) := by decide +kernel
theorem dX3_paintsAlike_61 : decode cX3_paintsAlike 61 = .ok (.istore_n 2, 1) := by decide +kernel
theorem dX3_paintsAlike_62 : decode cX3_paintsAlike 62 = .ok (.iload_n 2, 1) := by decide +kernel
theorem dX3_paintsAlike_63 : decode cX3_paintsAlike 63 = .ok (.aload_n 0, 1) := by decide +kernel
theorem dX3_paintsAlike_64 : decode cX3_paintsAlike 64 = .ok (.getfield 39, 3) := by decide +kernel
theorem dX3_paintsAlike_67 : decode cX3_paintsAlike 67 = .ok (.if_icmp .ge 20, 3) := by decide +kernel
theorem dX3_paintsAlike_70 : decode cX3_paintsAlike 70 = .ok (.aload_n 0, 1) := by decide +kernel
theorem dX3_paintsAlike_71 : decode cX3_paintsAlike 71 = .ok (.getfield 21, 3) := by decide +kernel
theorem dX3_paintsAlike_74 : decode cX3_paintsAlike 74 = .ok (.iload_n 2, 1) := by decide +kernel
theorem dX3_paintsAlike_75 : decode cX3_paintsAlike 75 = .ok (.iaload, 1) := by decide +kernel
theorem dX3_paintsAlike_76 : decode cX3_paintsAlike 76 = .ok (.ifCond .eq 5, 3) := by decide +kernel
theorem dX3_paintsAlike_79 : decode cX3_paintsAlike 79 = .ok (.iconst 0, 1) := by decide +kernel
theorem dX3_paintsAlike_80 : decode cX3_paintsAlike 80 = .ok (.ireturn, 1) := by decide +kernel
theorem dX3_paintsAlike_81 : decode cX3_paintsAlike 81 = .ok (.iinc 2 1, 3) := by decide +kernel
theorem dX3_paintsAlike_84 : decode cX3_paintsAlike 84 = .ok (.goto (-22), 3) := by decide +kernel
theorem dX3_paintsAlike_87 : decode cX3_paintsAlike 87 = .ok (.iconst 1, 1) := by decide +kernel
theorem dX3_paintsAlike_88 : decode cX3_paintsAlike 88 = .ok (.ireturn, 1) := by decide +kernel
theorem dX3_paintTints_0 : decode cX3_paintTints 0 = .ok (.iconst 0, 1) := by decide +kernel
theorem dX3_paintTints_1 : decode cX3_paintTints 1 = .ok (.istore_n 3, 1) := by decide +kernel
theorem dX3_paintTints_2 : decode cX3_paintTints 2 = .ok (.iload_n 3, 1) := by decide +kernel
theorem dX3_paintTints_3 : decode cX3_paintTints 3 = .ok (.iload_n 2, 1) := by decide +kernel
theorem dX3_paintTints_4 : decode cX3_paintTints 4 = .ok (.if_icmp .ge 59, 3) := by decide +kernel
theorem dX3_paintTints_7 : decode cX3_paintTints 7 = .ok (.aload_n 0, 1) := by decide +kernel
theorem dX3_paintTints_8 : decode cX3_paintTints 8 = .ok (.getfield 11, 3) := by decide +kernel
theorem dX3_paintTints_11 : decode cX3_paintTints 11 = .ok (.iload_n 3, 1) := by decide +kernel
theorem dX3_paintTints_12 : decode cX3_paintTints 12 = .ok (.aload_n 1, 1) := by decide +kernel
theorem dX3_paintTints_13 : decode cX3_paintTints 13 = .ok (.iconst 0, 1) := by decide +kernel
theorem dX3_paintTints_14 : decode cX3_paintTints 14 = .ok (.aaload, 1) := by decide +kernel
theorem dX3_paintTints_15 : decode cX3_paintTints 15 = .ok (.getfield 64, 3) := by decide +kernel
theorem dX3_paintTints_18 : decode cX3_paintTints 18 = .ok (.iload_n 3, 1) := by decide +kernel
theorem dX3_paintTints_19 : decode cX3_paintTints 19 = .ok (.iaload, 1) := by decide +kernel
theorem dX3_paintTints_20 : decode cX3_paintTints 20 = .ok (.iastore, 1) := by decide +kernel
theorem dX3_paintTints_21 : decode cX3_paintTints 21 = .ok (.aload_n 0, 1) := by decide +kernel
theorem dX3_paintTints_22 : decode cX3_paintTints 22 = .ok (.getfield 11, 3) := by decide +kernel
theorem dX3_paintTints_25 : decode cX3_paintTints 25 = .ok (.bipush 9, 2) := by decide +kernel
theorem dX3_paintTints_27 : decode cX3_paintTints 27 = .ok (.iload_n 3, 1) := by decide +kernel
theorem dX3_paintTints_28 : decode cX3_paintTints 28 = .ok (.iadd, 1) := by decide +kernel
theorem dX3_paintTints_29 : decode cX3_paintTints 29 = .ok (.aload_n 1, 1) := by decide +kernel
theorem dX3_paintTints_30 : decode cX3_paintTints 30 = .ok (.iconst 1, 1) := by decide +kernel
theorem dX3_paintTints_31 : decode cX3_paintTints 31 = .ok (.aaload, 1) := by decide +kernel
theorem dX3_paintTints_32 : decode cX3_paintTints 32 = .ok (.getfield 64, 3) := by decide +kernel
theorem dX3_paintTints_35 : decode cX3_paintTints 35 = .ok (.iload_n 3, 1) := by decide +kernel
theorem dX3_paintTints_36 : decode cX3_paintTints 36 = .ok (.iaload, 1) := by decide +kernel
theorem dX3_paintTints_37 : decode cX3_paintTints 37 = .ok (.iastore, 1) := by decide +kernel
theorem dX3_paintTints_38 : decode cX3_paintTints 38 = .ok (.aload_n 0, 1) := by decide +kernel
theorem dX3_paintTints_39 : decode cX3_paintTints 39 = .ok (.getfield 18, 3) := by decide +kernel
theorem dX3_paintTints_42 : decode cX3_paintTints 42 = .ok (.iload_n 3, 1) := by decide +kernel
theorem dX3_paintTints_43 : decode cX3_paintTints 43 = .ok (.iload_n 3, 1) := by decide +kernel
theorem dX3_paintTints_44 : decode cX3_paintTints 44 = .ok (.iastore, 1) := by decide +kernel
theorem dX3_paintTints_45 : decode cX3_paintTints 45 = .ok (.aload_n 0, 1) := by decide +kernel
theorem dX3_paintTints_46 : decode cX3_paintTints 46 = .ok (.getfield 18, 3) := by decide +kernel
theorem dX3_paintTints_49 : decode cX3_paintTints 49 = .ok (.iload_n 2, 1) := by decide +kernel
theorem dX3_paintTints_50 : decode cX3_paintTints 50 = .ok (.iload_n 3, 1) := by decide +kernel
theorem dX3_paintTints_51 : decode cX3_paintTints 51 = .ok (.iadd, 1) := by decide +kernel
theorem dX3_paintTints_52 : decode cX3_paintTints 52 = .ok (.bipush 9, 2) := by decide +kernel
theorem dX3_paintTints_54 : decode cX3_paintTints 54 = .ok (.iload_n 3, 1) := by decide +kernel
theorem dX3_paintTints_55 : decode cX3_paintTints 55 = .ok (.iadd, 1) := by decide +kernel
theorem dX3_paintTints_56 : decode cX3_paintTints 56 = .ok (.iastore, 1) := by decide +kernel
theorem dX3_paintTints_57 : decode cX3_paintTints 57 = .ok (.iinc 3 1, 3) := by decide +kernel
theorem dX3_paintTints_60 : decode cX3_paintTints 60 = .ok (.goto (-58), 3) := by decide +kernel
theorem dX3_paintTints_63 : decode cX3_paintTints 63 = .ok (.aload_n 0, 1) := by decide +kernel
theorem dX3_paintTints_64 : decode cX3_paintTints 64 = .ok (.iconst 2, 1) := by decide +kernel
theorem dX3_paintTints_65 : decode cX3_paintTints 65 = .ok (.iload_n 2, 1) := by decide +kernel
theorem dX3_paintTints_66 : decode cX3_paintTints 66 = .ok (.imul, 1) := by decide +kernel
theorem dX3_paintTints_67 : decode cX3_paintTints 67 = .ok (.iconst 0, 1) := by decide +kernel
theorem dX3_paintTints_68 : decode cX3_paintTints 68 = .ok (.invokevirtual 45, 3) := by decide +kernel
theorem dX3_paintTints_71 : decode cX3_paintTints 71 = .ok (.return_, 1) := by decide +kernel
theorem dX3_gatherKeys_0 : decode cX3_gatherKeys 0 = .ok (.iconst 0, 1) := by decide +kernel
theorem dX3_gatherKeys_1 : decode cX3_gatherKeys 1 = .ok (.istore_n 3, 1) := by decide +kernel
theorem dX3_gatherKeys_2 : decode cX3_gatherKeys 2 = .ok (.iload_n 3, 1) := by decide +kernel
theorem dX3_gatherKeys_3 : decode cX3_gatherKeys 3 = .ok (.iload_n 2, 1) := by decide +kernel
theorem dX3_gatherKeys_4 : decode cX3_gatherKeys 4 = .ok (.if_icmp .ge 28, 3) := by decide +kernel
theorem dX3_gatherKeys_7 : decode cX3_gatherKeys 7 = .ok (.aload_n 0, 1) := by decide +kernel
theorem dX3_gatherKeys_8 : decode cX3_gatherKeys 8 = .ok (.aload_n 1, 1) := by decide +kernel
theorem dX3_gatherKeys_9 : decode cX3_gatherKeys 9 = .ok (.iconst 0, 1) := by decide +kernel
theorem dX3_gatherKeys_10 : decode cX3_gatherKeys 10 = .ok (.aaload, 1) := by decide +kernel
theorem dX3_gatherKeys_11 : decode cX3_gatherKeys 11 = .ok (.iload_n 3, 1) := by decide +kernel
theorem dX3_gatherKeys_12 : decode cX3_gatherKeys 12 = .ok (.iconst 0, 1) := by decide +kernel
theorem dX3_gatherKeys_13 : decode cX3_gatherKeys 13 = .ok (.invokevirtual 67, 3) := by decide +kernel
theorem dX3_gatherKeys_16 : decode cX3_gatherKeys 16 = .ok (.aload_n 0, 1) := by decide +kernel
theorem dX3_gatherKeys_17 : decode cX3_gatherKeys 17 = .ok (.aload_n 1, 1) := by decide +kernel
theorem dX3_gatherKeys_18 : decode cX3_gatherKeys 18 = .ok (.iconst 1, 1) := by decide +kernel
theorem dX3_gatherKeys_19 : decode cX3_gatherKeys 19 = .ok (.aaload, 1) := by decide +kernel
theorem dX3_gatherKeys_20 : decode cX3_gatherKeys 20 = .ok (.iload_n 3, 1) := by decide +kernel
theorem dX3_gatherKeys_21 : decode cX3_gatherKeys 21 = .ok (.bipush 9, 2) := by decide +kernel
theorem dX3_gatherKeys_23 : decode cX3_gatherKeys 23 = .ok (.invokevirtual 67, 3) := by decide +kernel
theorem dX3_gatherKeys_26 : decode cX3_gatherKeys 26 = .ok (.iinc 3 1, 3) := by decide +kernel
theorem dX3_gatherKeys_29 : decode cX3_gatherKeys 29 = .ok (.goto (-27), 3) := by decide +kernel
theorem dX3_gatherKeys_32 : decode cX3_gatherKeys 32 = .ok (.return_, 1) := by decide +kernel
theorem dX3_gatherKeysOf_0 : decode cX3_gatherKeysOf 0 = .ok (.aload_n 0, 1) := by decide +kernel
theorem dX3_gatherKeysOf_1 : decode cX3_gatherKeysOf 1 = .ok (.getfield 26, 3) := by decide +kernel
theorem dX3_gatherKeysOf_4 : decode cX3_gatherKeysOf 4 = .ok (.iload_n 3, 1) := by decide +kernel
theorem dX3_gatherKeysOf_5 : decode cX3_gatherKeysOf 5 = .ok (.iload_n 2, 1) := by decide +kernel
theorem dX3_gatherKeysOf_6 : decode cX3_gatherKeysOf 6 = .ok (.iadd, 1) := by decide +kernel
theorem dX3_gatherKeysOf_7 : decode cX3_gatherKeysOf 7 = .ok (.aaload, 1) := by decide +kernel
theorem dX3_gatherKeysOf_8 : decode cX3_gatherKeysOf 8 = .ok (.astore 4, 2) := by decide +kernel
theorem dX3_gatherKeysOf_10 : decode cX3_gatherKeysOf 10 = .ok (.iconst 0, 1) := by decide +kernel
theorem dX3_gatherKeysOf_11 : decode cX3_gatherKeysOf 11 = .ok (.istore 5, 2) := by decide +kernel
theorem dX3_gatherKeysOf_13 : decode cX3_gatherKeysOf 13 = .ok (.iconst 0, 1) := by decide +kernel
theorem dX3_gatherKeysOf_14 : decode cX3_gatherKeysOf 14 = .ok (.istore 6, 2) := by decide +kernel
theorem dX3_gatherKeysOf_16 : decode cX3_gatherKeysOf 16 = .ok (.iload 6, 2) := by decide +kernel
theorem dX3_gatherKeysOf_18 : decode cX3_gatherKeysOf 18 = .ok (.aload_n 1, 1) := by decide +kernel
theorem dX3_gatherKeysOf_19 : decode cX3_gatherKeysOf 19 = .ok (.getfield 29, 3) := by decide +kernel
theorem dX3_gatherKeysOf_22 : decode cX3_gatherKeysOf 22 = .ok (.if_icmp .ge 86, 3) := by decide +kernel
theorem dX3_gatherKeysOf_25 : decode cX3_gatherKeysOf 25 = .ok (.iload 6, 2) := by decide +kernel
theorem dX3_gatherKeysOf_27 : decode cX3_gatherKeysOf 27 = .ok (.iload_n 2, 1) := by decide +kernel
theorem dX3_gatherKeysOf_28 : decode cX3_gatherKeysOf 28 = .ok (.if_icmp .eq 74, 3) := by decide +kernel
theorem dX3_gatherKeysOf_31 : decode cX3_gatherKeysOf 31 = .ok (.aload_n 1, 1) := by decide +kernel
theorem dX3_gatherKeysOf_32 : decode cX3_gatherKeysOf 32 = .ok (.iload_n 2, 1) := by decide +kernel
theorem dX3_gatherKeysOf_33 : decode cX3_gatherKeysOf 33 = .ok (.iload 6, 2) := by decide +kernel
theorem dX3_gatherKeysOf_35 : decode cX3_gatherKeysOf 35 = .ok (.invokevirtual 71, 3) := by decide +kernel
theorem dX3_gatherKeysOf_38 : decode cX3_gatherKeysOf 38 = .ok (.bipush 18, 2) := by decide +kernel
theorem dX3_gatherKeysOf_40 : decode cX3_gatherKeysOf 40 = .ok (.imul, 1) := by decide +kernel
theorem dX3_gatherKeysOf_41 : decode cX3_gatherKeysOf 41 = .ok (.aload_n 0, 1) := by decide +kernel
theorem dX3_gatherKeysOf_42 : decode cX3_gatherKeysOf 42 = .ok (.getfield 11, 3) := by decide +kernel
theorem dX3_gatherKeysOf_45 : decode cX3_gatherKeysOf 45 = .ok (.iload_n 3, 1) := by decide +kernel
theorem dX3_gatherKeysOf_46 : decode cX3_gatherKeysOf 46 = .ok (.iload 6, 2) := by decide +kernel
theorem dX3_gatherKeysOf_48 : decode cX3_gatherKeysOf 48 = .ok (.iadd, 1) := by decide +kernel
theorem dX3_gatherKeysOf_49 : decode cX3_gatherKeysOf 49 = .ok (.iaload, 1) := by decide +kernel
theorem dX3_gatherKeysOf_50 : decode cX3_gatherKeysOf 50 = .ok (.iadd, 1) := by decide +kernel
theorem dX3_gatherKeysOf_51 : decode cX3_gatherKeysOf 51 = .ok (.istore 7, 2) := by decide +kernel
theorem dX3_gatherKeysOf_53 : decode cX3_gatherKeysOf 53 = .ok (.iload 5, 2) := by decide +kernel
theorem dX3_gatherKeysOf_55 : decode cX3_gatherKeysOf 55 = .ok (.istore 8, 2) := by decide +kernel
theorem dX3_gatherKeysOf_57 : decode cX3_gatherKeysOf 57 = .ok (.iload 8, 2) := by decide +kernel
theorem dX3_gatherKeysOf_59 : decode cX3_gatherKeysOf 59 = .ok (.ifCond .le 33, 3) := by decide +kernel
theorem dX3_gatherKeysOf_62 : decode cX3_gatherKeysOf 62 = .ok (.aload 4, 2) := by decide +kernel
theorem dX3_gatherKeysOf_64 : decode cX3_gatherKeysOf 64 = .ok (.iload 8, 2) := by decide +kernel
theorem dX3_gatherKeysOf_66 : decode cX3_gatherKeysOf 66 = .ok (.iconst 1, 1) := by decide +kernel
theorem dX3_gatherKeysOf_67 : decode cX3_gatherKeysOf 67 = .ok (.isub, 1) := by decide +kernel
theorem dX3_gatherKeysOf_68 : decode cX3_gatherKeysOf 68 = .ok (.iaload, 1) := by decide +kernel
theorem dX3_gatherKeysOf_69 : decode cX3_gatherKeysOf 69 = .ok (.iload 7, 2) := by decide +kernel
theorem dX3_gatherKeysOf_71 : decode cX3_gatherKeysOf 71 = .ok (.if_icmp .le 21, 3) := by decide +kernel
theorem dX3_gatherKeysOf_74 : decode cX3_gatherKeysOf 74 = .ok (.aload 4, 2) := by decide +kernel
theorem dX3_gatherKeysOf_76 : decode cX3_gatherKeysOf 76 = .ok (.iload 8, 2) := by decide +kernel
theorem dX3_gatherKeysOf_78 : decode cX3_gatherKeysOf 78 = .ok (.aload 4, 2) := by decide +kernel
theorem dX3_gatherKeysOf_80 : decode cX3_gatherKeysOf 80 = .ok (.iload 8, 2) := by decide +kernel
theorem dX3_gatherKeysOf_82 : decode cX3_gatherKeysOf 82 = .ok (.iconst 1, 1) := by decide +kernel
theorem dX3_gatherKeysOf_83 : decode cX3_gatherKeysOf 83 = .ok (.isub, 1) := by decide +kernel
theorem dX3_gatherKeysOf_84 : decode cX3_gatherKeysOf 84 = .ok (.iaload, 1) := by decide +kernel
theorem dX3_gatherKeysOf_85 : decode cX3_gatherKeysOf 85 = .ok (.iastore, 1) := by decide +kernel
theorem dX3_gatherKeysOf_86 : decode cX3_gatherKeysOf 86 = .ok (.iinc 8 (-1), 3) := by decide +kernel
theorem dX3_gatherKeysOf_89 : decode cX3_gatherKeysOf 89 = .ok (.goto (-32), 3) := by decide +kernel
theorem dX3_gatherKeysOf_92 : decode cX3_gatherKeysOf 92 = .ok (.aload 4, 2) := by decide +kernel
theorem dX3_gatherKeysOf_94 : decode cX3_gatherKeysOf 94 = .ok (.iload 8, 2) := by decide +kernel
theorem dX3_gatherKeysOf_96 : decode cX3_gatherKeysOf 96 = .ok (.iload 7, 2) := by decide +kernel
theorem dX3_gatherKeysOf_98 : decode cX3_gatherKeysOf 98 = .ok (.iastore, 1) := by decide +kernel
theorem dX3_gatherKeysOf_99 : decode cX3_gatherKeysOf 99 = .ok (.iinc 5 1, 3) := by decide +kernel
theorem dX3_gatherKeysOf_102 : decode cX3_gatherKeysOf 102 = .ok (.iinc 6 1, 3) := by decide +kernel
theorem dX3_gatherKeysOf_105 : decode cX3_gatherKeysOf 105 = .ok (.goto (-89), 3) := by decide +kernel
theorem dX3_gatherKeysOf_108 : decode cX3_gatherKeysOf 108 = .ok (.return_, 1) := by decide +kernel
theorem dX3_renumber_0 : decode cX3_renumber 0 = .ok (.aload_n 0, 1) := by decide +kernel
theorem dX3_renumber_1 : decode cX3_renumber 1 = .ok (.iload_n 1, 1) := by decide +kernel
theorem dX3_renumber_2 : decode cX3_renumber 2 = .ok (.iload_n 2, 1) := by decide +kernel
theorem dX3_renumber_3 : decode cX3_renumber 3 = .ok (.invokevirtual 75, 3) := by decide +kernel
theorem dX3_renumber_6 : decode cX3_renumber 6 = .ok (.iconst 0, 1) := by decide +kernel
theorem dX3_renumber_7 : decode cX3_renumber 7 = .ok (.istore_n 3, 1) := by decide +kernel
theorem dX3_renumber_8 : decode cX3_renumber 8 = .ok (.iconst 0, 1) := by decide +kernel
theorem dX3_renumber_9 : decode cX3_renumber 9 = .ok (.istore 4, 2) := by decide +kernel
theorem dX3_renumber_11 : decode cX3_renumber 11 = .ok (.iload 4, 2) := by decide +kernel
theorem dX3_renumber_13 : decode cX3_renumber 13 = .ok (.iload_n 1, 1) := by decide +kernel
theorem dX3_renumber_14 : decode cX3_renumber 14 = .ok (.if_icmp .ge 54, 3) := by decide +kernel
theorem dX3_renumber_17 : decode cX3_renumber 17 = .ok (.iload 4, 2) := by decide +kernel
theorem dX3_renumber_19 : decode cX3_renumber 19 = .ok (.ifCond .le 30, 3) := by decide +kernel
theorem dX3_renumber_22 : decode cX3_renumber 22 = .ok (.aload_n 0, 1) := by decide +kernel
theorem dX3_renumber_23 : decode cX3_renumber 23 = .ok (.aload_n 0, 1) := by decide +kernel
theorem dX3_renumber_24 : decode cX3_renumber 24 = .ok (.getfield 18, 3) := by decide +kernel
theorem dX3_renumber_27 : decode cX3_renumber 27 = .ok (.iload 4, 2) := by decide +kernel
theorem dX3_renumber_29 : decode cX3_renumber 29 = .ok (.iconst 1, 1) := by decide +kernel
theorem dX3_renumber_30 : decode cX3_renumber 30 = .ok (.isub, 1) := by decide +kernel
theorem dX3_renumber_31 : decode cX3_renumber 31 = .ok (.iaload, 1) := by decide +kernel
theorem dX3_renumber_32 : decode cX3_renumber 32 = .ok (.aload_n 0, 1) := by decide +kernel
theorem dX3_renumber_33 : decode cX3_renumber 33 = .ok (.getfield 18, 3) := by decide +kernel
theorem dX3_renumber_36 : decode cX3_renumber 36 = .ok (.iload 4, 2) := by decide +kernel
theorem dX3_renumber_38 : decode cX3_renumber 38 = .ok (.iaload, 1) := by decide +kernel
theorem dX3_renumber_39 : decode cX3_renumber 39 = .ok (.iload_n 2, 1) := by decide +kernel
theorem dX3_renumber_40 : decode cX3_renumber 40 = .ok (.invokevirtual 78, 3) := by decide +kernel
theorem dX3_renumber_43 : decode cX3_renumber 43 = .ok (.ifCond .eq 6, 3) := by decide +kernel
theorem dX3_renumber_46 : decode cX3_renumber 46 = .ok (.iinc 3 1, 3) := by decide +kernel
theorem dX3_renumber_49 : decode cX3_renumber 49 = .ok (.aload_n 0, 1) := by decide +kernel
theorem dX3_renumber_50 : decode cX3_renumber 50 = .ok (.getfield 15, 3) := by decide +kernel
theorem dX3_renumber_53 : decode cX3_renumber 53 = .ok (.aload_n 0, 1) := by decide +kernel
theorem dX3_renumber_54 : decode cX3_renumber 54 = .ok (.getfield 18, 3) := by decide +kernel
theorem dX3_renumber_57 : decode cX3_renumber 57 = .ok (.iload 4, 2) := by decide +kernel
theorem dX3_renumber_59 : decode cX3_renumber 59 = .ok (.iaload, 1) := by decide +kernel
theorem dX3_renumber_60 : decode cX3_renumber 60 = .ok (.iload_n 3, 1) := by decide +kernel
theorem dX3_renumber_61 : decode cX3_renumber 61 = .ok (.iastore, 1) := by decide +kernel
theorem dX3_renumber_62 : decode cX3_renumber 62 = .ok (.iinc 4 1, 3) := by decide +kernel
theorem dX3_renumber_65 : decode cX3_renumber 65 = .ok (.goto (-54), 3) := by decide +kernel
theorem dX3_renumber_68 : decode cX3_renumber 68 = .ok (.aload_n 0, 1) := by decide +kernel
theorem dX3_renumber_69 : decode cX3_renumber 69 = .ok (.iload_n 3, 1) := by decide +kernel
theorem dX3_renumber_70 : decode cX3_renumber 70 = .ok (.iconst 1, 1) := by decide +kernel
theorem dX3_renumber_71 : decode cX3_renumber 71 = .ok (.iadd, 1) := by decide +kernel
theorem dX3_renumber_72 : decode cX3_renumber 72 = .ok (.putfield 39, 3) := by decide +kernel
theorem dX3_renumber_75 : decode cX3_renumber 75 = .ok (.aload_n 0, 1) := by decide +kernel
theorem dX3_renumber_76 : decode cX3_renumber 76 = .ok (.getfield 15, 3) := by decide +kernel
theorem dX3_renumber_79 : decode cX3_renumber 79 = .ok (.iconst 0, 1) := by decide +kernel
theorem dX3_renumber_80 : decode cX3_renumber 80 = .ok (.aload_n 0, 1) := by decide +kernel
theorem dX3_renumber_81 : decode cX3_renumber 81 = .ok (.getfield 11, 3) := by decide +kernel
theorem dX3_renumber_84 : decode cX3_renumber 84 = .ok (.iconst 0, 1) := by decide +kernel
theorem dX3_renumber_85 : decode cX3_renumber 85 = .ok (.bipush 18, 2) := by decide +kernel
theorem dX3_renumber_87 : decode cX3_renumber 87 = .ok (.invokestatic 52, 3) := by decide +kernel
theorem dX3_renumber_90 : decode cX3_renumber 90 = .ok (.return_, 1) := by decide +kernel
theorem dX3_sortSpots_0 : decode cX3_sortSpots 0 = .ok (.iconst 1, 1) := by decide +kernel
theorem dX3_sortSpots_1 : decode cX3_sortSpots 1 = .ok (.istore_n 3, 1) := by decide +kernel
theorem dX3_sortSpots_2 : decode cX3_sortSpots 2 = .ok (.iload_n 3, 1) := by decide +kernel
theorem dX3_sortSpots_3 : decode cX3_sortSpots 3 = .ok (.iload_n 1, 1) := by decide +kernel
theorem dX3_sortSpots_4 : decode cX3_sortSpots 4 = .ok (.if_icmp .ge 75, 3) := by decide +kernel
theorem dX3_sortSpots_7 : decode cX3_sortSpots 7 = .ok (.aload_n 0, 1) := by decide +kernel
theorem dX3_sortSpots_8 : decode cX3_sortSpots 8 = .ok (.getfield 18, 3) := by decide +kernel
theorem dX3_sortSpots_11 : decode cX3_sortSpots 11 = .ok (.iload_n 3, 1) := by decide +kernel
theorem dX3_sortSpots_12 : decode cX3_sortSpots 12 = .ok (.iaload, 1) := by decide +kernel
theorem dX3_sortSpots_13 : decode cX3_sortSpots 13 = .ok (.istore 4, 2) := by decide +kernel
theorem dX3_sortSpots_15 : decode cX3_sortSpots 15 = .ok (.iload_n 3, 1) := by decide +kernel
theorem dX3_sortSpots_16 : decode cX3_sortSpots 16 = .ok (.istore 5, 2) := by decide +kernel
theorem dX3_sortSpots_18 : decode cX3_sortSpots 18 = .ok (.iload 5, 2) := by decide +kernel
theorem dX3_sortSpots_20 : decode cX3_sortSpots 20 = .ok (.ifCond .le 44, 3) := by decide +kernel
theorem dX3_sortSpots_23 : decode cX3_sortSpots 23 = .ok (.aload_n 0, 1) := by decide +kernel
theorem dX3_sortSpots_24 : decode cX3_sortSpots 24 = .ok (.aload_n 0, 1) := by decide +kernel
theorem dX3_sortSpots_25 : decode cX3_sortSpots 25 = .ok (.getfield 18, 3) := by decide +kernel
theorem dX3_sortSpots_28 : decode cX3_sortSpots 28 = .ok (.iload 5, 2) := by decide +kernel
theorem dX3_sortSpots_30 : decode cX3_sortSpots 30 = .ok (.iconst 1, 1) := by decide +kernel
theorem dX3_sortSpots_31 : decode cX3_sortSpots 31 = .ok (.isub, 1) := by decide +kernel
theorem dX3_sortSpots_32 : decode cX3_sortSpots 32 = .ok (.iaload, 1) := by decide +kernel
theorem dX3_sortSpots_33 : decode cX3_sortSpots 33 = .ok (.iload 4, 2) := by decide +kernel
theorem dX3_sortSpots_35 : decode cX3_sortSpots 35 = .ok (.iload_n 2, 1) := by decide +kernel
theorem dX3_sortSpots_36 : decode cX3_sortSpots 36 = .ok (.invokevirtual 78, 3) := by decide +kernel
theorem dX3_sortSpots_39 : decode cX3_sortSpots 39 = .ok (.ifCond .le 25, 3) := by decide +kernel
theorem dX3_sortSpots_42 : decode cX3_sortSpots 42 = .ok (.aload_n 0, 1) := by decide +kernel
theorem dX3_sortSpots_43 : decode cX3_sortSpots 43 = .ok (.getfield 18, 3) := by decide +kernel
theorem dX3_sortSpots_46 : decode cX3_sortSpots 46 = .ok (.iload 5, 2) := by decide +kernel
theorem dX3_sortSpots_48 : decode cX3_sortSpots 48 = .ok (.aload_n 0, 1) := by decide +kernel
theorem dX3_sortSpots_49 : decode cX3_sortSpots 49 = .ok (.getfield 18, 3) := by decide +kernel
theorem dX3_sortSpots_52 : decode cX3_sortSpots 52 = .ok (.iload 5, 2) := by decide +kernel
theorem dX3_sortSpots_54 : decode cX3_sortSpots 54 = .ok (.iconst 1, 1) := by decide +kernel
theorem dX3_sortSpots_55 : decode cX3_sortSpots 55 = .ok (.isub, 1) := by decide +kernel
theorem dX3_sortSpots_56 : decode cX3_sortSpots 56 = .ok (.iaload, 1) := by decide +kernel
theorem dX3_sortSpots_57 : decode cX3_sortSpots 57 = .ok (.iastore, 1) := by decide +kernel
theorem dX3_sortSpots_58 : decode cX3_sortSpots 58 = .ok (.iinc 5 (-1), 3) := by decide +kernel
theorem dX3_sortSpots_61 : decode cX3_sortSpots 61 = .ok (.goto (-43), 3) := by decide +kernel
theorem dX3_sortSpots_64 : decode cX3_sortSpots 64 = .ok (.aload_n 0, 1) := by decide +kernel
theorem dX3_sortSpots_65 : decode cX3_sortSpots 65 = .ok (.getfield 18, 3) := by decide +kernel
theorem dX3_sortSpots_68 : decode cX3_sortSpots 68 = .ok (.iload 5, 2) := by decide +kernel
theorem dX3_sortSpots_70 : decode cX3_sortSpots 70 = .ok (.iload 4, 2) := by decide +kernel
theorem dX3_sortSpots_72 : decode cX3_sortSpots 72 = .ok (.iastore, 1) := by decide +kernel
theorem dX3_sortSpots_73 : decode cX3_sortSpots 73 = .ok (.iinc 3 1, 3) := by decide +kernel
theorem dX3_sortSpots_76 : decode cX3_sortSpots 76 = .ok (.goto (-74), 3) := by decide +kernel
theorem dX3_sortSpots_79 : decode cX3_sortSpots 79 = .ok (.return_, 1) := by decide +kernel
theorem dX3_difference_0 : decode cX3_difference 0 = .ok (.aload_n 0, 1) := by decide +kernel
theorem dX3_difference_1 : decode cX3_difference 1 = .ok (.getfield 11, 3) := by decide +kernel
theorem dX3_difference_4 : decode cX3_difference 4 = .ok (.iload_n 1, 1) := by decide +kernel
theorem dX3_difference_5 : decode cX3_difference 5 = .ok (.iaload, 1) := by decide +kernel
theorem dX3_difference_6 : decode cX3_difference 6 = .ok (.aload_n 0, 1) := by decide +kernel
theorem dX3_difference_7 : decode cX3_difference 7 = .ok (.getfield 11, 3) := by decide +kernel
theorem dX3_difference_10 : decode cX3_difference 10 = .ok (.iload_n 2, 1) := by decide +kernel
theorem dX3_difference_11 : decode cX3_difference 11 = .ok (.iaload, 1) := by decide +kernel
theorem dX3_difference_12 : decode cX3_difference 12 = .ok (.if_icmp .eq 17, 3) := by decide +kernel
theorem dX3_difference_15 : decode cX3_difference 15 = .ok (.aload_n 0, 1) := by decide +kernel
theorem dX3_difference_16 : decode cX3_difference 16 = .ok (.getfield 11, 3) := by decide +kernel
theorem dX3_difference_19 : decode cX3_difference 19 = .ok (.iload_n 1, 1) := by decide +kernel
theorem dX3_difference_20 : decode cX3_difference 20 = .ok (.iaload, 1) := by decide +kernel
theorem dX3_difference_21 : decode cX3_difference 21 = .ok (.aload_n 0, 1) := by decide +kernel
theorem dX3_difference_22 : decode cX3_difference 22 = .ok (.getfield 11, 3) := by decide +kernel
theorem dX3_difference_25 : decode cX3_difference 25 = .ok (.iload_n 2, 1) := by decide +kernel
theorem dX3_difference_26 : decode cX3_difference 26 = .ok (.iaload, 1) := by decide +kernel
theorem dX3_difference_27 : decode cX3_difference 27 = .ok (.isub, 1) := by decide +kernel
theorem dX3_difference_28 : decode cX3_difference 28 = .ok (.ireturn, 1) := by decide +kernel
theorem dX3_difference_29 : decode cX3_difference 29 = .ok (.iconst 0, 1) := by decide +kernel
theorem dX3_difference_30 : decode cX3_difference 30 = .ok (.istore 4, 2) := by decide +kernel
theorem dX3_difference_32 : decode cX3_difference 32 = .ok (.iload 4, 2) := by decide +kernel
theorem dX3_difference_34 : decode cX3_difference 34 = .ok (.iload_n 3, 1) := by decide +kernel
theorem dX3_difference_35 : decode cX3_difference 35 = .ok (.if_icmp .ge 50, 3) := by decide +kernel
theorem dX3_difference_38 : decode cX3_difference 38 = .ok (.aload_n 0, 1) := by decide +kernel
theorem dX3_difference_39 : decode cX3_difference 39 = .ok (.getfield 26, 3) := by decide +kernel
theorem dX3_difference_42 : decode cX3_difference 42 = .ok (.iload_n 1, 1) := by decide +kernel
theorem dX3_difference_43 : decode cX3_difference 43 = .ok (.aaload, 1) := by decide +kernel
theorem dX3_difference_44 : decode cX3_difference 44 = .ok (.iload 4, 2) := by decide +kernel
theorem dX3_difference_46 : decode cX3_difference 46 = .ok (.iaload, 1) := by decide +kernel
theorem dX3_difference_47 : decode cX3_difference 47 = .ok (.aload_n 0, 1) := by decide +kernel
theorem dX3_difference_48 : decode cX3_difference 48 = .ok (.getfield 26, 3) := by decide +kernel
theorem dX3_difference_51 : decode cX3_difference 51 = .ok (.iload_n 2, 1) := by decide +kernel
theorem dX3_difference_52 : decode cX3_difference 52 = .ok (.aaload, 1) := by decide +kernel
theorem dX3_difference_53 : decode cX3_difference 53 = .ok (.iload 4, 2) := by decide +kernel
theorem dX3_difference_55 : decode cX3_difference 55 = .ok (.iaload, 1) := by decide +kernel
theorem dX3_difference_56 : decode cX3_difference 56 = .ok (.if_icmp .eq 23, 3) := by decide +kernel
theorem dX3_difference_59 : decode cX3_difference 59 = .ok (.aload_n 0, 1) := by decide +kernel
theorem dX3_difference_60 : decode cX3_difference 60 = .ok (.getfield 26, 3) := by decide +kernel
theorem dX3_difference_63 : decode cX3_difference 63 = .ok (.iload_n 1, 1) := by decide +kernel
theorem dX3_difference_64 : decode cX3_difference 64 = .ok (.aaload, 1) := by decide +kernel
theorem dX3_difference_65 : decode cX3_difference 65 = .ok (.iload 4, 2) := by decide +kernel
theorem dX3_difference_67 : decode cX3_difference 67 = .ok (.iaload, 1) := by decide +kernel
theorem dX3_difference_68 : decode cX3_difference 68 = .ok (.aload_n 0, 1) := by decide +kernel
theorem dX3_difference_69 : decode cX3_difference 69 = .ok (.getfield 26, 3) := by decide +kernel
theorem dX3_difference_72 : decode cX3_difference 72 = .ok (.iload_n 2, 1) := by decide +kernel
theorem dX3_difference_73 : decode cX3_difference 73 = .ok (.aaload, 1) := by decide +kernel
theorem dX3_difference_74 : decode cX3_difference 74 = .ok (.iload 4, 2) := by decide +kernel
theorem dX3_difference_76 : decode cX3_difference 76 = .ok (.iaload, 1) := by decide +kernel
theorem dX3_difference_77 : decode cX3_difference 77 = .ok (.isub, 1) := by decide +kernel
theorem dX3_difference_78 : decode cX3_difference 78 = .ok (.ireturn, 1) := by decide +kernel
theorem dX3_difference_79 : decode cX3_difference 79 = .ok (.iinc 4 1, 3) := by decide +kernel
theorem dX3_difference_82 : decode cX3_difference 82 = .ok (.goto (-50), 3) := by decide +kernel
theorem dX3_difference_85 : decode cX3_difference 85 = .ok (.iconst 0, 1) := by decide +kernel
theorem dX3_difference_86 : decode cX3_difference 86 = .ok (.ireturn, 1) := by decide +kernel
theorem dX4_init_0 : decode cX4_init 0 = .ok (.aload_n 0, 1) := by decide +kernel
theorem dX4_init_1 : decode cX4_init 1 = .ok (.invokespecial 1, 3) := by decide +kernel
theorem dX4_init_4 : decode cX4_init 4 = .ok (.aload_n 0, 1) := by decide +kernel
theorem dX4_init_5 : decode cX4_init 5 = .ok (.new 7, 3) := by decide +kernel
theorem dX4_init_8 : decode cX4_init 8 = .ok (.dup, 1) := by decide +kernel
theorem dX4_init_9 : decode cX4_init 9 = .ok (.invokespecial 9, 3) := by decide +kernel
theorem dX4_init_12 : decode cX4_init 12 = .ok (.putfield 10, 3) := by decide +kernel
theorem dX4_init_15 : decode cX4_init 15 = .ok (.return_, 1) := by decide +kernel
theorem dX4_find_0 : decode cX4_find 0 = .ok (.iconst 0, 1) := by decide +kernel
theorem dX4_find_1 : decode cX4_find 1 = .ok (.istore_n 2, 1) := by decide +kernel
theorem dX4_find_2 : decode cX4_find 2 = .ok (.iload_n 2, 1) := by decide +kernel
theorem dX4_find_3 : decode cX4_find 3 = .ok (.aload_n 1, 1) := by decide +kernel
theorem dX4_find_4 : decode cX4_find 4 = .ok (.getfield 16, 3) := by decide +kernel
theorem dX4_find_7 : decode cX4_find 7 = .ok (.if_icmp .ge 16, 3) := by decide +kernel
theorem dX4_find_10 : decode cX4_find 10 = .ok (.aload_n 1, 1) := by decide +kernel
theorem dX4_find_11 : decode cX4_find 11 = .ok (.getfield 22, 3) := by decide +kernel
theorem dX4_find_14 : decode cX4_find 14 = .ok (.iload_n 2, 1) := by decide +kernel
theorem dX4_find_15 : decode cX4_find 15 = .ok (.iload_n 2, 1) := by decide +kernel
theorem dX4_find_16 : decode cX4_find 16 = .ok (.iastore, 1) := by decide +kernel
theorem dX4_find_17 : decode cX4_find 17 = .ok (.iinc 2 1, 3) := by decide +kernel
theorem dX4_find_20 : decode cX4_find 20 = .ok (.goto (-18), 3) := by decide +kernel
theorem dX4_find_23 : decode cX4_find 23 = .ok (.aload_n 1, 1) := by decide +kernel
theorem dX4_find_24 : decode cX4_find 24 = .ok (.iconst 1, 1) := by decide +kernel
theorem dX4_find_25 : decode cX4_find 25 = .ok (.putfield 26, 3) := by decide +kernel
theorem dX4_find_28 : decode cX4_find 28 = .ok (.iconst 0, 1) := by decide +kernel
theorem dX4_find_29 : decode cX4_find 29 = .ok (.istore_n 2, 1) := by decide +kernel
theorem dX4_find_30 : decode cX4_find 30 = .ok (.iload_n 2, 1) := by decide +kernel
theorem dX4_find_31 : decode cX4_find 31 = .ok (.aload_n 1, 1) := by decide +kernel
theorem dX4_find_32 : decode cX4_find 32 = .ok (.getfield 16, 3) := by decide +kernel
theorem dX4_find_35 : decode cX4_find 35 = .ok (.if_icmp .ge 63, 3) := by decide +kernel
theorem dX4_find_38 : decode cX4_find 38 = .ok (.iconst 1, 1) := by decide +kernel
theorem dX4_find_39 : decode cX4_find 39 = .ok (.istore_n 3, 1) := by decide +kernel
theorem dX4_find_40 : decode cX4_find 40 = .ok (.iload_n 2, 1) := by decide +kernel
theorem dX4_find_41 : decode cX4_find 41 = .ok (.iconst 1, 1) := by decide +kernel
theorem dX4_find_42 : decode cX4_find 42 = .ok (.iadd, 1) := by decide +kernel
theorem dX4_find_43 : decode cX4_find 43 = .ok (.istore 4, 2) := by decide +kernel
theorem dX4_find_45 : decode cX4_find 45 = .ok (.iload 4, 2) := by decide +kernel
theorem dX4_find_47 : decode cX4_find 47 = .ok (.aload_n 1, 1) := by decide +kernel
theorem dX4_find_48 : decode cX4_find 48 = .ok (.getfield 16, 3) := by decide +kernel
theorem dX4_find_51 : decode cX4_find 51 = .ok (.if_icmp .ge 31, 3) := by decide +kernel
theorem dX4_find_54 : decode cX4_find 54 = .ok (.aload_n 0, 1) := by decide +kernel
theorem dX4_find_55 : decode cX4_find 55 = .ok (.getfield 10, 3) := by decide +kernel
theorem dX4_find_58 : decode cX4_find 58 = .ok (.aload_n 1, 1) := by decide +kernel
theorem dX4_find_59 : decode cX4_find 59 = .ok (.iload_n 2, 1) := by decide +kernel
theorem dX4_find_60 : decode cX4_find 60 = .ok (.iload 4, 2) := by decide +kernel
theorem dX4_find_62 : decode cX4_find 62 = .ok (.invokevirtual 29, 3) := by decide +kernel
theorem dX4_find_65 : decode cX4_find 65 = .ok (.ifCond .eq 11, 3) := by decide +kernel
theorem dX4_find_68 : decode cX4_find 68 = .ok (.iinc 3 1, 3) := by decide +kernel
theorem dX4_find_71 : decode cX4_find 71 = .ok (.aload_n 0, 1) := by decide +kernel
theorem dX4_find_72 : decode cX4_find 72 = .ok (.aload_n 1, 1) := by decide +kernel
theorem dX4_find_73 : decode cX4_find 73 = .ok (.invokevirtual 33, 3) := by decide +kernel
theorem dX4_find_76 : decode cX4_find 76 = .ok (.iinc 4 1, 3) := by decide +kernel
theorem dX4_find_79 : decode cX4_find 79 = .ok (.goto (-34), 3) := by decide +kernel
theorem dX4_find_82 : decode cX4_find 82 = .ok (.aload_n 1, 1) := by decide +kernel
theorem dX4_find_83 : decode cX4_find 83 = .ok (.dup, 1) := by decide +kernel
theorem dX4_find_84 : decode cX4_find 84 = .ok (.getfield 26, 3) := by decide +kernel
theorem dX4_find_87 : decode cX4_find 87 = .ok (.iload_n 3, 1) := by decide +kernel
theorem dX4_find_88 : decode cX4_find 88 = .ok (.imul, 1) := by decide +kernel
theorem dX4_find_89 : decode cX4_find 89 = .ok (.putfield 26, 3) := by decide +kernel
theorem dX4_find_92 : decode cX4_find 92 = .ok (.iinc 2 1, 3) := by decide +kernel
theorem dX4_find_95 : decode cX4_find 95 = .ok (.goto (-65), 3) := by decide +kernel
theorem dX4_find_98 : decode cX4_find 98 = .ok (.return_, 1) := by decide +kernel
theorem dX4_joinOrbits_0 : decode cX4_joinOrbits 0 = .ok (.aload_n 1, 1) := by decide +kernel
theorem dX4_joinOrbits_1 : decode cX4_joinOrbits 1 = .ok (.getfield 22, 3) := by decide +kernel
theorem dX4_joinOrbits_4 : decode cX4_joinOrbits 4 = .ok (.astore_n 2, 1) := by decide +kernel
theorem dX4_joinOrbits_5 : decode cX4_joinOrbits 5 = .ok (.iconst 0, 1) := by decide +kernel
theorem dX4_joinOrbits_6 : decode cX4_joinOrbits 6 = .ok (.istore_n 3, 1) := by decide +kernel
theorem dX4_joinOrbits_7 : decode cX4_joinOrbits 7 = .ok (.iload_n 3, 1) := by decide +kernel
theorem dX4_joinOrbits_8 : decode cX4_joinOrbits 8 = .ok (.aload_n 1, 1) := by decide +kernel
theorem dX4_joinOrbits_9 : decode cX4_joinOrbits 9 = .ok (.getfield 16, 3) := by decide +kernel
theorem dX4_joinOrbits_12 : decode cX4_joinOrbits 12 = .ok (.if_icmp .ge 56, 3) := by decide +kernel
theorem dX4_joinOrbits_15 : decode cX4_joinOrbits 15 = .ok (.aload_n 2, 1) := by decide +kernel
theorem dX4_joinOrbits_16 : decode cX4_joinOrbits 16 = .ok (.iload_n 3, 1) := by decide +kernel
theorem dX4_joinOrbits_17 : decode cX4_joinOrbits 17 = .ok (.iaload, 1) := by decide +kernel
theorem dX4_joinOrbits_18 : decode cX4_joinOrbits 18 = .ok (.istore 4, 2) := by decide +kernel
theorem dX4_joinOrbits_20 : decode cX4_joinOrbits 20 = .ok (.aload_n 2, 1) := by decide +kernel
theorem dX4_joinOrbits_21 : decode cX4_joinOrbits 21 = .ok (.aload_n 0, 1) := by decide +kernel
theorem dX4_joinOrbits_22 : decode cX4_joinOrbits 22 = .ok (.getfield 10, 3) := by decide +kernel
theorem dX4_joinOrbits_25 : decode cX4_joinOrbits 25 = .ok (.getfield 37, 3) := by decide +kernel
theorem dX4_joinOrbits_28 : decode cX4_joinOrbits 28 = .ok (.iload_n 3, 1) := by decide +kernel
theorem dX4_joinOrbits_29 : decode cX4_joinOrbits 29 = .ok (.iaload, 1) := by decide +kernel
theorem dX4_joinOrbits_30 : decode cX4_joinOrbits 30 = .ok (.iaload, 1) := by decide +kernel
theorem dX4_joinOrbits_31 : decode cX4_joinOrbits 31 = .ok (.istore 5, 2) := by decide +kernel
theorem dX4_joinOrbits_33 : decode cX4_joinOrbits 33 = .ok (.iload 4, 2) := by decide +kernel
theorem dX4_joinOrbits_35 : decode cX4_joinOrbits 35 = .ok (.iload 5, 2) := by decide +kernel
theorem dX4_joinOrbits_37 : decode cX4_joinOrbits 37 = .ok (.if_icmp .eq 25, 3) := by decide +kernel
theorem dX4_joinOrbits_40 : decode cX4_joinOrbits 40 = .ok (.aload_n 2, 1) := by decide +kernel
theorem dX4_joinOrbits_41 : decode cX4_joinOrbits 41 = .ok (.aload_n 1, 1) := by decide +kernel
theorem dX4_joinOrbits_42 : decode cX4_joinOrbits 42 = .ok (.getfield 16, 3) := by decide +kernel
theorem dX4_joinOrbits_45 : decode cX4_joinOrbits 45 = .ok (.iload 4, 2) := by decide +kernel
theorem dX4_joinOrbits_47 : decode cX4_joinOrbits 47 = .ok (.iload 5, 2) := by decide +kernel
theorem dX4_joinOrbits_49 : decode cX4_joinOrbits 49 = .ok (.invokestatic 40, 3) := by decide +kernel
theorem dX4_joinOrbits_52 : decode cX4_joinOrbits 52 = .ok (.iload 4, 2) := by decide +kernel
theorem dX4_joinOrbits_54 : decode cX4_joinOrbits 54 = .ok (.iload 5, 2) := by decide +kernel
theorem dX4_joinOrbits_56 : decode cX4_joinOrbits 56 = .ok (.invokestatic 46, 3) := by decide +kernel
theorem dX4_joinOrbits_59 : decode cX4_joinOrbits 59 = .ok (.invokestatic 49, 3) := by decide +kernel
theorem dX4_joinOrbits_62 : decode cX4_joinOrbits 62 = .ok (.iinc 3 1, 3) := by decide +kernel
theorem dX4_joinOrbits_65 : decode cX4_joinOrbits 65 = .ok (.goto (-58), 3) := by decide +kernel
theorem dX4_joinOrbits_68 : decode cX4_joinOrbits 68 = .ok (.return_, 1) := by decide +kernel
theorem dX4_replace_0 : decode cX4_replace 0 = .ok (.iconst 0, 1) := by decide +kernel
theorem dX4_replace_1 : decode cX4_replace 1 = .ok (.istore 4, 2) := by decide +kernel
theorem dX4_replace_3 : decode cX4_replace 3 = .ok (.iload 4, 2) := by decide +kernel
theorem dX4_replace_5 : decode cX4_replace 5 = .ok (.iload_n 1, 1) := by decide +kernel
theorem dX4_replace_6 : decode cX4_replace 6 = .ok (.if_icmp .ge 22, 3) := by decide +kernel
theorem dX4_replace_9 : decode cX4_replace 9 = .ok (.aload_n 0, 1) := by decide +kernel
theorem dX4_replace_10 : decode cX4_replace 10 = .ok (.iload 4, 2) := by decide +kernel
theorem dX4_replace_12 : decode cX4_replace 12 = .ok (.iaload, 1) := by decide +kernel
theorem dX4_replace_13 : decode cX4_replace 13 = .ok (.iload_n 2, 1) := by decide +kernel
theorem dX4_replace_14 : decode cX4_replace 14 = .ok (.if_icmp .ne 8, 3) := by decide +kernel
theorem dX4_replace_17 : decode cX4_replace 17 = .ok (.aload_n 0, 1) := by decide +kernel
theorem dX4_replace_18 : decode cX4_replace 18 = .ok (.iload 4, 2) := by decide +kernel
theorem dX4_replace_20 : decode cX4_replace 20 = .ok (.iload_n 3, 1) := by decide +kernel
theorem dX4_replace_21 : decode cX4_replace 21 = .ok (.iastore, 1) := by decide +kernel
theorem dX4_replace_22 : decode cX4_replace 22 = .ok (.iinc 4 1, 3) := by decide +kernel
theorem dX4_replace_25 : decode cX4_replace 25 = .ok (.goto (-22), 3) := by decide +kernel
theorem dX4_replace_28 : decode cX4_replace 28 = .ok (.return_, 1) := by decide +kernel
end
section
theorem dX5_init_0 : decode cX5_init 0 = .ok (.aload_n 0, 1) := by decide +kernel
theorem dX5_init_1 : decode cX5_init 1 = .ok (.invokespecial 1, 3) := by decide +kernel
theorem dX5_init_4 : decode cX5_init 4 = .ok (.aload_n 0, 1) := by decide +kernel
theorem dX5_init_5 : decode cX5_init 5 = .ok (.iconst 2, 1) := by decide +kernel
theorem dX5_init_6 : decode cX5_init 6 = .ok (.anewarray 7, 3) := by decide +kernel
theorem dX5_init_9 : decode cX5_init 9 = .ok (.putfield 9, 3) := by decide +kernel
theorem dX5_init_12 : decode cX5_init 12 = .ok (.aload_n 0, 1) := by decide +kernel
theorem dX5_init_13 : decode cX5_init 13 = .ok (.new 15, 3) := by decide +kernel
theorem dX5_init_16 : decode cX5_init 16 = .ok (.dup, 1) := by decide +kernel
theorem dX5_init_17 : decode cX5_init 17 = .ok (.invokespecial 17, 3) := by decide +kernel
theorem dX5_init_20 : decode cX5_init 20 = .ok (.putfield 18, 3) := by decide +kernel
theorem dX5_init_23 : decode cX5_init 23 = .ok (.aload_n 0, 1) := by decide +kernel
theorem dX5_init_24 : decode cX5_init 24 = .ok (.new 22, 3) := by decide +kernel
theorem dX5_init_27 : decode cX5_init 27 = .ok (.dup, 1) := by decide +kernel
theorem dX5_init_28 : decode cX5_init 28 = .ok (.invokespecial 24, 3) := by decide +kernel
theorem dX5_init_31 : decode cX5_init 31 = .ok (.putfield 25, 3) := by decide +kernel
theorem dX5_init_34 : decode cX5_init 34 = .ok (.aload_n 0, 1) := by decide +kernel
theorem dX5_init_35 : decode cX5_init 35 = .ok (.new 29, 3) := by decide +kernel
theorem dX5_init_38 : decode cX5_init 38 = .ok (.dup, 1) := by decide +kernel
theorem dX5_init_39 : decode cX5_init 39 = .ok (.invokespecial 31, 3) := by decide +kernel
theorem dX5_init_42 : decode cX5_init 42 = .ok (.putfield 32, 3) := by decide +kernel
theorem dX5_init_45 : decode cX5_init 45 = .ok (.aload_n 0, 1) := by decide +kernel
theorem dX5_init_46 : decode cX5_init 46 = .ok (.new 36, 3) := by decide +kernel
theorem dX5_init_49 : decode cX5_init 49 = .ok (.dup, 1) := by decide +kernel
theorem dX5_init_50 : decode cX5_init 50 = .ok (.invokespecial 38, 3) := by decide +kernel
theorem dX5_init_53 : decode cX5_init 53 = .ok (.putfield 39, 3) := by decide +kernel
theorem dX5_init_56 : decode cX5_init 56 = .ok (.aload_n 0, 1) := by decide +kernel
theorem dX5_init_57 : decode cX5_init 57 = .ok (.getfield 9, 3) := by decide +kernel
theorem dX5_init_60 : decode cX5_init 60 = .ok (.iconst 0, 1) := by decide +kernel
theorem dX5_init_61 : decode cX5_init 61 = .ok (.new 7, 3) := by decide +kernel
theorem dX5_init_64 : decode cX5_init 64 = .ok (.dup, 1) := by decide +kernel
theorem dX5_init_65 : decode cX5_init 65 = .ok (.invokespecial 43, 3) := by decide +kernel
theorem dX5_init_68 : decode cX5_init 68 = .ok (.aastore, 1) := by decide +kernel
theorem dX5_init_69 : decode cX5_init 69 = .ok (.aload_n 0, 1) := by decide +kernel
theorem dX5_init_70 : decode cX5_init 70 = .ok (.getfield 9, 3) := by decide +kernel
theorem dX5_init_73 : decode cX5_init 73 = .ok (.iconst 1, 1) := by decide +kernel
theorem dX5_init_74 : decode cX5_init 74 = .ok (.new 7, 3) := by decide +kernel
theorem dX5_init_77 : decode cX5_init 77 = .ok (.dup, 1) := by decide +kernel
theorem dX5_init_78 : decode cX5_init 78 = .ok (.invokespecial 43, 3) := by decide +kernel
theorem dX5_init_81 : decode cX5_init 81 = .ok (.aastore, 1) := by decide +kernel
theorem dX5_init_82 : decode cX5_init 82 = .ok (.return_, 1) := by decide +kernel
theorem dX5_begin_0 : decode cX5_begin 0 = .ok (.iload_n 1, 1) := by decide +kernel
theorem dX5_begin_1 : decode cX5_begin 1 = .ok (.iconst 1, 1) := by decide +kernel
theorem dX5_begin_2 : decode cX5_begin 2 = .ok (.if_icmp .lt 9, 3) := by decide +kernel
theorem dX5_begin_5 : decode cX5_begin 5 = .ok (.iload_n 1, 1) := by decide +kernel
theorem dX5_begin_6 : decode cX5_begin 6 = .ok (.bipush 9, 2) := by decide +kernel
theorem dX5_begin_8 : decode cX5_begin 8 = .ok (.if_icmp .le 5, 3) := by decide +kernel
theorem dX5_begin_11 : decode cX5_begin 11 = .ok (.iconst (-1), 1) := by decide +kernel
theorem dX5_begin_12 : decode cX5_begin 12 = .ok (.ireturn, 1) := by decide +kernel
theorem dX5_begin_13 : decode cX5_begin 13 = .ok (.aload_n 0, 1) := by decide +kernel
theorem dX5_begin_14 : decode cX5_begin 14 = .ok (.getfield 9, 3) := by decide +kernel
theorem dX5_begin_17 : decode cX5_begin 17 = .ok (.iconst 0, 1) := by decide +kernel
theorem dX5_begin_18 : decode cX5_begin 18 = .ok (.aaload, 1) := by decide +kernel
theorem dX5_begin_19 : decode cX5_begin 19 = .ok (.iload_n 1, 1) := by decide +kernel
theorem dX5_begin_20 : decode cX5_begin 20 = .ok (.invokevirtual 44, 3) := by decide +kernel
theorem dX5_begin_23 : decode cX5_begin 23 = .ok (.aload_n 0, 1) := by decide +kernel
theorem dX5_begin_24 : decode cX5_begin 24 = .ok (.getfield 9, 3) := by decide +kernel
theorem dX5_begin_27 : decode cX5_begin 27 = .ok (.iconst 1, 1) := by decide +kernel
theorem dX5_begin_28 : decode cX5_begin 28 = .ok (.aaload, 1) := by decide +kernel
theorem dX5_begin_29 : decode cX5_begin 29 = .ok (.iload_n 1, 1) := by decide +kernel
theorem dX5_begin_30 : decode cX5_begin 30 = .ok (.invokevirtual 44, 3) := by decide +kernel
theorem dX5_begin_33 : decode cX5_begin 33 = .ok (.aload_n 0, 1) := by decide +kernel
theorem dX5_begin_34 : decode cX5_begin 34 = .ok (.aload_n 0, 1) := by decide +kernel
theorem dX5_begin_35 : decode cX5_begin 35 = .ok (.getfield 9, 3) := by decide +kernel
theorem dX5_begin_38 : decode cX5_begin 38 = .ok (.iconst 0, 1) := by decide +kernel
theorem dX5_begin_39 : decode cX5_begin 39 = .ok (.aaload, 1) := by decide +kernel
theorem dX5_begin_40 : decode cX5_begin 40 = .ok (.invokevirtual 48, 3) := by decide +kernel
theorem dX5_begin_43 : decode cX5_begin 43 = .ok (.aload_n 0, 1) := by decide +kernel
theorem dX5_begin_44 : decode cX5_begin 44 = .ok (.aload_n 0, 1) := by decide +kernel
theorem dX5_begin_45 : decode cX5_begin 45 = .ok (.getfield 9, 3) := by decide +kernel
theorem dX5_begin_48 : decode cX5_begin 48 = .ok (.iconst 1, 1) := by decide +kernel
theorem dX5_begin_49 : decode cX5_begin 49 = .ok (.aaload, 1) := by decide +kernel
theorem dX5_begin_50 : decode cX5_begin 50 = .ok (.invokevirtual 48, 3) := by decide +kernel
theorem dX5_begin_53 : decode cX5_begin 53 = .ok (.iconst 0, 1) := by decide +kernel
theorem dX5_begin_54 : decode cX5_begin 54 = .ok (.ireturn, 1) := by decide +kernel
theorem dX5_label_0 : decode cX5_label 0 = .ok (.aload_n 0, 1) := by decide +kernel
theorem dX5_label_1 : decode cX5_label 1 = .ok (.iload_n 1, 1) := by decide +kernel
theorem dX5_label_2 : decode cX5_label 2 = .ok (.iload_n 2, 1) := by decide +kernel
theorem dX5_label_3 : decode cX5_label 3 = .ok (.invokevirtual 52, 3) := by decide +kernel
theorem dX5_label_6 : decode cX5_label 6 = .ok (.ifCond .eq 25, 3) := by decide +kernel
theorem dX5_label_9 : decode cX5_label 9 = .ok (.aload_n 0, 1) := by decide +kernel
theorem dX5_label_10 : decode cX5_label 10 = .ok (.iload_n 1, 1) := by decide +kernel
theorem dX5_label_11 : decode cX5_label 11 = .ok (.iload_n 3, 1) := by decide +kernel
theorem dX5_label_12 : decode cX5_label 12 = .ok (.invokevirtual 52, 3) := by decide +kernel
theorem dX5_label_15 : decode cX5_label 15 = .ok (.ifCond .eq 16, 3) := by decide +kernel
theorem dX5_label_18 : decode cX5_label 18 = .ok (.iload 4, 2) := by decide +kernel
theorem dX5_label_20 : decode cX5_label 20 = .ok (.invokestatic 56, 3) := by decide +kernel
theorem dX5_label_23 : decode cX5_label 23 = .ok (.ifCond .eq 8, 3) := by decide +kernel
theorem dX5_label_26 : decode cX5_label 26 = .ok (.iload_n 2, 1) := by decide +kernel
theorem dX5_label_27 : decode cX5_label 27 = .ok (.iload_n 3, 1) := by decide +kernel
theorem dX5_label_28 : decode cX5_label 28 = .ok (.if_icmp .ne 5, 3) := by decide +kernel
theorem dX5_label_31 : decode cX5_label 31 = .ok (.iconst (-1), 1) := by decide +kernel
theorem dX5_label_32 : decode cX5_label 32 = .ok (.ireturn, 1) := by decide +kernel
theorem dX5_label_33 : decode cX5_label 33 = .ok (.aload_n 0, 1) := by decide +kernel
theorem dX5_label_34 : decode cX5_label 34 = .ok (.getfield 9, 3) := by decide +kernel
theorem dX5_label_37 : decode cX5_label 37 = .ok (.iload_n 1, 1) := by decide +kernel
theorem dX5_label_38 : decode cX5_label 38 = .ok (.aaload, 1) := by decide +kernel
theorem dX5_label_39 : decode cX5_label 39 = .ok (.astore 5, 2) := by decide +kernel
theorem dX5_label_41 : decode cX5_label 41 = .ok (.aload 5, 2) := by decide +kernel
theorem dX5_label_43 : decode cX5_label 43 = .ok (.getfield 60, 3) := by decide +kernel
theorem dX5_label_46 : decode cX5_label 46 = .ok (.iload_n 2, 1) := by decide +kernel
theorem dX5_label_47 : decode cX5_label 47 = .ok (.aaload, 1) := by decide +kernel
theorem dX5_label_48 : decode cX5_label 48 = .ok (.iload_n 3, 1) := by decide +kernel
theorem dX5_label_49 : decode cX5_label 49 = .ok (.iaload, 1) := by decide +kernel
theorem dX5_label_50 : decode cX5_label 50 = .ok (.istore 6, 2) := by decide +kernel
theorem dX5_label_52 : decode cX5_label 52 = .ok (.aload 5, 2) := by decide +kernel
theorem dX5_label_54 : decode cX5_label 54 = .ok (.getfield 60, 3) := by decide +kernel
theorem dX5_label_57 : decode cX5_label 57 = .ok (.iload_n 2, 1) := by decide +kernel
theorem dX5_label_58 : decode cX5_label 58 = .ok (.aaload, 1) := by decide +kernel
theorem dX5_label_59 : decode cX5_label 59 = .ok (.iload_n 3, 1) := by decide +kernel
theorem dX5_label_60 : decode cX5_label 60 = .ok (.iload 4, 2) := by decide +kernel
theorem dX5_label_62 : decode cX5_label 62 = .ok (.iastore, 1) := by decide +kernel
theorem dX5_label_63 : decode cX5_label 63 = .ok (.aload_n 0, 1) := by decide +kernel
theorem dX5_label_64 : decode cX5_label 64 = .ok (.aload 5, 2) := by decide +kernel
theorem dX5_label_66 : decode cX5_label 66 = .ok (.invokevirtual 48, 3) := by decide +kernel
theorem dX5_label_69 : decode cX5_label 69 = .ok (.iload 6, 2) := by decide +kernel
theorem dX5_label_71 : decode cX5_label 71 = .ok (.ireturn, 1) := by decide +kernel
theorem dX5_tint_0 : decode cX5_tint 0 = .ok (.aload_n 0, 1) := by decide +kernel
theorem dX5_tint_1 : decode cX5_tint 1 = .ok (.iload_n 1, 1) := by decide +kernel
theorem dX5_tint_2 : decode cX5_tint 2 = .ok (.iload_n 2, 1) := by decide +kernel
theorem dX5_tint_3 : decode cX5_tint 3 = .ok (.invokevirtual 52, 3) := by decide +kernel
theorem dX5_tint_6 : decode cX5_tint 6 = .ok (.ifCond .eq 10, 3) := by decide +kernel
theorem dX5_tint_9 : decode cX5_tint 9 = .ok (.iload_n 3, 1) := by decide +kernel
theorem dX5_tint_10 : decode cX5_tint 10 = .ok (.invokestatic 56, 3) := by decide +kernel
theorem dX5_tint_13 : decode cX5_tint 13 = .ok (.ifCond .ne 5, 3) := by decide +kernel
theorem dX5_tint_16 : decode cX5_tint 16 = .ok (.iconst (-1), 1) := by decide +kernel
theorem dX5_tint_17 : decode cX5_tint 17 = .ok (.ireturn, 1) := by decide +kernel
theorem dX5_tint_18 : decode cX5_tint 18 = .ok (.aload_n 0, 1) := by decide +kernel
theorem dX5_tint_19 : decode cX5_tint 19 = .ok (.getfield 9, 3) := by decide +kernel
theorem dX5_tint_22 : decode cX5_tint 22 = .ok (.iload_n 1, 1) := by decide +kernel
theorem dX5_tint_23 : decode cX5_tint 23 = .ok (.aaload, 1) := by decide +kernel
theorem dX5_tint_24 : decode cX5_tint 24 = .ok (.astore 4, 2) := by decide +kernel
theorem dX5_tint_26 : decode cX5_tint 26 = .ok (.aload 4, 2) := by decide +kernel
theorem dX5_tint_28 : decode cX5_tint 28 = .ok (.getfield 64, 3) := by decide +kernel
theorem dX5_tint_31 : decode cX5_tint 31 = .ok (.iload_n 2, 1) := by decide +kernel
theorem dX5_tint_32 : decode cX5_tint 32 = .ok (.iaload, 1) := by decide +kernel
theorem dX5_tint_33 : decode cX5_tint 33 = .ok (.istore 5, 2) := by decide +kernel
theorem dX5_tint_35 : decode cX5_tint 35 = .ok (.aload 4, 2) := by decide +kernel
theorem dX5_tint_37 : decode cX5_tint 37 = .ok (.getfield 64, 3) := by decide +kernel
theorem dX5_tint_40 : decode cX5_tint 40 = .ok (.iload_n 2, 1) := by decide +kernel
theorem dX5_tint_41 : decode cX5_tint 41 = .ok (.iload_n 3, 1) := by decide +kernel
theorem dX5_tint_42 : decode cX5_tint 42 = .ok (.iastore, 1) := by decide +kernel
theorem dX5_tint_43 : decode cX5_tint 43 = .ok (.aload_n 0, 1) := by decide +kernel
theorem dX5_tint_44 : decode cX5_tint 44 = .ok (.aload 4, 2) := by decide +kernel
theorem dX5_tint_46 : decode cX5_tint 46 = .ok (.invokevirtual 48, 3) := by decide +kernel
theorem dX5_tint_49 : decode cX5_tint 49 = .ok (.iload 5, 2) := by decide +kernel
theorem dX5_tint_51 : decode cX5_tint 51 = .ok (.ireturn, 1) := by decide +kernel
theorem dX5_exchange_0 : decode cX5_exchange 0 = .ok (.aload_n 0, 1) := by decide +kernel
theorem dX5_exchange_1 : decode cX5_exchange 1 = .ok (.iload_n 1, 1) := by decide +kernel
theorem dX5_exchange_2 : decode cX5_exchange 2 = .ok (.iload_n 2, 1) := by decide +kernel
theorem dX5_exchange_3 : decode cX5_exchange 3 = .ok (.invokevirtual 52, 3) := by decide +kernel
theorem dX5_exchange_6 : decode cX5_exchange 6 = .ok (.ifCond .eq 12, 3) := by decide +kernel
theorem dX5_exchange_9 : decode cX5_exchange 9 = .ok (.aload_n 0, 1) := by decide +kernel
theorem dX5_exchange_10 : decode cX5_exchange 10 = .ok (.iload_n 1, 1) := by decide +kernel
theorem dX5_exchange_11 : decode cX5_exchange 11 = .ok (.iload_n 3, 1) := by decide +kernel
theorem dX5_exchange_12 : decode cX5_exchange 12 = .ok (.invokevirtual 52, 3) := by decide +kernel
theorem dX5_exchange_15 : decode cX5_exchange 15 = .ok (.ifCond .ne 5, 3) := by decide +kernel
theorem dX5_exchange_18 : decode cX5_exchange 18 = .ok (.iconst (-1), 1) := by decide +kernel
theorem dX5_exchange_19 : decode cX5_exchange 19 = .ok (.ireturn, 1) := by decide +kernel
theorem dX5_exchange_20 : decode cX5_exchange 20 = .ok (.aload_n 0, 1) := by decide +kernel
theorem dX5_exchange_21 : decode cX5_exchange 21 = .ok (.getfield 9, 3) := by decide +kernel
theorem dX5_exchange_24 : decode cX5_exchange 24 = .ok (.iload_n 1, 1) := by decide +kernel
theorem dX5_exchange_25 : decode cX5_exchange 25 = .ok (.aaload, 1) := by decide +kernel
theorem dX5_exchange_26 : decode cX5_exchange 26 = .ok (.iload_n 2, 1) := by decide +kernel
theorem dX5_exchange_27 : decode cX5_exchange 27 = .ok (.iload_n 3, 1) := by decide +kernel
theorem dX5_exchange_28 : decode cX5_exchange 28 = .ok (.invokevirtual 68, 3) := by decide +kernel
theorem dX5_exchange_31 : decode cX5_exchange 31 = .ok (.aload_n 0, 1) := by decide +kernel
theorem dX5_exchange_32 : decode cX5_exchange 32 = .ok (.aload_n 0, 1) := by decide +kernel
theorem dX5_exchange_33 : decode cX5_exchange 33 = .ok (.getfield 9, 3) := by decide +kernel
theorem dX5_exchange_36 : decode cX5_exchange 36 = .ok (.iload_n 1, 1) := by decide +kernel
theorem dX5_exchange_37 : decode cX5_exchange 37 = .ok (.aaload, 1) := by decide +kernel
theorem dX5_exchange_38 : decode cX5_exchange 38 = .ok (.invokevirtual 48, 3) := by decide +kernel
theorem dX5_exchange_41 : decode cX5_exchange 41 = .ok (.iconst 0, 1) := by decide +kernel
theorem dX5_exchange_42 : decode cX5_exchange 42 = .ok (.ireturn, 1) := by decide +kernel
theorem dX5_copy_0 : decode cX5_copy 0 = .ok (.iload_n 1, 1) := by decide +kernel
theorem dX5_copy_1 : decode cX5_copy 1 = .ok (.invokestatic 72, 3) := by decide +kernel
theorem dX5_copy_4 : decode cX5_copy 4 = .ok (.ifCond .ne 5, 3) := by decide +kernel
theorem dX5_copy_7 : decode cX5_copy 7 = .ok (.iconst (-1), 1) := by decide +kernel
theorem dX5_copy_8 : decode cX5_copy 8 = .ok (.ireturn, 1) := by decide +kernel
theorem dX5_copy_9 : decode cX5_copy 9 = .ok (.aload_n 0, 1) := by decide +kernel
theorem dX5_copy_10 : decode cX5_copy 10 = .ok (.getfield 9, 3) := by decide +kernel
theorem dX5_copy_13 : decode cX5_copy 13 = .ok (.iload_n 1, 1) := by decide +kernel
theorem dX5_copy_14 : decode cX5_copy 14 = .ok (.aaload, 1) := by decide +kernel
theorem dX5_copy_15 : decode cX5_copy 15 = .ok (.aload_n 0, 1) := by decide +kernel
theorem dX5_copy_16 : decode cX5_copy 16 = .ok (.getfield 9, 3) := by decide +kernel
theorem dX5_copy_19 : decode cX5_copy 19 = .ok (.iconst 1, 1) := by decide +kernel
theorem dX5_copy_20 : decode cX5_copy 20 = .ok (.iload_n 1, 1) := by decide +kernel
theorem dX5_copy_21 : decode cX5_copy 21 = .ok (.isub, 1) := by decide +kernel
theorem dX5_copy_22 : decode cX5_copy 22 = .ok (.aaload, 1) := by decide +kernel
theorem dX5_copy_23 : decode cX5_copy 23 = .ok (.invokevirtual 75, 3) := by decide +kernel
theorem dX5_copy_26 : decode cX5_copy 26 = .ok (.aload_n 0, 1) := by decide +kernel
theorem dX5_copy_27 : decode cX5_copy 27 = .ok (.aload_n 0, 1) := by decide +kernel
theorem dX5_copy_28 : decode cX5_copy 28 = .ok (.getfield 9, 3) := by decide +kernel
theorem dX5_copy_31 : decode cX5_copy 31 = .ok (.iload_n 1, 1) := by decide +kernel
theorem dX5_copy_32 : decode cX5_copy 32 = .ok (.aaload, 1) := by decide +kernel
theorem dX5_copy_33 : decode cX5_copy 33 = .ok (.invokevirtual 48, 3) := by decide +kernel
theorem dX5_copy_36 : decode cX5_copy 36 = .ok (.iconst 0, 1) := by decide +kernel
theorem dX5_copy_37 : decode cX5_copy 37 = .ok (.ireturn, 1) := by decide +kernel
theorem dX5_colours_0 : decode cX5_colours 0 = .ok (.aload_n 0, 1) := by decide +kernel
theorem dX5_colours_1 : decode cX5_colours 1 = .ok (.invokevirtual 78, 3) := by decide +kernel
theorem dX5_colours_4 : decode cX5_colours 4 = .ok (.aload_n 0, 1) := by decide +kernel
theorem dX5_colours_5 : decode cX5_colours 5 = .ok (.getfield 18, 3) := by decide +kernel
theorem dX5_colours_8 : decode cX5_colours 8 = .ok (.getfield 81, 3) := by decide +kernel
theorem dX5_colours_11 : decode cX5_colours 11 = .ok (.ireturn, 1) := by decide +kernel
theorem dX5_colour_0 : decode cX5_colour 0 = .ok (.aload_n 0, 1) := by decide +kernel
theorem dX5_colour_1 : decode cX5_colour 1 = .ok (.iload_n 1, 1) := by decide +kernel
theorem dX5_colour_2 : decode cX5_colour 2 = .ok (.iload_n 2, 1) := by decide +kernel
theorem dX5_colour_3 : decode cX5_colour 3 = .ok (.invokevirtual 52, 3) := by decide +kernel
theorem dX5_colour_6 : decode cX5_colour 6 = .ok (.ifCond .ne 5, 3) := by decide +kernel
theorem dX5_colour_9 : decode cX5_colour 9 = .ok (.iconst (-1), 1) := by decide +kernel
theorem dX5_colour_10 : decode cX5_colour 10 = .ok (.ireturn, 1) := by decide +kernel
theorem dX5_colour_11 : decode cX5_colour 11 = .ok (.aload_n 0, 1) := by decide +kernel
theorem dX5_colour_12 : decode cX5_colour 12 = .ok (.invokevirtual 78, 3) := by decide +kernel
theorem dX5_colour_15 : decode cX5_colour 15 = .ok (.aload_n 0, 1) := by decide +kernel
theorem dX5_colour_16 : decode cX5_colour 16 = .ok (.getfield 9, 3) := by decide +kernel
theorem dX5_colour_19 : decode cX5_colour 19 = .ok (.iload_n 1, 1) := by decide +kernel
theorem dX5_colour_20 : decode cX5_colour 20 = .ok (.aaload, 1) := by decide +kernel
theorem dX5_colour_21 : decode cX5_colour 21 = .ok (.getfield 85, 3) := by decide +kernel
theorem dX5_colour_24 : decode cX5_colour 24 = .ok (.iload_n 2, 1) := by decide +kernel
theorem dX5_colour_25 : decode cX5_colour 25 = .ok (.iaload, 1) := by decide +kernel
theorem dX5_colour_26 : decode cX5_colour 26 = .ok (.ireturn, 1) := by decide +kernel
theorem dX5_twins_0 : decode cX5_twins 0 = .ok (.aload_n 0, 1) := by decide +kernel
theorem dX5_twins_1 : decode cX5_twins 1 = .ok (.invokevirtual 78, 3) := by decide +kernel
theorem dX5_twins_4 : decode cX5_twins 4 = .ok (.aload_n 0, 1) := by decide +kernel
theorem dX5_twins_5 : decode cX5_twins 5 = .ok (.aload_n 0, 1) := by decide +kernel
theorem dX5_twins_6 : decode cX5_twins 6 = .ok (.getfield 18, 3) := by decide +kernel
theorem dX5_twins_9 : decode cX5_twins 9 = .ok (.aload_n 0, 1) := by decide +kernel
theorem dX5_twins_10 : decode cX5_twins 10 = .ok (.getfield 9, 3) := by decide +kernel
theorem dX5_twins_13 : decode cX5_twins 13 = .ok (.invokevirtual 88, 3) := by decide +kernel
theorem dX5_twins_16 : decode cX5_twins 16 = .ok (.ifCond .eq 29, 3) := by decide +kernel
theorem dX5_twins_19 : decode cX5_twins 19 = .ok (.aload_n 0, 1) := by decide +kernel
theorem dX5_twins_20 : decode cX5_twins 20 = .ok (.getfield 25, 3) := by decide +kernel
theorem dX5_twins_23 : decode cX5_twins 23 = .ok (.aload_n 0, 1) := by decide +kernel
theorem dX5_twins_24 : decode cX5_twins 24 = .ok (.getfield 9, 3) := by decide +kernel
theorem dX5_twins_27 : decode cX5_twins 27 = .ok (.iconst 0, 1) := by decide +kernel
theorem dX5_twins_28 : decode cX5_twins 28 = .ok (.aaload, 1) := by decide +kernel
theorem dX5_twins_29 : decode cX5_twins 29 = .ok (.aload_n 0, 1) := by decide +kernel
theorem dX5_twins_30 : decode cX5_twins 30 = .ok (.getfield 9, 3) := by decide +kernel
theorem dX5_twins_33 : decode cX5_twins 33 = .ok (.iconst 1, 1) := by decide +kernel
theorem dX5_twins_34 : decode cX5_twins 34 = .ok (.aaload, 1) := by decide +kernel
theorem dX5_twins_35 : decode cX5_twins 35 = .ok (.invokevirtual 92, 3) := by decide +kernel
theorem dX5_twins_38 : decode cX5_twins 38 = .ok (.ifCond .eq 7, 3) := by decide +kernel
theorem dX5_twins_41 : decode cX5_twins 41 = .ok (.iconst 1, 1) := by decide +kernel
theorem dX5_twins_42 : decode cX5_twins 42 = .ok (.goto 4, 3) := by decide +kernel
theorem dX5_twins_45 : decode cX5_twins 45 = .ok (.iconst 0, 1) := by decide +kernel
theorem dX5_twins_46 : decode cX5_twins 46 = .ok (.putfield 96, 3) := by decide +kernel
theorem dX5_twins_49 : decode cX5_twins 49 = .ok (.aload_n 0, 1) := by decide +kernel
theorem dX5_twins_50 : decode cX5_twins 50 = .ok (.getfield 96, 3) := by decide +kernel
theorem dX5_twins_53 : decode cX5_twins 53 = .ok (.ifCond .eq 7, 3) := by decide +kernel
theorem dX5_twins_56 : decode cX5_twins 56 = .ok (.iconst 1, 1) := by decide +kernel
theorem dX5_twins_57 : decode cX5_twins 57 = .ok (.goto 4, 3) := by decide +kernel
theorem dX5_twins_60 : decode cX5_twins 60 = .ok (.iconst 0, 1) := by decide +kernel
theorem dX5_twins_61 : decode cX5_twins 61 = .ok (.ireturn, 1) := by decide +kernel
theorem dX5_image_0 : decode cX5_image 0 = .ok (.aload_n 0, 1) := by decide +kernel
theorem dX5_image_1 : decode cX5_image 1 = .ok (.getfield 96, 3) := by decide +kernel
theorem dX5_image_4 : decode cX5_image 4 = .ok (.ifCond .eq 24, 3) := by decide +kernel
theorem dX5_image_7 : decode cX5_image 7 = .ok (.aload_n 0, 1) := by decide +kernel
theorem dX5_image_8 : decode cX5_image 8 = .ok (.iconst 0, 1) := by decide +kernel
theorem dX5_image_9 : decode cX5_image 9 = .ok (.iload_n 1, 1) := by decide +kernel
theorem dX5_image_10 : decode cX5_image 10 = .ok (.invokevirtual 52, 3) := by decide +kernel
theorem dX5_image_13 : decode cX5_image 13 = .ok (.ifCond .eq 15, 3) := by decide +kernel
theorem dX5_image_16 : decode cX5_image 16 = .ok (.aload_n 0, 1) := by decide +kernel
theorem dX5_image_17 : decode cX5_image 17 = .ok (.getfield 25, 3) := by decide +kernel
theorem dX5_image_20 : decode cX5_image 20 = .ok (.getfield 100, 3) := by decide +kernel
theorem dX5_image_23 : decode cX5_image 23 = .ok (.iload_n 1, 1) := by decide +kernel
theorem dX5_image_24 : decode cX5_image 24 = .ok (.iaload, 1) := by decide +kernel
theorem dX5_image_25 : decode cX5_image 25 = .ok (.goto 4, 3) := by decide +kernel
theorem dX5_image_28 : decode cX5_image 28 = .ok (.iconst (-1), 1) := by decide +kernel
theorem dX5_image_29 : decode cX5_image 29 = .ok (.ireturn, 1) := by decide +kernel
theorem dX5_next_0 : decode cX5_next 0 = .ok (.aload_n 0, 1) := by decide +kernel
theorem dX5_next_1 : decode cX5_next 1 = .ok (.getfield 96, 3) := by decide +kernel
theorem dX5_next_4 : decode cX5_next 4 = .ok (.ifCond .ne 5, 3) := by decide +kernel
theorem dX5_next_7 : decode cX5_next 7 = .ok (.iconst (-1), 1) := by decide +kernel
theorem dX5_next_8 : decode cX5_next 8 = .ok (.ireturn, 1) := by decide +kernel
theorem dX5_next_9 : decode cX5_next 9 = .ok (.aload_n 0, 1) := by decide +kernel
theorem dX5_next_10 : decode cX5_next 10 = .ok (.aload_n 0, 1) := by decide +kernel
theorem dX5_next_11 : decode cX5_next 11 = .ok (.getfield 25, 3) := by decide +kernel
theorem dX5_next_14 : decode cX5_next 14 = .ok (.aload_n 0, 1) := by decide +kernel
theorem dX5_next_15 : decode cX5_next 15 = .ok (.getfield 9, 3) := by decide +kernel
theorem dX5_next_18 : decode cX5_next 18 = .ok (.iconst 0, 1) := by decide +kernel
theorem dX5_next_19 : decode cX5_next 19 = .ok (.aaload, 1) := by decide +kernel
theorem dX5_next_20 : decode cX5_next 20 = .ok (.aload_n 0, 1) := by decide +kernel
theorem dX5_next_21 : decode cX5_next 21 = .ok (.getfield 9, 3) := by decide +kernel
theorem dX5_next_24 : decode cX5_next 24 = .ok (.iconst 1, 1) := by decide +kernel
theorem dX5_next_25 : decode cX5_next 25 = .ok (.aaload, 1) := by decide +kernel
theorem dX5_next_26 : decode cX5_next 26 = .ok (.invokevirtual 103, 3) := by decide +kernel
theorem dX5_next_29 : decode cX5_next 29 = .ok (.putfield 96, 3) := by decide +kernel
theorem dX5_next_32 : decode cX5_next 32 = .ok (.aload_n 0, 1) := by decide +kernel
theorem dX5_next_33 : decode cX5_next 33 = .ok (.getfield 96, 3) := by decide +kernel
theorem dX5_next_36 : decode cX5_next 36 = .ok (.ifCond .eq 7, 3) := by decide +kernel
theorem dX5_next_39 : decode cX5_next 39 = .ok (.iconst 1, 1) := by decide +kernel
theorem dX5_next_40 : decode cX5_next 40 = .ok (.goto 4, 3) := by decide +kernel
theorem dX5_next_43 : decode cX5_next 43 = .ok (.iconst 0, 1) := by decide +kernel
theorem dX5_next_44 : decode cX5_next 44 = .ok (.ireturn, 1) := by decide +kernel
theorem dX5_symmetries_0 : decode cX5_symmetries 0 = .ok (.iload_n 1, 1) := by decide +kernel
theorem dX5_symmetries_1 : decode cX5_symmetries 1 = .ok (.invokestatic 72, 3) := by decide +kernel
theorem dX5_symmetries_4 : decode cX5_symmetries 4 = .ok (.ifCond .eq 14, 3) := by decide +kernel
theorem dX5_symmetries_7 : decode cX5_symmetries 7 = .ok (.aload_n 0, 1) := by decide +kernel
theorem dX5_symmetries_8 : decode cX5_symmetries 8 = .ok (.iload_n 1, 1) := by decide +kernel
theorem dX5_symmetries_9 : decode cX5_symmetries 9 = .ok (.invokevirtual 106, 3) := by decide +kernel
theorem dX5_symmetries_12 : decode cX5_symmetries 12 = .ok (.getfield 110, 3) := by decide +kernel
theorem dX5_symmetries_15 : decode cX5_symmetries 15 = .ok (.goto 4, 3) := by decide +kernel
theorem dX5_symmetries_18 : decode cX5_symmetries 18 = .ok (.iconst (-1), 1) := by decide +kernel
theorem dX5_symmetries_19 : decode cX5_symmetries 19 = .ok (.ireturn, 1) := by decide +kernel
theorem dX5_orbit_0 : decode cX5_orbit 0 = .ok (.aload_n 0, 1) := by decide +kernel
theorem dX5_orbit_1 : decode cX5_orbit 1 = .ok (.iload_n 1, 1) := by decide +kernel
theorem dX5_orbit_2 : decode cX5_orbit 2 = .ok (.iload_n 2, 1) := by decide +kernel
theorem dX5_orbit_3 : decode cX5_orbit 3 = .ok (.invokevirtual 52, 3) := by decide +kernel
theorem dX5_orbit_6 : decode cX5_orbit 6 = .ok (.ifCond .eq 16, 3) := by decide +kernel
theorem dX5_orbit_9 : decode cX5_orbit 9 = .ok (.aload_n 0, 1) := by decide +kernel
theorem dX5_orbit_10 : decode cX5_orbit 10 = .ok (.iload_n 1, 1) := by decide +kernel
theorem dX5_orbit_11 : decode cX5_orbit 11 = .ok (.invokevirtual 106, 3) := by decide +kernel
theorem dX5_orbit_14 : decode cX5_orbit 14 = .ok (.getfield 113, 3) := by decide +kernel
theorem dX5_orbit_17 : decode cX5_orbit 17 = .ok (.iload_n 2, 1) := by decide +kernel
theorem dX5_orbit_18 : decode cX5_orbit 18 = .ok (.iaload, 1) := by decide +kernel
theorem dX5_orbit_19 : decode cX5_orbit 19 = .ok (.goto 4, 3) := by decide +kernel
theorem dX5_orbit_22 : decode cX5_orbit 22 = .ok (.iconst (-1), 1) := by decide +kernel
theorem dX5_orbit_23 : decode cX5_orbit 23 = .ok (.ireturn, 1) := by decide +kernel
theorem dX5_form_0 : decode cX5_form 0 = .ok (.iload_n 1, 1) := by decide +kernel
theorem dX5_form_1 : decode cX5_form 1 = .ok (.invokestatic 72, 3) := by decide +kernel
theorem dX5_form_4 : decode cX5_form 4 = .ok (.ifCond .eq 15, 3) := by decide +kernel
theorem dX5_form_7 : decode cX5_form 7 = .ok (.iload_n 2, 1) := by decide +kernel
theorem dX5_form_8 : decode cX5_form 8 = .ok (.ifCond .lt 11, 3) := by decide +kernel
theorem dX5_form_11 : decode cX5_form 11 = .ok (.iload_n 2, 1) := by decide +kernel
theorem dX5_form_12 : decode cX5_form 12 = .ok (.aload_n 0, 1) := by decide +kernel
theorem dX5_form_13 : decode cX5_form 13 = .ok (.invokevirtual 116, 3) := by decide +kernel
theorem dX5_form_16 : decode cX5_form 16 = .ok (.if_icmp .lt 5, 3) := by decide +kernel
theorem dX5_form_19 : decode cX5_form 19 = .ok (.iconst (-1), 1) := by decide +kernel
theorem dX5_form_20 : decode cX5_form 20 = .ok (.ireturn, 1) := by decide +kernel
theorem dX5_form_21 : decode cX5_form 21 = .ok (.aload_n 0, 1) := by decide +kernel
theorem dX5_form_22 : decode cX5_form 22 = .ok (.iload_n 1, 1) := by decide +kernel
theorem dX5_form_23 : decode cX5_form 23 = .ok (.invokevirtual 120, 3) := by decide +kernel
theorem dX5_form_26 : decode cX5_form 26 = .ok (.iload_n 2, 1) := by decide +kernel
theorem dX5_form_27 : decode cX5_form 27 = .ok (.invokevirtual 123, 3) := by decide +kernel
theorem dX5_form_30 : decode cX5_form 30 = .ok (.ireturn, 1) := by decide +kernel
theorem dX5_compare_0 : decode cX5_compare 0 = .ok (.iload_n 1, 1) := by decide +kernel
theorem dX5_compare_1 : decode cX5_compare 1 = .ok (.invokestatic 72, 3) := by decide +kernel
theorem dX5_compare_4 : decode cX5_compare 4 = .ok (.ifCond .ne 6, 3) := by decide +kernel
theorem dX5_compare_7 : decode cX5_compare 7 = .ok (.bipush (-2), 2) := by decide +kernel
theorem dX5_compare_9 : decode cX5_compare 9 = .ok (.ireturn, 1) := by decide +kernel
theorem dX5_compare_10 : decode cX5_compare 10 = .ok (.aload_n 0, 1) := by decide +kernel
theorem dX5_compare_11 : decode cX5_compare 11 = .ok (.iload_n 1, 1) := by decide +kernel
theorem dX5_compare_12 : decode cX5_compare 12 = .ok (.invokevirtual 120, 3) := by decide +kernel
theorem dX5_compare_15 : decode cX5_compare 15 = .ok (.getfield 127, 3) := by decide +kernel
theorem dX5_compare_18 : decode cX5_compare 18 = .ok (.aload_n 0, 1) := by decide +kernel
theorem dX5_compare_19 : decode cX5_compare 19 = .ok (.iconst 1, 1) := by decide +kernel
theorem dX5_compare_20 : decode cX5_compare 20 = .ok (.iload_n 1, 1) := by decide +kernel
theorem dX5_compare_21 : decode cX5_compare 21 = .ok (.isub, 1) := by decide +kernel
theorem dX5_compare_22 : decode cX5_compare 22 = .ok (.invokevirtual 120, 3) := by decide +kernel
theorem dX5_compare_25 : decode cX5_compare 25 = .ok (.getfield 127, 3) := by decide +kernel
theorem dX5_compare_28 : decode cX5_compare 28 = .ok (.aload_n 0, 1) := by decide +kernel
theorem dX5_compare_29 : decode cX5_compare 29 = .ok (.getfield 9, 3) := by decide +kernel
theorem dX5_compare_32 : decode cX5_compare 32 = .ok (.iload_n 1, 1) := by decide +kernel
theorem dX5_compare_33 : decode cX5_compare 33 = .ok (.aaload, 1) := by decide +kernel
theorem dX5_compare_34 : decode cX5_compare 34 = .ok (.getfield 131, 3) := by decide +kernel
theorem dX5_compare_37 : decode cX5_compare 37 = .ok (.invokestatic 134, 3) := by decide +kernel
theorem dX5_compare_40 : decode cX5_compare 40 = .ok (.ireturn, 1) := by decide +kernel
theorem dX5_count_0 : decode cX5_count 0 = .ok (.iload_n 1, 1) := by decide +kernel
theorem dX5_count_1 : decode cX5_count 1 = .ok (.tableswitch 83 0 4 #[35, 45, 55, 65, 78], 35) := by decide +kernel
theorem dX5_count_36 : decode cX5_count 36 = .ok (.aload_n 0, 1) := by decide +kernel
theorem dX5_count_37 : decode cX5_count 37 = .ok (.getfield 9, 3) := by decide +kernel
theorem dX5_count_40 : decode cX5_count 40 = .ok (.iconst 0, 1) := by decide +kernel
theorem dX5_count_41 : decode cX5_count 41 = .ok (.aaload, 1) := by decide +kernel
theorem dX5_count_42 : decode cX5_count 42 = .ok (.getfield 131, 3) := by decide +kernel
theorem dX5_count_45 : decode cX5_count 45 = .ok (.ireturn, 1) := by decide +kernel
theorem dX5_count_46 : decode cX5_count 46 = .ok (.aload_n 0, 1) := by decide +kernel
theorem dX5_count_47 : decode cX5_count 47 = .ok (.getfield 9, 3) := by decide +kernel
theorem dX5_count_50 : decode cX5_count 50 = .ok (.iconst 0, 1) := by decide +kernel
theorem dX5_count_51 : decode cX5_count 51 = .ok (.aaload, 1) := by decide +kernel
theorem dX5_count_52 : decode cX5_count 52 = .ok (.invokevirtual 138, 3) := by decide +kernel
theorem dX5_count_55 : decode cX5_count 55 = .ok (.ireturn, 1) := by decide +kernel
theorem dX5_count_56 : decode cX5_count 56 = .ok (.aload_n 0, 1) := by decide +kernel
theorem dX5_count_57 : decode cX5_count 57 = .ok (.getfield 9, 3) := by decide +kernel
theorem dX5_count_60 : decode cX5_count 60 = .ok (.iconst 1, 1) := by decide +kernel
theorem dX5_count_61 : decode cX5_count 61 = .ok (.aaload, 1) := by decide +kernel
theorem dX5_count_62 : decode cX5_count 62 = .ok (.invokevirtual 138, 3) := by decide +kernel
theorem dX5_count_65 : decode cX5_count 65 = .ok (.ireturn, 1) := by decide +kernel
theorem dX5_count_66 : decode cX5_count 66 = .ok (.aload_n 0, 1) := by decide +kernel
theorem dX5_count_67 : decode cX5_count 67 = .ok (.getfield 96, 3) := by decide +kernel
theorem dX5_count_70 : decode cX5_count 70 = .ok (.ifCond .eq 7, 3) := by decide +kernel
theorem dX5_count_73 : decode cX5_count 73 = .ok (.iconst 1, 1) := by decide +kernel
theorem dX5_count_74 : decode cX5_count 74 = .ok (.goto 4, 3) := by decide +kernel
theorem dX5_count_77 : decode cX5_count 77 = .ok (.iconst 0, 1) := by decide +kernel
theorem dX5_count_78 : decode cX5_count 78 = .ok (.ireturn, 1) := by decide +kernel
theorem dX5_count_79 : decode cX5_count 79 = .ok (.aload_n 0, 1) := by decide +kernel
theorem dX5_count_80 : decode cX5_count 80 = .ok (.invokevirtual 116, 3) := by decide +kernel
theorem dX5_count_83 : decode cX5_count 83 = .ok (.ireturn, 1) := by decide +kernel
theorem dX5_count_84 : decode cX5_count 84 = .ok (.iconst (-1), 1) := by decide +kernel
theorem dX5_count_85 : decode cX5_count 85 = .ok (.ireturn, 1) := by decide +kernel
theorem dX5_isGraph_0 : decode cX5_isGraph 0 = .ok (.iload_n 0, 1) := by decide +kernel
theorem dX5_isGraph_1 : decode cX5_isGraph 1 = .ok (.ifCond .eq 8, 3) := by decide +kernel
theorem dX5_isGraph_4 : decode cX5_isGraph 4 = .ok (.iload_n 0, 1) := by decide +kernel
theorem dX5_isGraph_5 : decode cX5_isGraph 5 = .ok (.iconst 1, 1) := by decide +kernel
theorem dX5_isGraph_6 : decode cX5_isGraph 6 = .ok (.if_icmp .ne 7, 3) := by decide +kernel
theorem dX5_isGraph_9 : decode cX5_isGraph 9 = .ok (.iconst 1, 1) := by decide +kernel
theorem dX5_isGraph_10 : decode cX5_isGraph 10 = .ok (.goto 4, 3) := by decide +kernel
theorem dX5_isGraph_13 : decode cX5_isGraph 13 = .ok (.iconst 0, 1) := by decide +kernel
theorem dX5_isGraph_14 : decode cX5_isGraph 14 = .ok (.ireturn, 1) := by decide +kernel
theorem dX5_isVertex_0 : decode cX5_isVertex 0 = .ok (.iload_n 1, 1) := by decide +kernel
theorem dX5_isVertex_1 : decode cX5_isVertex 1 = .ok (.invokestatic 72, 3) := by decide +kernel
theorem dX5_isVertex_4 : decode cX5_isVertex 4 = .ok (.ifCond .eq 24, 3) := by decide +kernel
theorem dX5_isVertex_7 : decode cX5_isVertex 7 = .ok (.iload_n 2, 1) := by decide +kernel
theorem dX5_isVertex_8 : decode cX5_isVertex 8 = .ok (.ifCond .lt 20, 3) := by decide +kernel
theorem dX5_isVertex_11 : decode cX5_isVertex 11 = .ok (.iload_n 2, 1) := by decide +kernel
theorem dX5_isVertex_12 : decode cX5_isVertex 12 = .ok (.aload_n 0, 1) := by decide +kernel
theorem dX5_isVertex_13 : decode cX5_isVertex 13 = .ok (.getfield 9, 3) := by decide +kernel
theorem dX5_isVertex_16 : decode cX5_isVertex 16 = .ok (.iload_n 1, 1) := by decide +kernel
theorem dX5_isVertex_17 : decode cX5_isVertex 17 = .ok (.aaload, 1) := by decide +kernel
theorem dX5_isVertex_18 : decode cX5_isVertex 18 = .ok (.getfield 131, 3) := by decide +kernel
theorem dX5_isVertex_21 : decode cX5_isVertex 21 = .ok (.if_icmp .ge 7, 3) := by decide +kernel
theorem dX5_isVertex_24 : decode cX5_isVertex 24 = .ok (.iconst 1, 1) := by decide +kernel
theorem dX5_isVertex_25 : decode cX5_isVertex 25 = .ok (.goto 4, 3) := by decide +kernel
theorem dX5_isVertex_28 : decode cX5_isVertex 28 = .ok (.iconst 0, 1) := by decide +kernel
theorem dX5_isVertex_29 : decode cX5_isVertex 29 = .ok (.ireturn, 1) := by decide +kernel
theorem dX5_isMark_0 : decode cX5_isMark 0 = .ok (.iload_n 0, 1) := by decide +kernel
theorem dX5_isMark_1 : decode cX5_isMark 1 = .ok (.ifCond .lt 12, 3) := by decide +kernel
theorem dX5_isMark_4 : decode cX5_isMark 4 = .ok (.iload_n 0, 1) := by decide +kernel
theorem dX5_isMark_5 : decode cX5_isMark 5 = .ok (.iconst 3, 1) := by decide +kernel
theorem dX5_isMark_6 : decode cX5_isMark 6 = .ok (.if_icmp .gt 7, 3) := by decide +kernel
theorem dX5_isMark_9 : decode cX5_isMark 9 = .ok (.iconst 1, 1) := by decide +kernel
theorem dX5_isMark_10 : decode cX5_isMark 10 = .ok (.goto 4, 3) := by decide +kernel
theorem dX5_isMark_13 : decode cX5_isMark 13 = .ok (.iconst 0, 1) := by decide +kernel
theorem dX5_isMark_14 : decode cX5_isMark 14 = .ok (.ireturn, 1) := by decide +kernel
theorem dX5_formLength_0 : decode cX5_formLength 0 = .ok (.aload_n 0, 1) := by decide +kernel
theorem dX5_formLength_1 : decode cX5_formLength 1 = .ok (.getfield 9, 3) := by decide +kernel
theorem dX5_formLength_4 : decode cX5_formLength 4 = .ok (.iconst 0, 1) := by decide +kernel
theorem dX5_formLength_5 : decode cX5_formLength 5 = .ok (.aaload, 1) := by decide +kernel
theorem dX5_formLength_6 : decode cX5_formLength 6 = .ok (.getfield 131, 3) := by decide +kernel
theorem dX5_formLength_9 : decode cX5_formLength 9 = .ok (.aload_n 0, 1) := by decide +kernel
theorem dX5_formLength_10 : decode cX5_formLength 10 = .ok (.getfield 9, 3) := by decide +kernel
theorem dX5_formLength_13 : decode cX5_formLength 13 = .ok (.iconst 0, 1) := by decide +kernel
theorem dX5_formLength_14 : decode cX5_formLength 14 = .ok (.aaload, 1) := by decide +kernel
theorem dX5_formLength_15 : decode cX5_formLength 15 = .ok (.getfield 131, 3) := by decide +kernel
theorem dX5_formLength_18 : decode cX5_formLength 18 = .ok (.imul, 1) := by decide +kernel
theorem dX5_formLength_19 : decode cX5_formLength 19 = .ok (.ireturn, 1) := by decide +kernel
theorem dX5_noteChange_0 : decode cX5_noteChange 0 = .ok (.aload_n 1, 1) := by decide +kernel
theorem dX5_noteChange_1 : decode cX5_noteChange 1 = .ok (.iconst 0, 1) := by decide +kernel
theorem dX5_noteChange_2 : decode cX5_noteChange 2 = .ok (.putfield 141, 3) := by decide +kernel
theorem dX5_noteChange_5 : decode cX5_noteChange 5 = .ok (.aload_n 1, 1) := by decide +kernel
theorem dX5_noteChange_6 : decode cX5_noteChange 6 = .ok (.iconst 0, 1) := by decide +kernel
theorem dX5_noteChange_7 : decode cX5_noteChange 7 = .ok (.putfield 144, 3) := by decide +kernel
theorem dX5_noteChange_10 : decode cX5_noteChange 10 = .ok (.aload_n 0, 1) := by decide +kernel
theorem dX5_noteChange_11 : decode cX5_noteChange 11 = .ok (.iconst 0, 1) := by decide +kernel
theorem dX5_noteChange_12 : decode cX5_noteChange 12 = .ok (.putfield 147, 3) := by decide +kernel
theorem dX5_noteChange_15 : decode cX5_noteChange 15 = .ok (.aload_n 0, 1) := by decide +kernel
theorem dX5_noteChange_16 : decode cX5_noteChange 16 = .ok (.iconst 0, 1) := by decide +kernel
theorem dX5_noteChange_17 : decode cX5_noteChange 17 = .ok (.putfield 96, 3) := by decide +kernel
theorem dX5_noteChange_20 : decode cX5_noteChange 20 = .ok (.return_, 1) := by decide +kernel
theorem dX5_paintGraphs_0 : decode cX5_paintGraphs 0 = .ok (.aload_n 0, 1) := by decide +kernel
theorem dX5_paintGraphs_1 : decode cX5_paintGraphs 1 = .ok (.getfield 147, 3) := by decide +kernel
theorem dX5_paintGraphs_4 : decode cX5_paintGraphs 4 = .ok (.ifCond .ne 19, 3) := by decide +kernel
theorem dX5_paintGraphs_7 : decode cX5_paintGraphs 7 = .ok (.aload_n 0, 1) := by decide +kernel
theorem dX5_paintGraphs_8 : decode cX5_paintGraphs 8 = .ok (.getfield 18, 3) := by decide +kernel
theorem dX5_paintGraphs_11 : decode cX5_paintGraphs 11 = .ok (.aload_n 0, 1) := by decide +kernel
theorem dX5_paintGraphs_12 : decode cX5_paintGraphs 12 = .ok (.getfield 9, 3) := by decide +kernel
theorem dX5_paintGraphs_15 : decode cX5_paintGraphs 15 = .ok (.invokevirtual 150, 3) := by decide +kernel
theorem dX5_paintGraphs_18 : decode cX5_paintGraphs 18 = .ok (.aload_n 0, 1) := by decide +kernel
theorem dX5_paintGraphs_19 : decode cX5_paintGraphs 19 = .ok (.iconst 1, 1) := by decide +kernel
theorem dX5_paintGraphs_20 : decode cX5_paintGraphs 20 = .ok (.putfield 147, 3) := by decide +kernel
theorem dX5_paintGraphs_23 : decode cX5_paintGraphs 23 = .ok (.return_, 1) := by decide +kernel
theorem dX5_withSymmetries_0 : decode cX5_withSymmetries 0 = .ok (.aload_n 0, 1) := by decide +kernel
theorem dX5_withSymmetries_1 : decode cX5_withSymmetries 1 = .ok (.getfield 9, 3) := by decide +kernel
theorem dX5_withSymmetries_4 : decode cX5_withSymmetries 4 = .ok (.iload_n 1, 1) := by decide +kernel
theorem dX5_withSymmetries_5 : decode cX5_withSymmetries 5 = .ok (.aaload, 1) := by decide +kernel
theorem dX5_withSymmetries_6 : decode cX5_withSymmetries 6 = .ok (.astore_n 2, 1) := by decide +kernel
theorem dX5_withSymmetries_7 : decode cX5_withSymmetries 7 = .ok (.aload_n 2, 1) := by decide +kernel
theorem dX5_withSymmetries_8 : decode cX5_withSymmetries 8 = .ok (.getfield 141, 3) := by decide +kernel
theorem dX5_withSymmetries_11 : decode cX5_withSymmetries 11 = .ok (.ifCond .ne 20, 3) := by decide +kernel
theorem dX5_withSymmetries_14 : decode cX5_withSymmetries 14 = .ok (.aload_n 0, 1) := by decide +kernel
theorem dX5_withSymmetries_15 : decode cX5_withSymmetries 15 = .ok (.invokevirtual 78, 3) := by decide +kernel
theorem dX5_withSymmetries_18 : decode cX5_withSymmetries 18 = .ok (.aload_n 0, 1) := by decide +kernel
theorem dX5_withSymmetries_19 : decode cX5_withSymmetries 19 = .ok (.getfield 32, 3) := by decide +kernel
theorem dX5_withSymmetries_22 : decode cX5_withSymmetries 22 = .ok (.aload_n 2, 1) := by decide +kernel
theorem dX5_withSymmetries_23 : decode cX5_withSymmetries 23 = .ok (.invokevirtual 154, 3) := by decide +kernel
theorem dX5_withSymmetries_26 : decode cX5_withSymmetries 26 = .ok (.aload_n 2, 1) := by decide +kernel
theorem dX5_withSymmetries_27 : decode cX5_withSymmetries 27 = .ok (.iconst 1, 1) := by decide +kernel
theorem dX5_withSymmetries_28 : decode cX5_withSymmetries 28 = .ok (.putfield 141, 3) := by decide +kernel
theorem dX5_withSymmetries_31 : decode cX5_withSymmetries 31 = .ok (.aload_n 2, 1) := by decide +kernel
theorem dX5_withSymmetries_32 : decode cX5_withSymmetries 32 = .ok (.areturn, 1) := by decide +kernel
theorem dX5_withForm_0 : decode cX5_withForm 0 = .ok (.aload_n 0, 1) := by decide +kernel
theorem dX5_withForm_1 : decode cX5_withForm 1 = .ok (.getfield 9, 3) := by decide +kernel
theorem dX5_withForm_4 : decode cX5_withForm 4 = .ok (.iload_n 1, 1) := by decide +kernel
theorem dX5_withForm_5 : decode cX5_withForm 5 = .ok (.aaload, 1) := by decide +kernel
theorem dX5_withForm_6 : decode cX5_withForm 6 = .ok (.astore_n 2, 1) := by decide +kernel
theorem dX5_withForm_7 : decode cX5_withForm 7 = .ok (.aload_n 2, 1) := by decide +kernel
theorem dX5_withForm_8 : decode cX5_withForm 8 = .ok (.getfield 144, 3) := by decide +kernel
theorem dX5_withForm_11 : decode cX5_withForm 11 = .ok (.ifCond .ne 16, 3) := by decide +kernel
theorem dX5_withForm_14 : decode cX5_withForm 14 = .ok (.aload_n 0, 1) := by decide +kernel
theorem dX5_withForm_15 : decode cX5_withForm 15 = .ok (.getfield 39, 3) := by decide +kernel
theorem dX5_withForm_18 : decode cX5_withForm 18 = .ok (.aload_n 2, 1) := by decide +kernel
theorem dX5_withForm_19 : decode cX5_withForm 19 = .ok (.invokevirtual 157, 3) := by decide +kernel
theorem dX5_withForm_22 : decode cX5_withForm 22 = .ok (.aload_n 2, 1) := by decide +kernel
theorem dX5_withForm_23 : decode cX5_withForm 23 = .ok (.iconst 1, 1) := by decide +kernel
theorem dX5_withForm_24 : decode cX5_withForm 24 = .ok (.putfield 144, 3) := by decide +kernel
theorem dX5_withForm_27 : decode cX5_withForm 27 = .ok (.aload_n 2, 1) := by decide +kernel
theorem dX5_withForm_28 : decode cX5_withForm 28 = .ok (.areturn, 1) := by decide +kernel
theorem dX5_compareRows_0 : decode cX5_compareRows 0 = .ok (.iconst 0, 1) := by decide +kernel
theorem dX5_compareRows_1 : decode cX5_compareRows 1 = .ok (.istore_n 3, 1) := by decide +kernel
theorem dX5_compareRows_2 : decode cX5_compareRows 2 = .ok (.iload_n 3, 1) := by decide +kernel
theorem dX5_compareRows_3 : decode cX5_compareRows 3 = .ok (.iload_n 2, 1) := by decide +kernel
theorem dX5_compareRows_4 : decode cX5_compareRows 4 = .ok (.if_icmp .ge 35, 3) := by decide +kernel
theorem dX5_compareRows_7 : decode cX5_compareRows 7 = .ok (.aload_n 0, 1) := by decide +kernel
theorem dX5_compareRows_8 : decode cX5_compareRows 8 = .ok (.iload_n 3, 1) := by decide +kernel
theorem dX5_compareRows_9 : decode cX5_compareRows 9 = .ok (.laload, 1) := by decide +kernel
theorem dX5_compareRows_10 : decode cX5_compareRows 10 = .ok (.aload_n 1, 1) := by decide +kernel
theorem dX5_compareRows_11 : decode cX5_compareRows 11 = .ok (.iload_n 3, 1) := by decide +kernel
theorem dX5_compareRows_12 : decode cX5_compareRows 12 = .ok (.laload, 1) := by decide +kernel
theorem dX5_compareRows_13 : decode cX5_compareRows 13 = .ok (.lcmp, 1) := by decide +kernel
theorem dX5_compareRows_14 : decode cX5_compareRows 14 = .ok (.ifCond .eq 19, 3) := by decide +kernel
theorem dX5_compareRows_17 : decode cX5_compareRows 17 = .ok (.aload_n 0, 1) := by decide +kernel
theorem dX5_compareRows_18 : decode cX5_compareRows 18 = .ok (.iload_n 3, 1) := by decide +kernel
theorem dX5_compareRows_19 : decode cX5_compareRows 19 = .ok (.laload, 1) := by decide +kernel
theorem dX5_compareRows_20 : decode cX5_compareRows 20 = .ok (.aload_n 1, 1) := by decide +kernel
theorem dX5_compareRows_21 : decode cX5_compareRows 21 = .ok (.iload_n 3, 1) := by decide +kernel
theorem dX5_compareRows_22 : decode cX5_compareRows 22 = .ok (.laload, 1) := by decide +kernel
theorem dX5_compareRows_23 : decode cX5_compareRows 23 = .ok (.lcmp, 1) := by decide +kernel
theorem dX5_compareRows_24 : decode cX5_compareRows 24 = .ok (.ifCond .ge 7, 3) := by decide +kernel
theorem dX5_compareRows_27 : decode cX5_compareRows 27 = .ok (.iconst (-1), 1) := by decide +kernel
theorem dX5_compareRows_28 : decode cX5_compareRows 28 = .ok (.goto 4, 3) := by decide +kernel
theorem dX5_compareRows_31 : decode cX5_compareRows 31 = .ok (.iconst 1, 1) := by decide +kernel
theorem dX5_compareRows_32 : decode cX5_compareRows 32 = .ok (.ireturn, 1) := by decide +kernel
theorem dX5_compareRows_33 : decode cX5_compareRows 33 = .ok (.iinc 3 1, 3) := by decide +kernel
theorem dX5_compareRows_36 : decode cX5_compareRows 36 = .ok (.goto (-34), 3) := by decide +kernel
theorem dX5_compareRows_39 : decode cX5_compareRows 39 = .ok (.iconst 0, 1) := by decide +kernel
theorem dX5_compareRows_40 : decode cX5_compareRows 40 = .ok (.ireturn, 1) := by decide +kernel
end
section
theorem dX6_init_0 : decode cX6_init 0 = .ok (.aload_n 0, 1) := by decide +kernel
theorem dX6_init_1 : decode cX6_init 1 = .ok (.invokespecial 1, 3) := by decide +kernel
theorem dX6_init_4 : decode cX6_init 4 = .ok (.aload_n 0, 1) := by decide +kernel
theorem dX6_init_5 : decode cX6_init 5 = .ok (.iconst 1, 1) := by decide +kernel
theorem dX6_init_6 : decode cX6_init 6 = .ok (.putfield 7, 3) := by decide +kernel
theorem dX6_init_9 : decode cX6_init 9 = .ok (.aload_n 0, 1) := by decide +kernel
theorem dX6_init_10 : decode cX6_init 10 = .ok (.sipush 162, 3) := by decide +kernel
theorem dX6_init_13 : decode cX6_init 13 = .ok (.newarray .int, 2) := by decide +kernel
theorem dX6_init_15 : decode cX6_init 15 = .ok (.putfield 13, 3) := by decide +kernel
theorem dX6_init_18 : decode cX6_init 18 = .ok (.aload_n 0, 1) := by decide +kernel
theorem dX6_init_19 : decode cX6_init 19 = .ok (.bipush 18, 2) := by decide +kernel
theorem dX6_init_21 : decode cX6_init 21 = .ok (.newarray .int, 2) := by decide +kernel
theorem dX6_init_23 : decode cX6_init 23 = .ok (.putfield 17, 3) := by decide +kernel
theorem dX6_init_26 : decode cX6_init 26 = .ok (.aload_n 0, 1) := by decide +kernel
theorem dX6_init_27 : decode cX6_init 27 = .ok (.bipush 9, 2) := by decide +kernel
theorem dX6_init_29 : decode cX6_init 29 = .ok (.newarray .int, 2) := by decide +kernel
theorem dX6_init_31 : decode cX6_init 31 = .ok (.putfield 20, 3) := by decide +kernel
theorem dX6_init_34 : decode cX6_init 34 = .ok (.aload_n 0, 1) := by decide +kernel
theorem dX6_init_35 : decode cX6_init 35 = .ok (.bipush 9, 2) := by decide +kernel
theorem dX6_init_37 : decode cX6_init 37 = .ok (.newarray .int, 2) := by decide +kernel
theorem dX6_init_39 : decode cX6_init 39 = .ok (.putfield 23, 3) := by decide +kernel
theorem dX6_init_42 : decode cX6_init 42 = .ok (.aload_n 0, 1) := by decide +kernel
theorem dX6_init_43 : decode cX6_init 43 = .ok (.bipush 9, 2) := by decide +kernel
theorem dX6_init_45 : decode cX6_init 45 = .ok (.newarray .int, 2) := by decide +kernel
theorem dX6_init_47 : decode cX6_init 47 = .ok (.putfield 26, 3) := by decide +kernel
theorem dX6_init_50 : decode cX6_init 50 = .ok (.aload_n 0, 1) := by decide +kernel
theorem dX6_init_51 : decode cX6_init 51 = .ok (.iconst 2, 1) := by decide +kernel
theorem dX6_init_52 : decode cX6_init 52 = .ok (.newarray .boolean, 2) := by decide +kernel
theorem dX6_init_54 : decode cX6_init 54 = .ok (.putfield 29, 3) := by decide +kernel
theorem dX6_init_57 : decode cX6_init 57 = .ok (.aload_n 0, 1) := by decide +kernel
theorem dX6_init_58 : decode cX6_init 58 = .ok (.sipush 162, 3) := by decide +kernel
theorem dX6_init_61 : decode cX6_init 61 = .ok (.newarray .int, 2) := by decide +kernel
theorem dX6_init_63 : decode cX6_init 63 = .ok (.putfield 33, 3) := by decide +kernel
theorem dX6_init_66 : decode cX6_init 66 = .ok (.aload_n 0, 1) := by decide +kernel
theorem dX6_init_67 : decode cX6_init 67 = .ok (.bipush 81, 2) := by decide +kernel
theorem dX6_init_69 : decode cX6_init 69 = .ok (.newarray .int, 2) := by decide +kernel
theorem dX6_init_71 : decode cX6_init 71 = .ok (.putfield 36, 3) := by decide +kernel
theorem dX6_init_74 : decode cX6_init 74 = .ok (.aload_n 0, 1) := by decide +kernel
theorem dX6_init_75 : decode cX6_init 75 = .ok (.bipush 18, 2) := by decide +kernel
theorem dX6_init_77 : decode cX6_init 77 = .ok (.newarray .int, 2) := by decide +kernel
theorem dX6_init_79 : decode cX6_init 79 = .ok (.putfield 39, 3) := by decide +kernel
theorem dX6_init_82 : decode cX6_init 82 = .ok (.aload_n 0, 1) := by decide +kernel
theorem dX6_init_83 : decode cX6_init 83 = .ok (.bipush 18, 2) := by decide +kernel
theorem dX6_init_85 : decode cX6_init 85 = .ok (.newarray .int, 2) := by decide +kernel
theorem dX6_init_87 : decode cX6_init 87 = .ok (.putfield 42, 3) := by decide +kernel
theorem dX6_init_90 : decode cX6_init 90 = .ok (.return_, 1) := by decide +kernel
theorem dX6_isGraph_0 : decode cX6_isGraph 0 = .ok (.iload_n 0, 1) := by decide +kernel
theorem dX6_isGraph_1 : decode cX6_isGraph 1 = .ok (.ifCond .eq 8, 3) := by decide +kernel
theorem dX6_isGraph_4 : decode cX6_isGraph 4 = .ok (.iload_n 0, 1) := by decide +kernel
theorem dX6_isGraph_5 : decode cX6_isGraph 5 = .ok (.iconst 1, 1) := by decide +kernel
theorem dX6_isGraph_6 : decode cX6_isGraph 6 = .ok (.if_icmp .ne 7, 3) := by decide +kernel
theorem dX6_isGraph_9 : decode cX6_isGraph 9 = .ok (.iconst 1, 1) := by decide +kernel
theorem dX6_isGraph_10 : decode cX6_isGraph 10 = .ok (.goto 4, 3) := by decide +kernel
theorem dX6_isGraph_13 : decode cX6_isGraph 13 = .ok (.iconst 0, 1) := by decide +kernel
theorem dX6_isGraph_14 : decode cX6_isGraph 14 = .ok (.ireturn, 1) := by decide +kernel
theorem dX6_isVertex_0 : decode cX6_isVertex 0 = .ok (.iload_n 1, 1) := by decide +kernel
theorem dX6_isVertex_1 : decode cX6_isVertex 1 = .ok (.ifCond .lt 15, 3) := by decide +kernel
theorem dX6_isVertex_4 : decode cX6_isVertex 4 = .ok (.iload_n 1, 1) := by decide +kernel
theorem dX6_isVertex_5 : decode cX6_isVertex 5 = .ok (.aload_n 0, 1) := by decide +kernel
theorem dX6_isVertex_6 : decode cX6_isVertex 6 = .ok (.getfield 7, 3) := by decide +kernel
theorem dX6_isVertex_9 : decode cX6_isVertex 9 = .ok (.if_icmp .ge 7, 3) := by decide +kernel
theorem dX6_isVertex_12 : decode cX6_isVertex 12 = .ok (.iconst 1, 1) := by decide +kernel
theorem dX6_isVertex_13 : decode cX6_isVertex 13 = .ok (.goto 4, 3) := by decide +kernel
theorem dX6_isVertex_16 : decode cX6_isVertex 16 = .ok (.iconst 0, 1) := by decide +kernel
theorem dX6_isVertex_17 : decode cX6_isVertex 17 = .ok (.ireturn, 1) := by decide +kernel
theorem dX6_labelOf_0 : decode cX6_labelOf 0 = .ok (.aload_n 0, 1) := by decide +kernel
theorem dX6_labelOf_1 : decode cX6_labelOf 1 = .ok (.getfield 13, 3) := by decide +kernel
theorem dX6_labelOf_4 : decode cX6_labelOf 4 = .ok (.bipush 81, 2) := by decide +kernel
theorem dX6_labelOf_6 : decode cX6_labelOf 6 = .ok (.iload_n 1, 1) := by decide +kernel
theorem dX6_labelOf_7 : decode cX6_labelOf 7 = .ok (.imul, 1) := by decide +kernel
theorem dX6_labelOf_8 : decode cX6_labelOf 8 = .ok (.bipush 9, 2) := by decide +kernel
theorem dX6_labelOf_10 : decode cX6_labelOf 10 = .ok (.iload_n 2, 1) := by decide +kernel
theorem dX6_labelOf_11 : decode cX6_labelOf 11 = .ok (.imul, 1) := by decide +kernel
theorem dX6_labelOf_12 : decode cX6_labelOf 12 = .ok (.iadd, 1) := by decide +kernel
theorem dX6_labelOf_13 : decode cX6_labelOf 13 = .ok (.iload_n 3, 1) := by decide +kernel
theorem dX6_labelOf_14 : decode cX6_labelOf 14 = .ok (.iadd, 1) := by decide +kernel
theorem dX6_labelOf_15 : decode cX6_labelOf 15 = .ok (.iaload, 1) := by decide +kernel
theorem dX6_labelOf_16 : decode cX6_labelOf 16 = .ok (.ireturn, 1) := by decide +kernel
theorem dX6_changed_0 : decode cX6_changed 0 = .ok (.aload_n 0, 1) := by decide +kernel
theorem dX6_changed_1 : decode cX6_changed 1 = .ok (.iconst 0, 1) := by decide +kernel
theorem dX6_changed_2 : decode cX6_changed 2 = .ok (.putfield 45, 3) := by decide +kernel
theorem dX6_changed_5 : decode cX6_changed 5 = .ok (.aload_n 0, 1) := by decide +kernel
theorem dX6_changed_6 : decode cX6_changed 6 = .ok (.iconst 0, 1) := by decide +kernel
theorem dX6_changed_7 : decode cX6_changed 7 = .ok (.putfield 49, 3) := by decide +kernel
theorem dX6_changed_10 : decode cX6_changed 10 = .ok (.aload_n 0, 1) := by decide +kernel
theorem dX6_changed_11 : decode cX6_changed 11 = .ok (.getfield 29, 3) := by decide +kernel
theorem dX6_changed_14 : decode cX6_changed 14 = .ok (.iconst 0, 1) := by decide +kernel
theorem dX6_changed_15 : decode cX6_changed 15 = .ok (.iconst 0, 1) := by decide +kernel
theorem dX6_changed_16 : decode cX6_changed 16 = .ok (.bastore, 1) := by decide +kernel
theorem dX6_changed_17 : decode cX6_changed 17 = .ok (.aload_n 0, 1) := by decide +kernel
theorem dX6_changed_18 : decode cX6_changed 18 = .ok (.getfield 29, 3) := by decide +kernel
theorem dX6_changed_21 : decode cX6_changed 21 = .ok (.iconst 1, 1) := by decide +kernel
theorem dX6_changed_22 : decode cX6_changed 22 = .ok (.iconst 0, 1) := by decide +kernel
theorem dX6_changed_23 : decode cX6_changed 23 = .ok (.bastore, 1) := by decide +kernel
theorem dX6_changed_24 : decode cX6_changed 24 = .ok (.return_, 1) := by decide +kernel
theorem dX6_begin_0 : decode cX6_begin 0 = .ok (.iload_n 1, 1) := by decide +kernel
theorem dX6_begin_1 : decode cX6_begin 1 = .ok (.iconst 1, 1) := by decide +kernel
theorem dX6_begin_2 : decode cX6_begin 2 = .ok (.if_icmp .lt 9, 3) := by decide +kernel
theorem dX6_begin_5 : decode cX6_begin 5 = .ok (.iload_n 1, 1) := by decide +kernel
theorem dX6_begin_6 : decode cX6_begin 6 = .ok (.bipush 9, 2) := by decide +kernel
theorem dX6_begin_8 : decode cX6_begin 8 = .ok (.if_icmp .le 5, 3) := by decide +kernel
theorem dX6_begin_11 : decode cX6_begin 11 = .ok (.iconst (-1), 1) := by decide +kernel
theorem dX6_begin_12 : decode cX6_begin 12 = .ok (.ireturn, 1) := by decide +kernel
theorem dX6_begin_13 : decode cX6_begin 13 = .ok (.aload_n 0, 1) := by decide +kernel
theorem dX6_begin_14 : decode cX6_begin 14 = .ok (.iload_n 1, 1) := by decide +kernel
theorem dX6_begin_15 : decode cX6_begin 15 = .ok (.putfield 7, 3) := by decide +kernel
theorem dX6_begin_18 : decode cX6_begin 18 = .ok (.iconst 0, 1) := by decide +kernel
theorem dX6_begin_19 : decode cX6_begin 19 = .ok (.istore_n 2, 1) := by decide +kernel
theorem dX6_begin_20 : decode cX6_begin 20 = .ok (.iload_n 2, 1) := by decide +kernel
theorem dX6_begin_21 : decode cX6_begin 21 = .ok (.sipush 162, 3) := by decide +kernel
theorem dX6_begin_24 : decode cX6_begin 24 = .ok (.if_icmp .ge 16, 3) := by decide +kernel
theorem dX6_begin_27 : decode cX6_begin 27 = .ok (.aload_n 0, 1) := by decide +kernel
theorem dX6_begin_28 : decode cX6_begin 28 = .ok (.getfield 13, 3) := by decide +kernel
theorem dX6_begin_31 : decode cX6_begin 31 = .ok (.iload_n 2, 1) := by decide +kernel
theorem dX6_begin_32 : decode cX6_begin 32 = .ok (.iconst 0, 1) := by decide +kernel
theorem dX6_begin_33 : decode cX6_begin 33 = .ok (.iastore, 1) := by decide +kernel
theorem dX6_begin_34 : decode cX6_begin 34 = .ok (.iinc 2 1, 3) := by decide +kernel
theorem dX6_begin_37 : decode cX6_begin 37 = .ok (.goto (-17), 3) := by decide +kernel
theorem dX6_begin_40 : decode cX6_begin 40 = .ok (.iconst 0, 1) := by decide +kernel
theorem dX6_begin_41 : decode cX6_begin 41 = .ok (.istore_n 2, 1) := by decide +kernel
theorem dX6_begin_42 : decode cX6_begin 42 = .ok (.iload_n 2, 1) := by decide +kernel
theorem dX6_begin_43 : decode cX6_begin 43 = .ok (.bipush 18, 2) := by decide +kernel
theorem dX6_begin_45 : decode cX6_begin 45 = .ok (.if_icmp .ge 16, 3) := by decide +kernel
theorem dX6_begin_48 : decode cX6_begin 48 = .ok (.aload_n 0, 1) := by decide +kernel
theorem dX6_begin_49 : decode cX6_begin 49 = .ok (.getfield 17, 3) := by decide +kernel
theorem dX6_begin_52 : decode cX6_begin 52 = .ok (.iload_n 2, 1) := by decide +kernel
theorem dX6_begin_53 : decode cX6_begin 53 = .ok (.iconst 0, 1) := by decide +kernel
theorem dX6_begin_54 : decode cX6_begin 54 = .ok (.iastore, 1) := by decide +kernel
theorem dX6_begin_55 : decode cX6_begin 55 = .ok (.iinc 2 1, 3) := by decide +kernel
theorem dX6_begin_58 : decode cX6_begin 58 = .ok (.goto (-16), 3) := by decide +kernel
theorem dX6_begin_61 : decode cX6_begin 61 = .ok (.aload_n 0, 1) := by decide +kernel
theorem dX6_begin_62 : decode cX6_begin 62 = .ok (.invokevirtual 52, 3) := by decide +kernel
theorem dX6_begin_65 : decode cX6_begin 65 = .ok (.iconst 0, 1) := by decide +kernel
theorem dX6_begin_66 : decode cX6_begin 66 = .ok (.ireturn, 1) := by decide +kernel
theorem dX6_label_0 : decode cX6_label 0 = .ok (.iload_n 1, 1) := by decide +kernel
theorem dX6_label_1 : decode cX6_label 1 = .ok (.invokestatic 55, 3) := by decide +kernel
theorem dX6_label_4 : decode cX6_label 4 = .ok (.ifCond .eq 35, 3) := by decide +kernel
theorem dX6_label_7 : decode cX6_label 7 = .ok (.aload_n 0, 1) := by decide +kernel
theorem dX6_label_8 : decode cX6_label 8 = .ok (.iload_n 2, 1) := by decide +kernel
theorem dX6_label_9 : decode cX6_label 9 = .ok (.invokevirtual 59, 3) := by decide +kernel
theorem dX6_label_12 : decode cX6_label 12 = .ok (.ifCond .eq 27, 3) := by decide +kernel
theorem dX6_label_15 : decode cX6_label 15 = .ok (.aload_n 0, 1) := by decide +kernel
theorem dX6_label_16 : decode cX6_label 16 = .ok (.iload_n 3, 1) := by decide +kernel
theorem dX6_label_17 : decode cX6_label 17 = .ok (.invokevirtual 59, 3) := by decide +kernel
theorem dX6_label_20 : decode cX6_label 20 = .ok (.ifCond .eq 19, 3) := by decide +kernel
theorem dX6_label_23 : decode cX6_label 23 = .ok (.iload_n 2, 1) := by decide +kernel
theorem dX6_label_24 : decode cX6_label 24 = .ok (.iload_n 3, 1) := by decide +kernel
theorem dX6_label_25 : decode cX6_label 25 = .ok (.if_icmp .eq 14, 3) := by decide +kernel
theorem dX6_label_28 : decode cX6_label 28 = .ok (.iload 4, 2) := by decide +kernel
theorem dX6_label_30 : decode cX6_label 30 = .ok (.ifCond .lt 9, 3) := by decide +kernel
theorem dX6_label_33 : decode cX6_label 33 = .ok (.iload 4, 2) := by decide +kernel
theorem dX6_label_35 : decode cX6_label 35 = .ok (.iconst 3, 1) := by decide +kernel
theorem dX6_label_36 : decode cX6_label 36 = .ok (.if_icmp .le 5, 3) := by decide +kernel
theorem dX6_label_39 : decode cX6_label 39 = .ok (.iconst (-1), 1) := by decide +kernel
theorem dX6_label_40 : decode cX6_label 40 = .ok (.ireturn, 1) := by decide +kernel
theorem dX6_label_41 : decode cX6_label 41 = .ok (.aload_n 0, 1) := by decide +kernel
theorem dX6_label_42 : decode cX6_label 42 = .ok (.iload_n 1, 1) := by decide +kernel
theorem dX6_label_43 : decode cX6_label 43 = .ok (.iload_n 2, 1) := by decide +kernel
theorem dX6_label_44 : decode cX6_label 44 = .ok (.iload_n 3, 1) := by decide +kernel
theorem dX6_label_45 : decode cX6_label 45 = .ok (.invokevirtual 62, 3) := by decide +kernel
theorem dX6_label_48 : decode cX6_label 48 = .ok (.istore 5, 2) := by decide +kernel
theorem dX6_label_50 : decode cX6_label 50 = .ok (.aload_n 0, 1) := by decide +kernel
theorem dX6_label_51 : decode cX6_label 51 = .ok (.getfield 13, 3) := by decide +kernel
theorem dX6_label_54 : decode cX6_label 54 = .ok (.bipush 81, 2) := by decide +kernel
theorem dX6_label_56 : decode cX6_label 56 = .ok (.iload_n 1, 1) := by decide +kernel
theorem dX6_label_57 : decode cX6_label 57 = .ok (.imul, 1) := by decide +kernel
theorem dX6_label_58 : decode cX6_label 58 = .ok (.bipush 9, 2) := by decide +kernel
theorem dX6_label_60 : decode cX6_label 60 = .ok (.iload_n 2, 1) := by decide +kernel
theorem dX6_label_61 : decode cX6_label 61 = .ok (.imul, 1) := by decide +kernel
theorem dX6_label_62 : decode cX6_label 62 = .ok (.iadd, 1) := by decide +kernel
theorem dX6_label_63 : decode cX6_label 63 = .ok (.iload_n 3, 1) := by decide +kernel
theorem dX6_label_64 : decode cX6_label 64 = .ok (.iadd, 1) := by decide +kernel
theorem dX6_label_65 : decode cX6_label 65 = .ok (.iload 4, 2) := by decide +kernel
theorem dX6_label_67 : decode cX6_label 67 = .ok (.iastore, 1) := by decide +kernel
theorem dX6_label_68 : decode cX6_label 68 = .ok (.aload_n 0, 1) := by decide +kernel
theorem dX6_label_69 : decode cX6_label 69 = .ok (.invokevirtual 52, 3) := by decide +kernel
theorem dX6_label_72 : decode cX6_label 72 = .ok (.iload 5, 2) := by decide +kernel
theorem dX6_label_74 : decode cX6_label 74 = .ok (.ireturn, 1) := by decide +kernel
theorem dX6_tint_0 : decode cX6_tint 0 = .ok (.iload_n 1, 1) := by decide +kernel
theorem dX6_tint_1 : decode cX6_tint 1 = .ok (.invokestatic 55, 3) := by decide +kernel
theorem dX6_tint_4 : decode cX6_tint 4 = .ok (.ifCond .eq 20, 3) := by decide +kernel
theorem dX6_tint_7 : decode cX6_tint 7 = .ok (.aload_n 0, 1) := by decide +kernel
theorem dX6_tint_8 : decode cX6_tint 8 = .ok (.iload_n 2, 1) := by decide +kernel
theorem dX6_tint_9 : decode cX6_tint 9 = .ok (.invokevirtual 59, 3) := by decide +kernel
theorem dX6_tint_12 : decode cX6_tint 12 = .ok (.ifCond .eq 12, 3) := by decide +kernel
theorem dX6_tint_15 : decode cX6_tint 15 = .ok (.iload_n 3, 1) := by decide +kernel
theorem dX6_tint_16 : decode cX6_tint 16 = .ok (.ifCond .lt 8, 3) := by decide +kernel
theorem dX6_tint_19 : decode cX6_tint 19 = .ok (.iload_n 3, 1) := by decide +kernel
theorem dX6_tint_20 : decode cX6_tint 20 = .ok (.iconst 3, 1) := by decide +kernel
theorem dX6_tint_21 : decode cX6_tint 21 = .ok (.if_icmp .le 5, 3) := by decide +kernel
theorem dX6_tint_24 : decode cX6_tint 24 = .ok (.iconst (-1), 1) := by decide +kernel
theorem dX6_tint_25 : decode cX6_tint 25 = .ok (.ireturn, 1) := by decide +kernel
theorem dX6_tint_26 : decode cX6_tint 26 = .ok (.aload_n 0, 1) := by decide +kernel
theorem dX6_tint_27 : decode cX6_tint 27 = .ok (.getfield 17, 3) := by decide +kernel
theorem dX6_tint_30 : decode cX6_tint 30 = .ok (.bipush 9, 2) := by decide +kernel
theorem dX6_tint_32 : decode cX6_tint 32 = .ok (.iload_n 1, 1) := by decide +kernel
theorem dX6_tint_33 : decode cX6_tint 33 = .ok (.imul, 1) := by decide +kernel
theorem dX6_tint_34 : decode cX6_tint 34 = .ok (.iload_n 2, 1) := by decide +kernel
theorem dX6_tint_35 : decode cX6_tint 35 = .ok (.iadd, 1) := by decide +kernel
theorem dX6_tint_36 : decode cX6_tint 36 = .ok (.iaload, 1) := by decide +kernel
theorem dX6_tint_37 : decode cX6_tint 37 = .ok (.istore 4, 2) := by decide +kernel
theorem dX6_tint_39 : decode cX6_tint 39 = .ok (.aload_n 0, 1) := by decide +kernel
theorem dX6_tint_40 : decode cX6_tint 40 = .ok (.getfield 17, 3) := by decide +kernel
theorem dX6_tint_43 : decode cX6_tint 43 = .ok (.bipush 9, 2) := by decide +kernel
theorem dX6_tint_45 : decode cX6_tint 45 = .ok (.iload_n 1, 1) := by decide +kernel
theorem dX6_tint_46 : decode cX6_tint 46 = .ok (.imul, 1) := by decide +kernel
theorem dX6_tint_47 : decode cX6_tint 47 = .ok (.iload_n 2, 1) := by decide +kernel
theorem dX6_tint_48 : decode cX6_tint 48 = .ok (.iadd, 1) := by decide +kernel
theorem dX6_tint_49 : decode cX6_tint 49 = .ok (.iload_n 3, 1) := by decide +kernel
theorem dX6_tint_50 : decode cX6_tint 50 = .ok (.iastore, 1) := by decide +kernel
theorem dX6_tint_51 : decode cX6_tint 51 = .ok (.aload_n 0, 1) := by decide +kernel
theorem dX6_tint_52 : decode cX6_tint 52 = .ok (.invokevirtual 52, 3) := by decide +kernel
theorem dX6_tint_55 : decode cX6_tint 55 = .ok (.iload 4, 2) := by decide +kernel
theorem dX6_tint_57 : decode cX6_tint 57 = .ok (.ireturn, 1) := by decide +kernel
theorem dX6_other_0 : decode cX6_other 0 = .ok (.iload_n 0, 1) := by decide +kernel
theorem dX6_other_1 : decode cX6_other 1 = .ok (.iload_n 1, 1) := by decide +kernel
theorem dX6_other_2 : decode cX6_other 2 = .ok (.if_icmp .ne 7, 3) := by decide +kernel
theorem dX6_other_5 : decode cX6_other 5 = .ok (.iload_n 2, 1) := by decide +kernel
theorem dX6_other_6 : decode cX6_other 6 = .ok (.goto 13, 3) := by decide +kernel
theorem dX6_other_9 : decode cX6_other 9 = .ok (.iload_n 0, 1) := by decide +kernel
theorem dX6_other_10 : decode cX6_other 10 = .ok (.iload_n 2, 1) := by decide +kernel
theorem dX6_other_11 : decode cX6_other 11 = .ok (.if_icmp .ne 7, 3) := by decide +kernel
theorem dX6_other_14 : decode cX6_other 14 = .ok (.iload_n 1, 1) := by decide +kernel
theorem dX6_other_15 : decode cX6_other 15 = .ok (.goto 4, 3) := by decide +kernel
theorem dX6_other_18 : decode cX6_other 18 = .ok (.iload_n 0, 1) := by decide +kernel
theorem dX6_other_19 : decode cX6_other 19 = .ok (.ireturn, 1) := by decide +kernel
theorem dX6_exchange_0 : decode cX6_exchange 0 = .ok (.iload_n 1, 1) := by decide +kernel
theorem dX6_exchange_1 : decode cX6_exchange 1 = .ok (.invokestatic 55, 3) := by decide +kernel
theorem dX6_exchange_4 : decode cX6_exchange 4 = .ok (.ifCond .eq 19, 3) := by decide +kernel
theorem dX6_exchange_7 : decode cX6_exchange 7 = .ok (.aload_n 0, 1) := by decide +kernel
theorem dX6_exchange_8 : decode cX6_exchange 8 = .ok (.iload_n 2, 1) := by decide +kernel
theorem dX6_exchange_9 : decode cX6_exchange 9 = .ok (.invokevirtual 59, 3) := by decide +kernel
theorem dX6_exchange_12 : decode cX6_exchange 12 = .ok (.ifCond .eq 11, 3) := by decide +kernel
theorem dX6_exchange_15 : decode cX6_exchange 15 = .ok (.aload_n 0, 1) := by decide +kernel
theorem dX6_exchange_16 : decode cX6_exchange 16 = .ok (.iload_n 3, 1) := by decide +kernel
theorem dX6_exchange_17 : decode cX6_exchange 17 = .ok (.invokevirtual 59, 3) := by decide +kernel
theorem dX6_exchange_20 : decode cX6_exchange 20 = .ok (.ifCond .ne 5, 3) := by decide +kernel
theorem dX6_exchange_23 : decode cX6_exchange 23 = .ok (.iconst (-1), 1) := by decide +kernel
theorem dX6_exchange_24 : decode cX6_exchange 24 = .ok (.ireturn, 1) := by decide +kernel
theorem dX6_exchange_25 : decode cX6_exchange 25 = .ok (.iconst 0, 1) := by decide +kernel
theorem dX6_exchange_26 : decode cX6_exchange 26 = .ok (.istore 4, 2) := by decide +kernel
theorem dX6_exchange_28 : decode cX6_exchange 28 = .ok (.iload 4, 2) := by decide +kernel
theorem dX6_exchange_30 : decode cX6_exchange 30 = .ok (.aload_n 0, 1) := by decide +kernel
theorem dX6_exchange_31 : decode cX6_exchange 31 = .ok (.getfield 7, 3) := by decide +kernel
theorem dX6_exchange_34 : decode cX6_exchange 34 = .ok (.if_icmp .ge 59, 3) := by decide +kernel
theorem dX6_exchange_37 : decode cX6_exchange 37 = .ok (.iconst 0, 1) := by decide +kernel
theorem dX6_exchange_38 : decode cX6_exchange 38 = .ok (.istore 5, 2) := by decide +kernel
theorem dX6_exchange_40 : decode cX6_exchange 40 = .ok (.iload 5, 2) := by decide +kernel
theorem dX6_exchange_42 : decode cX6_exchange 42 = .ok (.aload_n 0, 1) := by decide +kernel
theorem dX6_exchange_43 : decode cX6_exchange 43 = .ok (.getfield 7, 3) := by decide +kernel
theorem dX6_exchange_46 : decode cX6_exchange 46 = .ok (.if_icmp .ge 41, 3) := by decide +kernel
theorem dX6_exchange_49 : decode cX6_exchange 49 = .ok (.aload_n 0, 1) := by decide +kernel
theorem dX6_exchange_50 : decode cX6_exchange 50 = .ok (.getfield 36, 3) := by decide +kernel
theorem dX6_exchange_53 : decode cX6_exchange 53 = .ok (.bipush 9, 2) := by decide +kernel
theorem dX6_exchange_55 : decode cX6_exchange 55 = .ok (.iload 4, 2) := by decide +kernel
theorem dX6_exchange_57 : decode cX6_exchange 57 = .ok (.imul, 1) := by decide +kernel
theorem dX6_exchange_58 : decode cX6_exchange 58 = .ok (.iload 5, 2) := by decide +kernel
theorem dX6_exchange_60 : decode cX6_exchange 60 = .ok (.iadd, 1) := by decide +kernel
theorem dX6_exchange_61 : decode cX6_exchange 61 = .ok (.aload_n 0, 1) := by decide +kernel
theorem dX6_exchange_62 : decode cX6_exchange 62 = .ok (.iload_n 1, 1) := by decide +kernel
theorem dX6_exchange_63 : decode cX6_exchange 63 = .ok (.iload 4, 2) := by decide +kernel
theorem dX6_exchange_65 : decode cX6_exchange 65 = .ok (.iload_n 2, 1) := by decide +kernel
theorem dX6_exchange_66 : decode cX6_exchange 66 = .ok (.iload_n 3, 1) := by decide +kernel
theorem dX6_exchange_67 : decode cX6_exchange 67 = .ok (.invokestatic 66, 3) := by decide +kernel
theorem dX6_exchange_70 : decode cX6_exchange 70 = .ok (.iload 5, 2) := by decide +kernel
theorem dX6_exchange_72 : decode cX6_exchange 72 = .ok (.iload_n 2, 1) := by decide +kernel
theorem dX6_exchange_73 : decode cX6_exchange 73 = .ok (.iload_n 3, 1) := by decide +kernel
theorem dX6_exchange_74 : decode cX6_exchange 74 = .ok (.invokestatic 66, 3) := by decide +kernel
theorem dX6_exchange_77 : decode cX6_exchange 77 = .ok (.invokevirtual 62, 3) := by decide +kernel
theorem dX6_exchange_80 : decode cX6_exchange 80 = .ok (.iastore, 1) := by decide +kernel
theorem dX6_exchange_81 : decode cX6_exchange 81 = .ok (.iinc 5 1, 3) := by decide +kernel
theorem dX6_exchange_84 : decode cX6_exchange 84 = .ok (.goto (-44), 3) := by decide +kernel
theorem dX6_exchange_87 : decode cX6_exchange 87 = .ok (.iinc 4 1, 3) := by decide +kernel
theorem dX6_exchange_90 : decode cX6_exchange 90 = .ok (.goto (-62), 3) := by decide +kernel
theorem dX6_exchange_93 : decode cX6_exchange 93 = .ok (.iconst 0, 1) := by decide +kernel
theorem dX6_exchange_94 : decode cX6_exchange 94 = .ok (.istore 4, 2) := by decide +kernel
theorem dX6_exchange_96 : decode cX6_exchange 96 = .ok (.iload 4, 2) := by decide +kernel
theorem dX6_exchange_98 : decode cX6_exchange 98 = .ok (.aload_n 0, 1) := by decide +kernel
theorem dX6_exchange_99 : decode cX6_exchange 99 = .ok (.getfield 7, 3) := by decide +kernel
theorem dX6_exchange_102 : decode cX6_exchange 102 = .ok (.if_icmp .ge 58, 3) := by decide +kernel
theorem dX6_exchange_105 : decode cX6_exchange 105 = .ok (.iconst 0, 1) := by decide +kernel
theorem dX6_exchange_106 : decode cX6_exchange 106 = .ok (.istore 5, 2) := by decide +kernel
theorem dX6_exchange_108 : decode cX6_exchange 108 = .ok (.iload 5, 2) := by decide +kernel
theorem dX6_exchange_110 : decode cX6_exchange 110 = .ok (.aload_n 0, 1) := by decide +kernel
theorem dX6_exchange_111 : decode cX6_exchange 111 = .ok (.getfield 7, 3) := by decide +kernel
theorem dX6_exchange_114 : decode cX6_exchange 114 = .ok (.if_icmp .ge 40, 3) := by decide +kernel
theorem dX6_exchange_117 : decode cX6_exchange 117 = .ok (.aload_n 0, 1) := by decide +kernel
theorem dX6_exchange_118 : decode cX6_exchange 118 = .ok (.getfield 13, 3) := by decide +kernel
theorem dX6_exchange_121 : decode cX6_exchange 121 = .ok (.bipush 81, 2) := by decide +kernel
theorem dX6_exchange_123 : decode cX6_exchange 123 = .ok (.iload_n 1, 1) := by decide +kernel
theorem dX6_exchange_124 : decode cX6_exchange 124 = .ok (.imul, 1) := by decide +kernel
theorem dX6_exchange_125 : decode cX6_exchange 125 = .ok (.bipush 9, 2) := by decide +kernel
theorem dX6_exchange_127 : decode cX6_exchange 127 = .ok (.iload 4, 2) := by decide +kernel
theorem dX6_exchange_129 : decode cX6_exchange 129 = .ok (.imul, 1) := by decide +kernel
theorem dX6_exchange_130 : decode cX6_exchange 130 = .ok (.iadd, 1) := by decide +kernel
theorem dX6_exchange_131 : decode cX6_exchange 131 = .ok (.iload 5, 2) := by decide +kernel
theorem dX6_exchange_133 : decode cX6_exchange 133 = .ok (.iadd, 1) := by decide +kernel
theorem dX6_exchange_134 : decode cX6_exchange 134 = .ok (.aload_n 0, 1) := by decide +kernel
theorem dX6_exchange_135 : decode cX6_exchange 135 = .ok (.getfield 36, 3) := by decide +kernel
theorem dX6_exchange_138 : decode cX6_exchange 138 = .ok (.bipush 9, 2) := by decide +kernel
theorem dX6_exchange_140 : decode cX6_exchange 140 = .ok (.iload 4, 2) := by decide +kernel
theorem dX6_exchange_142 : decode cX6_exchange 142 = .ok (.imul, 1) := by decide +kernel
theorem dX6_exchange_143 : decode cX6_exchange 143 = .ok (.iload 5, 2) := by decide +kernel
theorem dX6_exchange_145 : decode cX6_exchange 145 = .ok (.iadd, 1) := by decide +kernel
theorem dX6_exchange_146 : decode cX6_exchange 146 = .ok (.iaload, 1) := by decide +kernel
theorem dX6_exchange_147 : decode cX6_exchange 147 = .ok (.iastore, 1) := by decide +kernel
theorem dX6_exchange_148 : decode cX6_exchange 148 = .ok (.iinc 5 1, 3) := by decide +kernel
theorem dX6_exchange_151 : decode cX6_exchange 151 = .ok (.goto (-43), 3) := by decide +kernel
theorem dX6_exchange_154 : decode cX6_exchange 154 = .ok (.iinc 4 1, 3) := by decide +kernel
theorem dX6_exchange_157 : decode cX6_exchange 157 = .ok (.goto (-61), 3) := by decide +kernel
theorem dX6_exchange_160 : decode cX6_exchange 160 = .ok (.aload_n 0, 1) := by decide +kernel
theorem dX6_exchange_161 : decode cX6_exchange 161 = .ok (.getfield 17, 3) := by decide +kernel
theorem dX6_exchange_164 : decode cX6_exchange 164 = .ok (.bipush 9, 2) := by decide +kernel
theorem dX6_exchange_166 : decode cX6_exchange 166 = .ok (.iload_n 1, 1) := by decide +kernel
theorem dX6_exchange_167 : decode cX6_exchange 167 = .ok (.imul, 1) := by decide +kernel
theorem dX6_exchange_168 : decode cX6_exchange 168 = .ok (.iload_n 2, 1) := by decide +kernel
theorem dX6_exchange_169 : decode cX6_exchange 169 = .ok (.iadd, 1) := by decide +kernel
theorem dX6_exchange_170 : decode cX6_exchange 170 = .ok (.iaload, 1) := by decide +kernel
theorem dX6_exchange_171 : decode cX6_exchange 171 = .ok (.istore 4, 2) := by decide +kernel
theorem dX6_exchange_173 : decode cX6_exchange 173 = .ok (.aload_n 0, 1) := by decide +kernel
theorem dX6_exchange_174 : decode cX6_exchange 174 = .ok (.getfield 17, 3) := by decide +kernel
theorem dX6_exchange_177 : decode cX6_exchange 177 = .ok (.bipush 9, 2) := by decide +kernel
theorem dX6_exchange_179 : decode cX6_exchange 179 = .ok (.iload_n 1, 1) := by decide +kernel
theorem dX6_exchange_180 : decode cX6_exchange 180 = .ok (.imul, 1) := by decide +kernel
theorem dX6_exchange_181 : decode cX6_exchange 181 = .ok (.iload_n 2, 1) := by decide +kernel
theorem dX6_exchange_182 : decode cX6_exchange 182 = .ok (.iadd, 1) := by decide +kernel
theorem dX6_exchange_183 : decode cX6_exchange 183 = .ok (.aload_n 0, 1) := by decide +kernel
theorem dX6_exchange_184 : decode cX6_exchange 184 = .ok (.getfield 17, 3) := by decide +kernel
theorem dX6_exchange_187 : decode cX6_exchange 187 = .ok (.bipush 9, 2) := by decide +kernel
theorem dX6_exchange_189 : decode cX6_exchange 189 = .ok (.iload_n 1, 1) := by decide +kernel
theorem dX6_exchange_190 : decode cX6_exchange 190 = .ok (.imul, 1) := by decide +kernel
theorem dX6_exchange_191 : decode cX6_exchange 191 = .ok (.iload_n 3, 1) := by decide +kernel
theorem dX6_exchange_192 : decode cX6_exchange 192 = .ok (.iadd, 1) := by decide +kernel
theorem dX6_exchange_193 : decode cX6_exchange 193 = .ok (.iaload, 1) := by decide +kernel
theorem dX6_exchange_194 : decode cX6_exchange 194 = .ok (.iastore, 1) := by decide +kernel
theorem dX6_exchange_195 : decode cX6_exchange 195 = .ok (.aload_n 0, 1) := by decide +kernel
theorem dX6_exchange_196 : decode cX6_exchange 196 = .ok (.getfield 17, 3) := by decide +kernel
theorem dX6_exchange_199 : decode cX6_exchange 199 = .ok (.bipush 9, 2) := by decide +kernel
theorem dX6_exchange_201 : decode cX6_exchange 201 = .ok (.iload_n 1, 1) := by decide +kernel
theorem dX6_exchange_202 : decode cX6_exchange 202 = .ok (.imul, 1) := by decide +kernel
theorem dX6_exchange_203 : decode cX6_exchange 203 = .ok (.iload_n 3, 1) := by decide +kernel
theorem dX6_exchange_204 : decode cX6_exchange 204 = .ok (.iadd, 1) := by decide +kernel
theorem dX6_exchange_205 : decode cX6_exchange 205 = .ok (.iload 4, 2) := by decide +kernel
theorem dX6_exchange_207 : decode cX6_exchange 207 = .ok (.iastore, 1) := by decide +kernel
theorem dX6_exchange_208 : decode cX6_exchange 208 = .ok (.aload_n 0, 1) := by decide +kernel
theorem dX6_exchange_209 : decode cX6_exchange 209 = .ok (.invokevirtual 52, 3) := by decide +kernel
theorem dX6_exchange_212 : decode cX6_exchange 212 = .ok (.iconst 0, 1) := by decide +kernel
theorem dX6_exchange_213 : decode cX6_exchange 213 = .ok (.ireturn, 1) := by decide +kernel
theorem dX6_copy_0 : decode cX6_copy 0 = .ok (.iload_n 1, 1) := by decide +kernel
theorem dX6_copy_1 : decode cX6_copy 1 = .ok (.invokestatic 55, 3) := by decide +kernel
theorem dX6_copy_4 : decode cX6_copy 4 = .ok (.ifCond .ne 5, 3) := by decide +kernel
theorem dX6_copy_7 : decode cX6_copy 7 = .ok (.iconst (-1), 1) := by decide +kernel
theorem dX6_copy_8 : decode cX6_copy 8 = .ok (.ireturn, 1) := by decide +kernel
theorem dX6_copy_9 : decode cX6_copy 9 = .ok (.iconst 0, 1) := by decide +kernel
theorem dX6_copy_10 : decode cX6_copy 10 = .ok (.istore_n 2, 1) := by decide +kernel
theorem dX6_copy_11 : decode cX6_copy 11 = .ok (.iload_n 2, 1) := by decide +kernel
theorem dX6_copy_12 : decode cX6_copy 12 = .ok (.aload_n 0, 1) := by decide +kernel
theorem dX6_copy_13 : decode cX6_copy 13 = .ok (.getfield 7, 3) := by decide +kernel
theorem dX6_copy_16 : decode cX6_copy 16 = .ok (.if_icmp .ge 74, 3) := by decide +kernel
theorem dX6_copy_19 : decode cX6_copy 19 = .ok (.aload_n 0, 1) := by decide +kernel
theorem dX6_copy_20 : decode cX6_copy 20 = .ok (.getfield 17, 3) := by decide +kernel
theorem dX6_copy_23 : decode cX6_copy 23 = .ok (.bipush 9, 2) := by decide +kernel
theorem dX6_copy_25 : decode cX6_copy 25 = .ok (.iload_n 1, 1) := by decide +kernel
theorem dX6_copy_26 : decode cX6_copy 26 = .ok (.imul, 1) := by decide +kernel
theorem dX6_copy_27 : decode cX6_copy 27 = .ok (.iload_n 2, 1) := by decide +kernel
theorem dX6_copy_28 : decode cX6_copy 28 = .ok (.iadd, 1) := by decide +kernel
theorem dX6_copy_29 : decode cX6_copy 29 = .ok (.aload_n 0, 1) := by decide +kernel
theorem dX6_copy_30 : decode cX6_copy 30 = .ok (.getfield 17, 3) := by decide +kernel
theorem dX6_copy_33 : decode cX6_copy 33 = .ok (.bipush 9, 2) := by decide +kernel
theorem dX6_copy_35 : decode cX6_copy 35 = .ok (.iconst 1, 1) := by decide +kernel
theorem dX6_copy_36 : decode cX6_copy 36 = .ok (.iload_n 1, 1) := by decide +kernel
theorem dX6_copy_37 : decode cX6_copy 37 = .ok (.isub, 1) := by decide +kernel
theorem dX6_copy_38 : decode cX6_copy 38 = .ok (.imul, 1) := by decide +kernel
theorem dX6_copy_39 : decode cX6_copy 39 = .ok (.iload_n 2, 1) := by decide +kernel
theorem dX6_copy_40 : decode cX6_copy 40 = .ok (.iadd, 1) := by decide +kernel
theorem dX6_copy_41 : decode cX6_copy 41 = .ok (.iaload, 1) := by decide +kernel
theorem dX6_copy_42 : decode cX6_copy 42 = .ok (.iastore, 1) := by decide +kernel
theorem dX6_copy_43 : decode cX6_copy 43 = .ok (.iconst 0, 1) := by decide +kernel
theorem dX6_copy_44 : decode cX6_copy 44 = .ok (.istore_n 3, 1) := by decide +kernel
theorem dX6_copy_45 : decode cX6_copy 45 = .ok (.iload_n 3, 1) := by decide +kernel
theorem dX6_copy_46 : decode cX6_copy 46 = .ok (.aload_n 0, 1) := by decide +kernel
theorem dX6_copy_47 : decode cX6_copy 47 = .ok (.getfield 7, 3) := by decide +kernel
theorem dX6_copy_50 : decode cX6_copy 50 = .ok (.if_icmp .ge 34, 3) := by decide +kernel
theorem dX6_copy_53 : decode cX6_copy 53 = .ok (.aload_n 0, 1) := by decide +kernel
theorem dX6_copy_54 : decode cX6_copy 54 = .ok (.getfield 13, 3) := by decide +kernel
theorem dX6_copy_57 : decode cX6_copy 57 = .ok (.bipush 81, 2) := by decide +kernel
theorem dX6_copy_59 : decode cX6_copy 59 = .ok (.iload_n 1, 1) := by decide +kernel
theorem dX6_copy_60 : decode cX6_copy 60 = .ok (.imul, 1) := by decide +kernel
theorem dX6_copy_61 : decode cX6_copy 61 = .ok (.bipush 9, 2) := by decide +kernel
theorem dX6_copy_63 : decode cX6_copy 63 = .ok (.iload_n 2, 1) := by decide +kernel
theorem dX6_copy_64 : decode cX6_copy 64 = .ok (.imul, 1) := by decide +kernel
theorem dX6_copy_65 : decode cX6_copy 65 = .ok (.iadd, 1) := by decide +kernel
theorem dX6_copy_66 : decode cX6_copy 66 = .ok (.iload_n 3, 1) := by decide +kernel
theorem dX6_copy_67 : decode cX6_copy 67 = .ok (.iadd, 1) := by decide +kernel
theorem dX6_copy_68 : decode cX6_copy 68 = .ok (.aload_n 0, 1) := by decide +kernel
theorem dX6_copy_69 : decode cX6_copy 69 = .ok (.iconst 1, 1) := by decide +kernel
theorem dX6_copy_70 : decode cX6_copy 70 = .ok (.iload_n 1, 1) := by decide +kernel
theorem dX6_copy_71 : decode cX6_copy 71 = .ok (.isub, 1) := by decide +kernel
theorem dX6_copy_72 : decode cX6_copy 72 = .ok (.iload_n 2, 1) := by decide +kernel
theorem dX6_copy_73 : decode cX6_copy 73 = .ok (.iload_n 3, 1) := by decide +kernel
theorem dX6_copy_74 : decode cX6_copy 74 = .ok (.invokevirtual 62, 3) := by decide +kernel
theorem dX6_copy_77 : decode cX6_copy 77 = .ok (.iastore, 1) := by decide +kernel
theorem dX6_copy_78 : decode cX6_copy 78 = .ok (.iinc 3 1, 3) := by decide +kernel
theorem dX6_copy_81 : decode cX6_copy 81 = .ok (.goto (-36), 3) := by decide +kernel
theorem dX6_copy_84 : decode cX6_copy 84 = .ok (.iinc 2 1, 3) := by decide +kernel
theorem dX6_copy_87 : decode cX6_copy 87 = .ok (.goto (-76), 3) := by decide +kernel
theorem dX6_copy_90 : decode cX6_copy 90 = .ok (.aload_n 0, 1) := by decide +kernel
theorem dX6_copy_91 : decode cX6_copy 91 = .ok (.invokevirtual 52, 3) := by decide +kernel
theorem dX6_copy_94 : decode cX6_copy 94 = .ok (.iconst 0, 1) := by decide +kernel
theorem dX6_copy_95 : decode cX6_copy 95 = .ok (.ireturn, 1) := by decide +kernel
theorem dX6_many_0 : decode cX6_many 0 = .ok (.iconst 0, 1) := by decide +kernel
theorem dX6_many_1 : decode cX6_many 1 = .ok (.istore 5, 2) := by decide +kernel
theorem dX6_many_3 : decode cX6_many 3 = .ok (.iconst 0, 1) := by decide +kernel
theorem dX6_many_4 : decode cX6_many 4 = .ok (.istore 6, 2) := by decide +kernel
theorem dX6_many_6 : decode cX6_many 6 = .ok (.iload 6, 2) := by decide +kernel
theorem dX6_many_8 : decode cX6_many 8 = .ok (.aload_n 0, 1) := by decide +kernel
theorem dX6_many_9 : decode cX6_many 9 = .ok (.getfield 7, 3) := by decide +kernel
theorem dX6_many_12 : decode cX6_many 12 = .ok (.if_icmp .ge 70, 3) := by decide +kernel
theorem dX6_many_15 : decode cX6_many 15 = .ok (.iload 5, 2) := by decide +kernel
theorem dX6_many_17 : decode cX6_many 17 = .ok (.iload 6, 2) := by decide +kernel
theorem dX6_many_19 : decode cX6_many 19 = .ok (.iload_n 2, 1) := by decide +kernel
theorem dX6_many_20 : decode cX6_many 20 = .ok (.if_icmp .eq 52, 3) := by decide +kernel
theorem dX6_many_23 : decode cX6_many 23 = .ok (.aload_n 0, 1) := by decide +kernel
theorem dX6_many_24 : decode cX6_many 24 = .ok (.getfield 39, 3) := by decide +kernel
theorem dX6_many_27 : decode cX6_many 27 = .ok (.bipush 9, 2) := by decide +kernel
theorem dX6_many_29 : decode cX6_many 29 = .ok (.iload_n 1, 1) := by decide +kernel
theorem dX6_many_30 : decode cX6_many 30 = .ok (.imul, 1) := by decide +kernel
theorem dX6_many_31 : decode cX6_many 31 = .ok (.iload 6, 2) := by decide +kernel
theorem dX6_many_33 : decode cX6_many 33 = .ok (.iadd, 1) := by decide +kernel
theorem dX6_many_34 : decode cX6_many 34 = .ok (.iaload, 1) := by decide +kernel
theorem dX6_many_35 : decode cX6_many 35 = .ok (.iload 4, 2) := by decide +kernel
theorem dX6_many_37 : decode cX6_many 37 = .ok (.if_icmp .ne 35, 3) := by decide +kernel
theorem dX6_many_40 : decode cX6_many 40 = .ok (.aload_n 0, 1) := by decide +kernel
theorem dX6_many_41 : decode cX6_many 41 = .ok (.iload_n 1, 1) := by decide +kernel
theorem dX6_many_42 : decode cX6_many 42 = .ok (.iload_n 2, 1) := by decide +kernel
theorem dX6_many_43 : decode cX6_many 43 = .ok (.iload 6, 2) := by decide +kernel
theorem dX6_many_45 : decode cX6_many 45 = .ok (.invokevirtual 62, 3) := by decide +kernel
theorem dX6_many_48 : decode cX6_many 48 = .ok (.iload_n 3, 1) := by decide +kernel
theorem dX6_many_49 : decode cX6_many 49 = .ok (.iconst 4, 1) := by decide +kernel
theorem dX6_many_50 : decode cX6_many 50 = .ok (.idiv, 1) := by decide +kernel
theorem dX6_many_51 : decode cX6_many 51 = .ok (.if_icmp .ne 21, 3) := by decide +kernel
theorem dX6_many_54 : decode cX6_many 54 = .ok (.aload_n 0, 1) := by decide +kernel
theorem dX6_many_55 : decode cX6_many 55 = .ok (.iload_n 1, 1) := by decide +kernel
theorem dX6_many_56 : decode cX6_many 56 = .ok (.iload 6, 2) := by decide +kernel
theorem dX6_many_58 : decode cX6_many 58 = .ok (.iload_n 2, 1) := by decide +kernel
theorem dX6_many_59 : decode cX6_many 59 = .ok (.invokevirtual 62, 3) := by decide +kernel
theorem dX6_many_62 : decode cX6_many 62 = .ok (.iload_n 3, 1) := by decide +kernel
theorem dX6_many_63 : decode cX6_many 63 = .ok (.iconst 4, 1) := by decide +kernel
theorem dX6_many_64 : decode cX6_many 64 = .ok (.irem, 1) := by decide +kernel
theorem dX6_many_65 : decode cX6_many 65 = .ok (.if_icmp .ne 7, 3) := by decide +kernel
theorem dX6_many_68 : decode cX6_many 68 = .ok (.iconst 1, 1) := by decide +kernel
theorem dX6_many_69 : decode cX6_many 69 = .ok (.goto 4, 3) := by decide +kernel
theorem dX6_many_72 : decode cX6_many 72 = .ok (.iconst 0, 1) := by decide +kernel
theorem dX6_many_73 : decode cX6_many 73 = .ok (.iadd, 1) := by decide +kernel
theorem dX6_many_74 : decode cX6_many 74 = .ok (.istore 5, 2) := by decide +kernel
theorem dX6_many_76 : decode cX6_many 76 = .ok (.iinc 6 1, 3) := by decide +kernel
theorem dX6_many_79 : decode cX6_many 79 = .ok (.goto (-73), 3) := by decide +kernel
theorem dX6_many_82 : decode cX6_many 82 = .ok (.iload 5, 2) := by decide +kernel
theorem dX6_many_84 : decode cX6_many 84 = .ok (.ireturn, 1) := by decide +kernel
theorem dX6_order_0 : decode cX6_order 0 = .ok (.aload_n 0, 1) := by decide +kernel
theorem dX6_order_1 : decode cX6_order 1 = .ok (.getfield 39, 3) := by decide +kernel
theorem dX6_order_4 : decode cX6_order 4 = .ok (.iload_n 1, 1) := by decide +kernel
theorem dX6_order_5 : decode cX6_order 5 = .ok (.iaload, 1) := by decide +kernel
theorem dX6_order_6 : decode cX6_order 6 = .ok (.aload_n 0, 1) := by decide +kernel
theorem dX6_order_7 : decode cX6_order 7 = .ok (.getfield 39, 3) := by decide +kernel
theorem dX6_order_10 : decode cX6_order 10 = .ok (.iload_n 2, 1) := by decide +kernel
theorem dX6_order_11 : decode cX6_order 11 = .ok (.iaload, 1) := by decide +kernel
theorem dX6_order_12 : decode cX6_order 12 = .ok (.if_icmp .eq 17, 3) := by decide +kernel
theorem dX6_order_15 : decode cX6_order 15 = .ok (.aload_n 0, 1) := by decide +kernel
theorem dX6_order_16 : decode cX6_order 16 = .ok (.getfield 39, 3) := by decide +kernel
theorem dX6_order_19 : decode cX6_order 19 = .ok (.iload_n 1, 1) := by decide +kernel
theorem dX6_order_20 : decode cX6_order 20 = .ok (.iaload, 1) := by decide +kernel
theorem dX6_order_21 : decode cX6_order 21 = .ok (.aload_n 0, 1) := by decide +kernel
theorem dX6_order_22 : decode cX6_order 22 = .ok (.getfield 39, 3) := by decide +kernel
theorem dX6_order_25 : decode cX6_order 25 = .ok (.iload_n 2, 1) := by decide +kernel
theorem dX6_order_26 : decode cX6_order 26 = .ok (.iaload, 1) := by decide +kernel
theorem dX6_order_27 : decode cX6_order 27 = .ok (.isub, 1) := by decide +kernel
theorem dX6_order_28 : decode cX6_order 28 = .ok (.ireturn, 1) := by decide +kernel
theorem dX6_order_29 : decode cX6_order 29 = .ok (.iconst 0, 1) := by decide +kernel
theorem dX6_order_30 : decode cX6_order 30 = .ok (.istore_n 3, 1) := by decide +kernel
theorem dX6_order_31 : decode cX6_order 31 = .ok (.iload_n 3, 1) := by decide +kernel
theorem dX6_order_32 : decode cX6_order 32 = .ok (.bipush 16, 2) := by decide +kernel
theorem dX6_order_34 : decode cX6_order 34 = .ok (.if_icmp .ge 74, 3) := by decide +kernel
theorem dX6_order_37 : decode cX6_order 37 = .ok (.iconst 0, 1) := by decide +kernel
theorem dX6_order_38 : decode cX6_order 38 = .ok (.istore 4, 2) := by decide +kernel
theorem dX6_order_40 : decode cX6_order 40 = .ok (.iload 4, 2) := by decide +kernel
theorem dX6_order_42 : decode cX6_order 42 = .ok (.aload_n 0, 1) := by decide +kernel
theorem dX6_order_43 : decode cX6_order 43 = .ok (.getfield 69, 3) := by decide +kernel
theorem dX6_order_46 : decode cX6_order 46 = .ok (.if_icmp .ge 56, 3) := by decide +kernel
theorem dX6_order_49 : decode cX6_order 49 = .ok (.aload_n 0, 1) := by decide +kernel
theorem dX6_order_50 : decode cX6_order 50 = .ok (.iload_n 1, 1) := by decide +kernel
theorem dX6_order_51 : decode cX6_order 51 = .ok (.bipush 9, 2) := by decide +kernel
theorem dX6_order_53 : decode cX6_order 53 = .ok (.idiv, 1) := by decide +kernel
theorem dX6_order_54 : decode cX6_order 54 = .ok (.iload_n 1, 1) := by decide +kernel
theorem dX6_order_55 : decode cX6_order 55 = .ok (.bipush 9, 2) := by decide +kernel
theorem dX6_order_57 : decode cX6_order 57 = .ok (.irem, 1) := by decide +kernel
theorem dX6_order_58 : decode cX6_order 58 = .ok (.iload_n 3, 1) := by decide +kernel
theorem dX6_order_59 : decode cX6_order 59 = .ok (.iload 4, 2) := by decide +kernel
theorem dX6_order_61 : decode cX6_order 61 = .ok (.invokevirtual 72, 3) := by decide +kernel
theorem dX6_order_64 : decode cX6_order 64 = .ok (.istore 5, 2) := by decide +kernel
theorem dX6_order_66 : decode cX6_order 66 = .ok (.aload_n 0, 1) := by decide +kernel
theorem dX6_order_67 : decode cX6_order 67 = .ok (.iload_n 2, 1) := by decide +kernel
theorem dX6_order_68 : decode cX6_order 68 = .ok (.bipush 9, 2) := by decide +kernel
theorem dX6_order_70 : decode cX6_order 70 = .ok (.idiv, 1) := by decide +kernel
theorem dX6_order_71 : decode cX6_order 71 = .ok (.iload_n 2, 1) := by decide +kernel
theorem dX6_order_72 : decode cX6_order 72 = .ok (.bipush 9, 2) := by decide +kernel
theorem dX6_order_74 : decode cX6_order 74 = .ok (.irem, 1) := by decide +kernel
theorem dX6_order_75 : decode cX6_order 75 = .ok (.iload_n 3, 1) := by decide +kernel
theorem dX6_order_76 : decode cX6_order 76 = .ok (.iload 4, 2) := by decide +kernel
theorem dX6_order_78 : decode cX6_order 78 = .ok (.invokevirtual 72, 3) := by decide +kernel
theorem dX6_order_81 : decode cX6_order 81 = .ok (.istore 6, 2) := by decide +kernel
theorem dX6_order_83 : decode cX6_order 83 = .ok (.iload 5, 2) := by decide +kernel
theorem dX6_order_85 : decode cX6_order 85 = .ok (.iload 6, 2) := by decide +kernel
theorem dX6_order_87 : decode cX6_order 87 = .ok (.if_icmp .eq 9, 3) := by decide +kernel
theorem dX6_order_90 : decode cX6_order 90 = .ok (.iload 6, 2) := by decide +kernel
theorem dX6_order_92 : decode cX6_order 92 = .ok (.iload 5, 2) := by decide +kernel
theorem dX6_order_94 : decode cX6_order 94 = .ok (.isub, 1) := by decide +kernel
theorem dX6_order_95 : decode cX6_order 95 = .ok (.ireturn, 1) := by decide +kernel
theorem dX6_order_96 : decode cX6_order 96 = .ok (.iinc 4 1, 3) := by decide +kernel
theorem dX6_order_99 : decode cX6_order 99 = .ok (.goto (-59), 3) := by decide +kernel
theorem dX6_order_102 : decode cX6_order 102 = .ok (.iinc 3 1, 3) := by decide +kernel
theorem dX6_order_105 : decode cX6_order 105 = .ok (.goto (-74), 3) := by decide +kernel
theorem dX6_order_108 : decode cX6_order 108 = .ok (.iconst 0, 1) := by decide +kernel
theorem dX6_order_109 : decode cX6_order 109 = .ok (.ireturn, 1) := by decide +kernel
theorem dX6_isThere_0 : decode cX6_isThere 0 = .ok (.iload_n 1, 1) := by decide +kernel
theorem dX6_isThere_1 : decode cX6_isThere 1 = .ok (.bipush 9, 2) := by decide +kernel
theorem dX6_isThere_3 : decode cX6_isThere 3 = .ok (.irem, 1) := by decide +kernel
theorem dX6_isThere_4 : decode cX6_isThere 4 = .ok (.aload_n 0, 1) := by decide +kernel
theorem dX6_isThere_5 : decode cX6_isThere 5 = .ok (.getfield 7, 3) := by decide +kernel
theorem dX6_isThere_8 : decode cX6_isThere 8 = .ok (.if_icmp .ge 7, 3) := by decide +kernel
theorem dX6_isThere_11 : decode cX6_isThere 11 = .ok (.iconst 1, 1) := by decide +kernel
theorem dX6_isThere_12 : decode cX6_isThere 12 = .ok (.goto 4, 3) := by decide +kernel
theorem dX6_isThere_15 : decode cX6_isThere 15 = .ok (.iconst 0, 1) := by decide +kernel
theorem dX6_isThere_16 : decode cX6_isThere 16 = .ok (.ireturn, 1) := by decide +kernel
theorem dX6_paint_0 : decode cX6_paint 0 = .ok (.aload_n 0, 1) := by decide +kernel
theorem dX6_paint_1 : decode cX6_paint 1 = .ok (.getfield 49, 3) := by decide +kernel
theorem dX6_paint_4 : decode cX6_paint 4 = .ok (.ifCond .eq 4, 3) := by decide +kernel
theorem dX6_paint_7 : decode cX6_paint 7 = .ok (.return_, 1) := by decide +kernel
theorem dX6_paint_8 : decode cX6_paint 8 = .ok (.aload_n 0, 1) := by decide +kernel
theorem dX6_paint_9 : decode cX6_paint 9 = .ok (.iconst 1, 1) := by decide +kernel
theorem dX6_paint_10 : decode cX6_paint 10 = .ok (.putfield 49, 3) := by decide +kernel
theorem dX6_paint_13 : decode cX6_paint 13 = .ok (.aload_n 0, 1) := by decide +kernel
theorem dX6_paint_14 : decode cX6_paint 14 = .ok (.iconst 0, 1) := by decide +kernel
theorem dX6_paint_15 : decode cX6_paint 15 = .ok (.putfield 69, 3) := by decide +kernel
theorem dX6_paint_18 : decode cX6_paint 18 = .ok (.iconst 0, 1) := by decide +kernel
theorem dX6_paint_19 : decode cX6_paint 19 = .ok (.istore_n 1, 1) := by decide +kernel
theorem dX6_paint_20 : decode cX6_paint 20 = .ok (.iload_n 1, 1) := by decide +kernel
theorem dX6_paint_21 : decode cX6_paint 21 = .ok (.iconst 4, 1) := by decide +kernel
theorem dX6_paint_22 : decode cX6_paint 22 = .ok (.if_icmp .ge 73, 3) := by decide +kernel
theorem dX6_paint_25 : decode cX6_paint 25 = .ok (.iconst 0, 1) := by decide +kernel
theorem dX6_paint_26 : decode cX6_paint 26 = .ok (.istore_n 2, 1) := by decide +kernel
theorem dX6_paint_27 : decode cX6_paint 27 = .ok (.iconst 0, 1) := by decide +kernel
theorem dX6_paint_28 : decode cX6_paint 28 = .ok (.istore_n 3, 1) := by decide +kernel
theorem dX6_paint_29 : decode cX6_paint 29 = .ok (.iload_n 3, 1) := by decide +kernel
theorem dX6_paint_30 : decode cX6_paint 30 = .ok (.bipush 18, 2) := by decide +kernel
theorem dX6_paint_32 : decode cX6_paint 32 = .ok (.if_icmp .ge 39, 3) := by decide +kernel
theorem dX6_paint_35 : decode cX6_paint 35 = .ok (.aload_n 0, 1) := by decide +kernel
theorem dX6_paint_36 : decode cX6_paint 36 = .ok (.iload_n 3, 1) := by decide +kernel
theorem dX6_paint_37 : decode cX6_paint 37 = .ok (.invokevirtual 76, 3) := by decide +kernel
theorem dX6_paint_40 : decode cX6_paint 40 = .ok (.ifCond .eq 25, 3) := by decide +kernel
theorem dX6_paint_43 : decode cX6_paint 43 = .ok (.aload_n 0, 1) := by decide +kernel
theorem dX6_paint_44 : decode cX6_paint 44 = .ok (.getfield 17, 3) := by decide +kernel
theorem dX6_paint_47 : decode cX6_paint 47 = .ok (.iload_n 3, 1) := by decide +kernel
theorem dX6_paint_48 : decode cX6_paint 48 = .ok (.iaload, 1) := by decide +kernel
theorem dX6_paint_49 : decode cX6_paint 49 = .ok (.iload_n 1, 1) := by decide +kernel
theorem dX6_paint_50 : decode cX6_paint 50 = .ok (.if_icmp .ne 15, 3) := by decide +kernel
theorem dX6_paint_53 : decode cX6_paint 53 = .ok (.aload_n 0, 1) := by decide +kernel
theorem dX6_paint_54 : decode cX6_paint 54 = .ok (.getfield 39, 3) := by decide +kernel
theorem dX6_paint_57 : decode cX6_paint 57 = .ok (.iload_n 3, 1) := by decide +kernel
theorem dX6_paint_58 : decode cX6_paint 58 = .ok (.aload_n 0, 1) := by decide +kernel
theorem dX6_paint_59 : decode cX6_paint 59 = .ok (.getfield 69, 3) := by decide +kernel
theorem dX6_paint_62 : decode cX6_paint 62 = .ok (.iastore, 1) := by decide +kernel
theorem dX6_paint_63 : decode cX6_paint 63 = .ok (.iconst 1, 1) := by decide +kernel
theorem dX6_paint_64 : decode cX6_paint 64 = .ok (.istore_n 2, 1) := by decide +kernel
theorem dX6_paint_65 : decode cX6_paint 65 = .ok (.iinc 3 1, 3) := by decide +kernel
theorem dX6_paint_68 : decode cX6_paint 68 = .ok (.goto (-39), 3) := by decide +kernel
theorem dX6_paint_71 : decode cX6_paint 71 = .ok (.aload_n 0, 1) := by decide +kernel
theorem dX6_paint_72 : decode cX6_paint 72 = .ok (.dup, 1) := by decide +kernel
theorem dX6_paint_73 : decode cX6_paint 73 = .ok (.getfield 69, 3) := by decide +kernel
theorem dX6_paint_76 : decode cX6_paint 76 = .ok (.iload_n 2, 1) := by decide +kernel
theorem dX6_paint_77 : decode cX6_paint 77 = .ok (.ifCond .eq 7, 3) := by decide +kernel
theorem dX6_paint_80 : decode cX6_paint 80 = .ok (.iconst 1, 1) := by decide +kernel
theorem dX6_paint_81 : decode cX6_paint 81 = .ok (.goto 4, 3) := by decide +kernel
theorem dX6_paint_84 : decode cX6_paint 84 = .ok (.iconst 0, 1) := by decide +kernel
theorem dX6_paint_85 : decode cX6_paint 85 = .ok (.iadd, 1) := by decide +kernel
theorem dX6_paint_86 : decode cX6_paint 86 = .ok (.putfield 69, 3) := by decide +kernel
theorem dX6_paint_89 : decode cX6_paint 89 = .ok (.iinc 1 1, 3) := by decide +kernel
theorem dX6_paint_92 : decode cX6_paint 92 = .ok (.goto (-72), 3) := by decide +kernel
theorem dX6_paint_95 : decode cX6_paint 95 = .ok (.iconst 0, 1) := by decide +kernel
theorem dX6_paint_96 : decode cX6_paint 96 = .ok (.istore_n 1, 1) := by decide +kernel
theorem dX6_paint_97 : decode cX6_paint 97 = .ok (.iload_n 1, 1) := by decide +kernel
theorem dX6_paint_98 : decode cX6_paint 98 = .ok (.aload_n 0, 1) := by decide +kernel
theorem dX6_paint_99 : decode cX6_paint 99 = .ok (.getfield 69, 3) := by decide +kernel
theorem dX6_paint_102 : decode cX6_paint 102 = .ok (.if_icmp .ge 229, 3) := by decide +kernel
theorem dX6_paint_105 : decode cX6_paint 105 = .ok (.aload_n 0, 1) := by decide +kernel
theorem dX6_paint_106 : decode cX6_paint 106 = .ok (.getfield 69, 3) := by decide +kernel
theorem dX6_paint_109 : decode cX6_paint 109 = .ok (.istore_n 1, 1) := by decide +kernel
theorem dX6_paint_110 : decode cX6_paint 110 = .ok (.iconst 0, 1) := by decide +kernel
theorem dX6_paint_111 : decode cX6_paint 111 = .ok (.istore_n 2, 1) := by decide +kernel
theorem dX6_paint_112 : decode cX6_paint 112 = .ok (.iconst 0, 1) := by decide +kernel
theorem dX6_paint_113 : decode cX6_paint 113 = .ok (.istore_n 3, 1) := by decide +kernel
theorem dX6_paint_114 : decode cX6_paint 114 = .ok (.iload_n 3, 1) := by decide +kernel
theorem dX6_paint_115 : decode cX6_paint 115 = .ok (.bipush 18, 2) := by decide +kernel
theorem dX6_paint_117 : decode cX6_paint 117 = .ok (.if_icmp .ge 180, 3) := by decide +kernel
theorem dX6_paint_120 : decode cX6_paint 120 = .ok (.aload_n 0, 1) := by decide +kernel
theorem dX6_paint_121 : decode cX6_paint 121 = .ok (.getfield 42, 3) := by decide +kernel
theorem dX6_paint_124 : decode cX6_paint 124 = .ok (.iload_n 3, 1) := by decide +kernel
theorem dX6_paint_125 : decode cX6_paint 125 = .ok (.iconst 0, 1) := by decide +kernel
theorem dX6_paint_126 : decode cX6_paint 126 = .ok (.iastore, 1) := by decide +kernel
theorem dX6_paint_127 : decode cX6_paint 127 = .ok (.aload_n 0, 1) := by decide +kernel
theorem dX6_paint_128 : decode cX6_paint 128 = .ok (.iload_n 3, 1) := by decide +kernel
theorem dX6_paint_129 : decode cX6_paint 129 = .ok (.invokevirtual 76, 3) := by decide +kernel
theorem dX6_paint_132 : decode cX6_paint 132 = .ok (.istore 4, 2) := by decide +kernel
theorem dX6_paint_134 : decode cX6_paint 134 = .ok (.iconst 0, 1) := by decide +kernel
theorem dX6_paint_135 : decode cX6_paint 135 = .ok (.istore 5, 2) := by decide +kernel
theorem dX6_paint_137 : decode cX6_paint 137 = .ok (.iload 5, 2) := by decide +kernel
theorem dX6_paint_139 : decode cX6_paint 139 = .ok (.bipush 18, 2) := by decide +kernel
theorem dX6_paint_141 : decode cX6_paint 141 = .ok (.if_icmp .ge 137, 3) := by decide +kernel
theorem dX6_paint_144 : decode cX6_paint 144 = .ok (.aload_n 0, 1) := by decide +kernel
theorem dX6_paint_145 : decode cX6_paint 145 = .ok (.iload_n 3, 1) := by decide +kernel
theorem dX6_paint_146 : decode cX6_paint 146 = .ok (.invokevirtual 76, 3) := by decide +kernel
theorem dX6_paint_149 : decode cX6_paint 149 = .ok (.ifCond .eq 123, 3) := by decide +kernel
theorem dX6_paint_152 : decode cX6_paint 152 = .ok (.aload_n 0, 1) := by decide +kernel
theorem dX6_paint_153 : decode cX6_paint 153 = .ok (.iload 5, 2) := by decide +kernel
theorem dX6_paint_155 : decode cX6_paint 155 = .ok (.invokevirtual 76, 3) := by decide +kernel
theorem dX6_paint_158 : decode cX6_paint 158 = .ok (.ifCond .eq 114, 3) := by decide +kernel
theorem dX6_paint_161 : decode cX6_paint 161 = .ok (.aload_n 0, 1) := by decide +kernel
theorem dX6_paint_162 : decode cX6_paint 162 = .ok (.iload 5, 2) := by decide +kernel
theorem dX6_paint_164 : decode cX6_paint 164 = .ok (.iload_n 3, 1) := by decide +kernel
theorem dX6_paint_165 : decode cX6_paint 165 = .ok (.invokevirtual 79, 3) := by decide +kernel
theorem dX6_paint_168 : decode cX6_paint 168 = .ok (.istore 6, 2) := by decide +kernel
theorem dX6_paint_170 : decode cX6_paint 170 = .ok (.iload 6, 2) := by decide +kernel
theorem dX6_paint_172 : decode cX6_paint 172 = .ok (.ifCond .ge 7, 3) := by decide +kernel
theorem dX6_paint_175 : decode cX6_paint 175 = .ok (.iconst 1, 1) := by decide +kernel
theorem dX6_paint_176 : decode cX6_paint 176 = .ok (.goto 4, 3) := by decide +kernel
theorem dX6_paint_179 : decode cX6_paint 179 = .ok (.iconst 0, 1) := by decide +kernel
theorem dX6_paint_180 : decode cX6_paint 180 = .ok (.istore 7, 2) := by decide +kernel
theorem dX6_paint_182 : decode cX6_paint 182 = .ok (.iconst 0, 1) := by decide +kernel
theorem dX6_paint_183 : decode cX6_paint 183 = .ok (.istore 8, 2) := by decide +kernel
theorem dX6_paint_185 : decode cX6_paint 185 = .ok (.iload 8, 2) := by decide +kernel
theorem dX6_paint_187 : decode cX6_paint 187 = .ok (.iload 5, 2) := by decide +kernel
theorem dX6_paint_189 : decode cX6_paint 189 = .ok (.if_icmp .ge 41, 3) := by decide +kernel
theorem dX6_paint_192 : decode cX6_paint 192 = .ok (.iload 7, 2) := by decide +kernel
theorem dX6_paint_194 : decode cX6_paint 194 = .ok (.ifCond .eq 36, 3) := by decide +kernel
theorem dX6_paint_197 : decode cX6_paint 197 = .ok (.aload_n 0, 1) := by decide +kernel
theorem dX6_paint_198 : decode cX6_paint 198 = .ok (.iload 8, 2) := by decide +kernel
theorem dX6_paint_200 : decode cX6_paint 200 = .ok (.invokevirtual 76, 3) := by decide +kernel
theorem dX6_paint_203 : decode cX6_paint 203 = .ok (.ifCond .eq 14, 3) := by decide +kernel
theorem dX6_paint_206 : decode cX6_paint 206 = .ok (.aload_n 0, 1) := by decide +kernel
theorem dX6_paint_207 : decode cX6_paint 207 = .ok (.iload 8, 2) := by decide +kernel
theorem dX6_paint_209 : decode cX6_paint 209 = .ok (.iload 5, 2) := by decide +kernel
theorem dX6_paint_211 : decode cX6_paint 211 = .ok (.invokevirtual 79, 3) := by decide +kernel
theorem dX6_paint_214 : decode cX6_paint 214 = .ok (.ifCond .eq 7, 3) := by decide +kernel
theorem dX6_paint_217 : decode cX6_paint 217 = .ok (.iconst 1, 1) := by decide +kernel
theorem dX6_paint_218 : decode cX6_paint 218 = .ok (.goto 4, 3) := by decide +kernel
theorem dX6_paint_221 : decode cX6_paint 221 = .ok (.iconst 0, 1) := by decide +kernel
theorem dX6_paint_222 : decode cX6_paint 222 = .ok (.istore 7, 2) := by decide +kernel
theorem dX6_paint_224 : decode cX6_paint 224 = .ok (.iinc 8 1, 3) := by decide +kernel
theorem dX6_paint_227 : decode cX6_paint 227 = .ok (.goto (-42), 3) := by decide +kernel
theorem dX6_paint_230 : decode cX6_paint 230 = .ok (.aload_n 0, 1) := by decide +kernel
theorem dX6_paint_231 : decode cX6_paint 231 = .ok (.getfield 42, 3) := by decide +kernel
theorem dX6_paint_234 : decode cX6_paint 234 = .ok (.iload_n 3, 1) := by decide +kernel
theorem dX6_paint_235 : decode cX6_paint 235 = .ok (.dup2, 1) := by decide +kernel
theorem dX6_paint_236 : decode cX6_paint 236 = .ok (.iaload, 1) := by decide +kernel
theorem dX6_paint_237 : decode cX6_paint 237 = .ok (.iload 7, 2) := by decide +kernel
theorem dX6_paint_239 : decode cX6_paint 239 = .ok (.ifCond .eq 7, 3) := by decide +kernel
theorem dX6_paint_242 : decode cX6_paint 242 = .ok (.iconst 1, 1) := by decide +kernel
theorem dX6_paint_243 : decode cX6_paint 243 = .ok (.goto 4, 3) := by decide +kernel
theorem dX6_paint_246 : decode cX6_paint 246 = .ok (.iconst 0, 1) := by decide +kernel
theorem dX6_paint_247 : decode cX6_paint 247 = .ok (.iadd, 1) := by decide +kernel
theorem dX6_paint_248 : decode cX6_paint 248 = .ok (.iastore, 1) := by decide +kernel
theorem dX6_paint_249 : decode cX6_paint 249 = .ok (.iload 4, 2) := by decide +kernel
theorem dX6_paint_251 : decode cX6_paint 251 = .ok (.ifCond .eq 18, 3) := by decide +kernel
theorem dX6_paint_254 : decode cX6_paint 254 = .ok (.iload 5, 2) := by decide +kernel
theorem dX6_paint_256 : decode cX6_paint 256 = .ok (.iload_n 3, 1) := by decide +kernel
theorem dX6_paint_257 : decode cX6_paint 257 = .ok (.if_icmp .ge 8, 3) := by decide +kernel
theorem dX6_paint_260 : decode cX6_paint 260 = .ok (.iload 6, 2) := by decide +kernel
theorem dX6_paint_262 : decode cX6_paint 262 = .ok (.ifCond .eq 7, 3) := by decide +kernel
theorem dX6_paint_265 : decode cX6_paint 265 = .ok (.iconst 1, 1) := by decide +kernel
theorem dX6_paint_266 : decode cX6_paint 266 = .ok (.goto 4, 3) := by decide +kernel
theorem dX6_paint_269 : decode cX6_paint 269 = .ok (.iconst 0, 1) := by decide +kernel
theorem dX6_paint_270 : decode cX6_paint 270 = .ok (.istore 4, 2) := by decide +kernel
theorem dX6_paint_272 : decode cX6_paint 272 = .ok (.iinc 5 1, 3) := by decide +kernel
theorem dX6_paint_275 : decode cX6_paint 275 = .ok (.goto (-138), 3) := by decide +kernel
theorem dX6_paint_278 : decode cX6_paint 278 = .ok (.iload_n 2, 1) := by decide +kernel
theorem dX6_paint_279 : decode cX6_paint 279 = .ok (.iload 4, 2) := by decide +kernel
theorem dX6_paint_281 : decode cX6_paint 281 = .ok (.ifCond .eq 7, 3) := by decide +kernel
theorem dX6_paint_284 : decode cX6_paint 284 = .ok (.iconst 1, 1) := by decide +kernel
theorem dX6_paint_285 : decode cX6_paint 285 = .ok (.goto 4, 3) := by decide +kernel
theorem dX6_paint_288 : decode cX6_paint 288 = .ok (.iconst 0, 1) := by decide +kernel
theorem dX6_paint_289 : decode cX6_paint 289 = .ok (.iadd, 1) := by decide +kernel
theorem dX6_paint_290 : decode cX6_paint 290 = .ok (.istore_n 2, 1) := by decide +kernel
theorem dX6_paint_291 : decode cX6_paint 291 = .ok (.iinc 3 1, 3) := by decide +kernel
theorem dX6_paint_294 : decode cX6_paint 294 = .ok (.goto (-180), 3) := by decide +kernel
theorem dX6_paint_297 : decode cX6_paint 297 = .ok (.iconst 0, 1) := by decide +kernel
theorem dX6_paint_298 : decode cX6_paint 298 = .ok (.istore_n 3, 1) := by decide +kernel
theorem dX6_paint_299 : decode cX6_paint 299 = .ok (.iload_n 3, 1) := by decide +kernel
theorem dX6_paint_300 : decode cX6_paint 300 = .ok (.bipush 18, 2) := by decide +kernel
theorem dX6_paint_302 : decode cX6_paint 302 = .ok (.if_icmp .ge 21, 3) := by decide +kernel
theorem dX6_paint_305 : decode cX6_paint 305 = .ok (.aload_n 0, 1) := by decide +kernel
theorem dX6_paint_306 : decode cX6_paint 306 = .ok (.getfield 39, 3) := by decide +kernel
theorem dX6_paint_309 : decode cX6_paint 309 = .ok (.iload_n 3, 1) := by decide +kernel
theorem dX6_paint_310 : decode cX6_paint 310 = .ok (.aload_n 0, 1) := by decide +kernel
theorem dX6_paint_311 : decode cX6_paint 311 = .ok (.getfield 42, 3) := by decide +kernel
theorem dX6_paint_314 : decode cX6_paint 314 = .ok (.iload_n 3, 1) := by decide +kernel
theorem dX6_paint_315 : decode cX6_paint 315 = .ok (.iaload, 1) := by decide +kernel
theorem dX6_paint_316 : decode cX6_paint 316 = .ok (.iastore, 1) := by decide +kernel
theorem dX6_paint_317 : decode cX6_paint 317 = .ok (.iinc 3 1, 3) := by decide +kernel
theorem dX6_paint_320 : decode cX6_paint 320 = .ok (.goto (-21), 3) := by decide +kernel
theorem dX6_paint_323 : decode cX6_paint 323 = .ok (.aload_n 0, 1) := by decide +kernel
theorem dX6_paint_324 : decode cX6_paint 324 = .ok (.iload_n 2, 1) := by decide +kernel
theorem dX6_paint_325 : decode cX6_paint 325 = .ok (.putfield 69, 3) := by decide +kernel
theorem dX6_paint_328 : decode cX6_paint 328 = .ok (.goto (-231), 3) := by decide +kernel
theorem dX6_paint_331 : decode cX6_paint 331 = .ok (.return_, 1) := by decide +kernel
theorem dX6_colours_0 : decode cX6_colours 0 = .ok (.aload_n 0, 1) := by decide +kernel
theorem dX6_colours_1 : decode cX6_colours 1 = .ok (.invokevirtual 83, 3) := by decide +kernel
theorem dX6_colours_4 : decode cX6_colours 4 = .ok (.aload_n 0, 1) := by decide +kernel
theorem dX6_colours_5 : decode cX6_colours 5 = .ok (.getfield 69, 3) := by decide +kernel
theorem dX6_colours_8 : decode cX6_colours 8 = .ok (.ireturn, 1) := by decide +kernel
theorem dX6_colour_0 : decode cX6_colour 0 = .ok (.iload_n 1, 1) := by decide +kernel
theorem dX6_colour_1 : decode cX6_colour 1 = .ok (.invokestatic 55, 3) := by decide +kernel
theorem dX6_colour_4 : decode cX6_colour 4 = .ok (.ifCond .eq 11, 3) := by decide +kernel
theorem dX6_colour_7 : decode cX6_colour 7 = .ok (.aload_n 0, 1) := by decide +kernel
theorem dX6_colour_8 : decode cX6_colour 8 = .ok (.iload_n 2, 1) := by decide +kernel
theorem dX6_colour_9 : decode cX6_colour 9 = .ok (.invokevirtual 59, 3) := by decide +kernel
theorem dX6_colour_12 : decode cX6_colour 12 = .ok (.ifCond .ne 5, 3) := by decide +kernel
theorem dX6_colour_15 : decode cX6_colour 15 = .ok (.iconst (-1), 1) := by decide +kernel
theorem dX6_colour_16 : decode cX6_colour 16 = .ok (.ireturn, 1) := by decide +kernel
theorem dX6_colour_17 : decode cX6_colour 17 = .ok (.aload_n 0, 1) := by decide +kernel
theorem dX6_colour_18 : decode cX6_colour 18 = .ok (.invokevirtual 83, 3) := by decide +kernel
theorem dX6_colour_21 : decode cX6_colour 21 = .ok (.aload_n 0, 1) := by decide +kernel
theorem dX6_colour_22 : decode cX6_colour 22 = .ok (.getfield 39, 3) := by decide +kernel
theorem dX6_colour_25 : decode cX6_colour 25 = .ok (.bipush 9, 2) := by decide +kernel
theorem dX6_colour_27 : decode cX6_colour 27 = .ok (.iload_n 1, 1) := by decide +kernel
theorem dX6_colour_28 : decode cX6_colour 28 = .ok (.imul, 1) := by decide +kernel
theorem dX6_colour_29 : decode cX6_colour 29 = .ok (.iload_n 2, 1) := by decide +kernel
theorem dX6_colour_30 : decode cX6_colour 30 = .ok (.iadd, 1) := by decide +kernel
theorem dX6_colour_31 : decode cX6_colour 31 = .ok (.iaload, 1) := by decide +kernel
theorem dX6_colour_32 : decode cX6_colour 32 = .ok (.ireturn, 1) := by decide +kernel
theorem dX6_fits_0 : decode cX6_fits 0 = .ok (.aload_n 0, 1) := by decide +kernel
theorem dX6_fits_1 : decode cX6_fits 1 = .ok (.getfield 17, 3) := by decide +kernel
theorem dX6_fits_4 : decode cX6_fits 4 = .ok (.bipush 9, 2) := by decide +kernel
theorem dX6_fits_6 : decode cX6_fits 6 = .ok (.iload_n 1, 1) := by decide +kernel
theorem dX6_fits_7 : decode cX6_fits 7 = .ok (.imul, 1) := by decide +kernel
theorem dX6_fits_8 : decode cX6_fits 8 = .ok (.iload_n 3, 1) := by decide +kernel
theorem dX6_fits_9 : decode cX6_fits 9 = .ok (.iadd, 1) := by decide +kernel
theorem dX6_fits_10 : decode cX6_fits 10 = .ok (.iaload, 1) := by decide +kernel
theorem dX6_fits_11 : decode cX6_fits 11 = .ok (.aload_n 0, 1) := by decide +kernel
theorem dX6_fits_12 : decode cX6_fits 12 = .ok (.getfield 17, 3) := by decide +kernel
theorem dX6_fits_15 : decode cX6_fits 15 = .ok (.bipush 9, 2) := by decide +kernel
theorem dX6_fits_17 : decode cX6_fits 17 = .ok (.iload_n 2, 1) := by decide +kernel
theorem dX6_fits_18 : decode cX6_fits 18 = .ok (.imul, 1) := by decide +kernel
theorem dX6_fits_19 : decode cX6_fits 19 = .ok (.iload 4, 2) := by decide +kernel
theorem dX6_fits_21 : decode cX6_fits 21 = .ok (.iadd, 1) := by decide +kernel
theorem dX6_fits_22 : decode cX6_fits 22 = .ok (.iaload, 1) := by decide +kernel
theorem dX6_fits_23 : decode cX6_fits 23 = .ok (.if_icmp .ne 24, 3) := by decide +kernel
theorem dX6_fits_26 : decode cX6_fits 26 = .ok (.aload_n 0, 1) := by decide +kernel
theorem dX6_fits_27 : decode cX6_fits 27 = .ok (.getfield 26, 3) := by decide +kernel
theorem dX6_fits_30 : decode cX6_fits 30 = .ok (.iload_n 3, 1) := by decide +kernel
theorem dX6_fits_31 : decode cX6_fits 31 = .ok (.iaload, 1) := by decide +kernel
theorem dX6_fits_32 : decode cX6_fits 32 = .ok (.iconst (-1), 1) := by decide +kernel
theorem dX6_fits_33 : decode cX6_fits 33 = .ok (.if_icmp .eq 16, 3) := by decide +kernel
theorem dX6_fits_36 : decode cX6_fits 36 = .ok (.aload_n 0, 1) := by decide +kernel
theorem dX6_fits_37 : decode cX6_fits 37 = .ok (.getfield 26, 3) := by decide +kernel
theorem dX6_fits_40 : decode cX6_fits 40 = .ok (.iload_n 3, 1) := by decide +kernel
theorem dX6_fits_41 : decode cX6_fits 41 = .ok (.iaload, 1) := by decide +kernel
theorem dX6_fits_42 : decode cX6_fits 42 = .ok (.iload 4, 2) := by decide +kernel
theorem dX6_fits_44 : decode cX6_fits 44 = .ok (.if_icmp .eq 5, 3) := by decide +kernel
theorem dX6_fits_47 : decode cX6_fits 47 = .ok (.iconst 0, 1) := by decide +kernel
theorem dX6_fits_48 : decode cX6_fits 48 = .ok (.ireturn, 1) := by decide +kernel
theorem dX6_fits_49 : decode cX6_fits 49 = .ok (.iconst 0, 1) := by decide +kernel
theorem dX6_fits_50 : decode cX6_fits 50 = .ok (.istore 5, 2) := by decide +kernel
theorem dX6_fits_52 : decode cX6_fits 52 = .ok (.iload 5, 2) := by decide +kernel
theorem dX6_fits_54 : decode cX6_fits 54 = .ok (.iload_n 3, 1) := by decide +kernel
theorem dX6_fits_55 : decode cX6_fits 55 = .ok (.if_icmp .ge 73, 3) := by decide +kernel
theorem dX6_fits_58 : decode cX6_fits 58 = .ok (.aload_n 0, 1) := by decide +kernel
theorem dX6_fits_59 : decode cX6_fits 59 = .ok (.getfield 23, 3) := by decide +kernel
theorem dX6_fits_62 : decode cX6_fits 62 = .ok (.iload 5, 2) := by decide +kernel
theorem dX6_fits_64 : decode cX6_fits 64 = .ok (.iaload, 1) := by decide +kernel
theorem dX6_fits_65 : decode cX6_fits 65 = .ok (.iload 4, 2) := by decide +kernel
theorem dX6_fits_67 : decode cX6_fits 67 = .ok (.if_icmp .eq 53, 3) := by decide +kernel
theorem dX6_fits_70 : decode cX6_fits 70 = .ok (.aload_n 0, 1) := by decide +kernel
theorem dX6_fits_71 : decode cX6_fits 71 = .ok (.iload_n 1, 1) := by decide +kernel
theorem dX6_fits_72 : decode cX6_fits 72 = .ok (.iload_n 3, 1) := by decide +kernel
theorem dX6_fits_73 : decode cX6_fits 73 = .ok (.iload 5, 2) := by decide +kernel
theorem dX6_fits_75 : decode cX6_fits 75 = .ok (.invokevirtual 62, 3) := by decide +kernel
theorem dX6_fits_78 : decode cX6_fits 78 = .ok (.aload_n 0, 1) := by decide +kernel
theorem dX6_fits_79 : decode cX6_fits 79 = .ok (.iload_n 2, 1) := by decide +kernel
theorem dX6_fits_80 : decode cX6_fits 80 = .ok (.iload 4, 2) := by decide +kernel
theorem dX6_fits_82 : decode cX6_fits 82 = .ok (.aload_n 0, 1) := by decide +kernel
theorem dX6_fits_83 : decode cX6_fits 83 = .ok (.getfield 23, 3) := by decide +kernel
theorem dX6_fits_86 : decode cX6_fits 86 = .ok (.iload 5, 2) := by decide +kernel
theorem dX6_fits_88 : decode cX6_fits 88 = .ok (.iaload, 1) := by decide +kernel
theorem dX6_fits_89 : decode cX6_fits 89 = .ok (.invokevirtual 62, 3) := by decide +kernel
theorem dX6_fits_92 : decode cX6_fits 92 = .ok (.if_icmp .ne 28, 3) := by decide +kernel
theorem dX6_fits_95 : decode cX6_fits 95 = .ok (.aload_n 0, 1) := by decide +kernel
theorem dX6_fits_96 : decode cX6_fits 96 = .ok (.iload_n 1, 1) := by decide +kernel
theorem dX6_fits_97 : decode cX6_fits 97 = .ok (.iload 5, 2) := by decide +kernel
theorem dX6_fits_99 : decode cX6_fits 99 = .ok (.iload_n 3, 1) := by decide +kernel
theorem dX6_fits_100 : decode cX6_fits 100 = .ok (.invokevirtual 62, 3) := by decide +kernel
theorem dX6_fits_103 : decode cX6_fits 103 = .ok (.aload_n 0, 1) := by decide +kernel
theorem dX6_fits_104 : decode cX6_fits 104 = .ok (.iload_n 2, 1) := by decide +kernel
theorem dX6_fits_105 : decode cX6_fits 105 = .ok (.aload_n 0, 1) := by decide +kernel
theorem dX6_fits_106 : decode cX6_fits 106 = .ok (.getfield 23, 3) := by decide +kernel
theorem dX6_fits_109 : decode cX6_fits 109 = .ok (.iload 5, 2) := by decide +kernel
theorem dX6_fits_111 : decode cX6_fits 111 = .ok (.iaload, 1) := by decide +kernel
theorem dX6_fits_112 : decode cX6_fits 112 = .ok (.iload 4, 2) := by decide +kernel
theorem dX6_fits_114 : decode cX6_fits 114 = .ok (.invokevirtual 62, 3) := by decide +kernel
theorem dX6_fits_117 : decode cX6_fits 117 = .ok (.if_icmp .eq 5, 3) := by decide +kernel
theorem dX6_fits_120 : decode cX6_fits 120 = .ok (.iconst 0, 1) := by decide +kernel
theorem dX6_fits_121 : decode cX6_fits 121 = .ok (.ireturn, 1) := by decide +kernel
theorem dX6_fits_122 : decode cX6_fits 122 = .ok (.iinc 5 1, 3) := by decide +kernel
theorem dX6_fits_125 : decode cX6_fits 125 = .ok (.goto (-73), 3) := by decide +kernel
theorem dX6_fits_128 : decode cX6_fits 128 = .ok (.iconst 1, 1) := by decide +kernel
theorem dX6_fits_129 : decode cX6_fits 129 = .ok (.ireturn, 1) := by decide +kernel
theorem dX6_search_0 : decode cX6_search 0 = .ok (.iload_n 3, 1) := by decide +kernel
theorem dX6_search_1 : decode cX6_search 1 = .ok (.istore 4, 2) := by decide +kernel
theorem dX6_search_3 : decode cX6_search 3 = .ok (.iload 4, 2) := by decide +kernel
theorem dX6_search_5 : decode cX6_search 5 = .ok (.ifCond .lt 79, 3) := by decide +kernel
theorem dX6_search_8 : decode cX6_search 8 = .ok (.aload_n 0, 1) := by decide +kernel
theorem dX6_search_9 : decode cX6_search 9 = .ok (.getfield 23, 3) := by decide +kernel
theorem dX6_search_12 : decode cX6_search 12 = .ok (.iload 4, 2) := by decide +kernel
theorem dX6_search_14 : decode cX6_search 14 = .ok (.dup2, 1) := by decide +kernel
theorem dX6_search_15 : decode cX6_search 15 = .ok (.iaload, 1) := by decide +kernel
theorem dX6_search_16 : decode cX6_search 16 = .ok (.iconst 1, 1) := by decide +kernel
theorem dX6_search_17 : decode cX6_search 17 = .ok (.iadd, 1) := by decide +kernel
theorem dX6_search_18 : decode cX6_search 18 = .ok (.iastore, 1) := by decide +kernel
theorem dX6_search_19 : decode cX6_search 19 = .ok (.aload_n 0, 1) := by decide +kernel
theorem dX6_search_20 : decode cX6_search 20 = .ok (.getfield 23, 3) := by decide +kernel
theorem dX6_search_23 : decode cX6_search 23 = .ok (.iload 4, 2) := by decide +kernel
theorem dX6_search_25 : decode cX6_search 25 = .ok (.iaload, 1) := by decide +kernel
theorem dX6_search_26 : decode cX6_search 26 = .ok (.aload_n 0, 1) := by decide +kernel
theorem dX6_search_27 : decode cX6_search 27 = .ok (.getfield 7, 3) := by decide +kernel
theorem dX6_search_30 : decode cX6_search 30 = .ok (.if_icmp .lt 9, 3) := by decide +kernel
theorem dX6_search_33 : decode cX6_search 33 = .ok (.iinc 4 (-1), 3) := by decide +kernel
theorem dX6_search_36 : decode cX6_search 36 = .ok (.goto (-33), 3) := by decide +kernel
theorem dX6_search_39 : decode cX6_search 39 = .ok (.aload_n 0, 1) := by decide +kernel
theorem dX6_search_40 : decode cX6_search 40 = .ok (.iload_n 1, 1) := by decide +kernel
theorem dX6_search_41 : decode cX6_search 41 = .ok (.iload_n 2, 1) := by decide +kernel
theorem dX6_search_42 : decode cX6_search 42 = .ok (.iload 4, 2) := by decide +kernel
theorem dX6_search_44 : decode cX6_search 44 = .ok (.aload_n 0, 1) := by decide +kernel
theorem dX6_search_45 : decode cX6_search 45 = .ok (.getfield 23, 3) := by decide +kernel
theorem dX6_search_48 : decode cX6_search 48 = .ok (.iload 4, 2) := by decide +kernel
theorem dX6_search_50 : decode cX6_search 50 = .ok (.iaload, 1) := by decide +kernel
theorem dX6_search_51 : decode cX6_search 51 = .ok (.invokevirtual 86, 3) := by decide +kernel
theorem dX6_search_54 : decode cX6_search 54 = .ok (.ifCond .eq (-51), 3) := by decide +kernel
theorem dX6_search_57 : decode cX6_search 57 = .ok (.iload 4, 2) := by decide +kernel
theorem dX6_search_59 : decode cX6_search 59 = .ok (.aload_n 0, 1) := by decide +kernel
theorem dX6_search_60 : decode cX6_search 60 = .ok (.getfield 7, 3) := by decide +kernel
theorem dX6_search_63 : decode cX6_search 63 = .ok (.iconst 1, 1) := by decide +kernel
theorem dX6_search_64 : decode cX6_search 64 = .ok (.isub, 1) := by decide +kernel
theorem dX6_search_65 : decode cX6_search 65 = .ok (.if_icmp .ne 5, 3) := by decide +kernel
theorem dX6_search_68 : decode cX6_search 68 = .ok (.iconst 1, 1) := by decide +kernel
theorem dX6_search_69 : decode cX6_search 69 = .ok (.ireturn, 1) := by decide +kernel
theorem dX6_search_70 : decode cX6_search 70 = .ok (.iinc 4 1, 3) := by decide +kernel
theorem dX6_search_73 : decode cX6_search 73 = .ok (.aload_n 0, 1) := by decide +kernel
theorem dX6_search_74 : decode cX6_search 74 = .ok (.getfield 23, 3) := by decide +kernel
theorem dX6_search_77 : decode cX6_search 77 = .ok (.iload 4, 2) := by decide +kernel
theorem dX6_search_79 : decode cX6_search 79 = .ok (.iconst (-1), 1) := by decide +kernel
theorem dX6_search_80 : decode cX6_search 80 = .ok (.iastore, 1) := by decide +kernel
theorem dX6_search_81 : decode cX6_search 81 = .ok (.goto (-78), 3) := by decide +kernel
theorem dX6_search_84 : decode cX6_search 84 = .ok (.iconst 0, 1) := by decide +kernel
theorem dX6_search_85 : decode cX6_search 85 = .ok (.ireturn, 1) := by decide +kernel
theorem dX6_free_0 : decode cX6_free 0 = .ok (.iconst 0, 1) := by decide +kernel
theorem dX6_free_1 : decode cX6_free 1 = .ok (.istore_n 1, 1) := by decide +kernel
theorem dX6_free_2 : decode cX6_free 2 = .ok (.iload_n 1, 1) := by decide +kernel
theorem dX6_free_3 : decode cX6_free 3 = .ok (.bipush 9, 2) := by decide +kernel
theorem dX6_free_5 : decode cX6_free 5 = .ok (.if_icmp .ge 16, 3) := by decide +kernel
theorem dX6_free_8 : decode cX6_free 8 = .ok (.aload_n 0, 1) := by decide +kernel
theorem dX6_free_9 : decode cX6_free 9 = .ok (.getfield 26, 3) := by decide +kernel
theorem dX6_free_12 : decode cX6_free 12 = .ok (.iload_n 1, 1) := by decide +kernel
theorem dX6_free_13 : decode cX6_free 13 = .ok (.iconst (-1), 1) := by decide +kernel
theorem dX6_free_14 : decode cX6_free 14 = .ok (.iastore, 1) := by decide +kernel
theorem dX6_free_15 : decode cX6_free 15 = .ok (.iinc 1 1, 3) := by decide +kernel
theorem dX6_free_18 : decode cX6_free 18 = .ok (.goto (-16), 3) := by decide +kernel
theorem dX6_free_21 : decode cX6_free 21 = .ok (.aload_n 0, 1) := by decide +kernel
theorem dX6_free_22 : decode cX6_free 22 = .ok (.getfield 23, 3) := by decide +kernel
theorem dX6_free_25 : decode cX6_free 25 = .ok (.iconst 0, 1) := by decide +kernel
theorem dX6_free_26 : decode cX6_free 26 = .ok (.iconst (-1), 1) := by decide +kernel
theorem dX6_free_27 : decode cX6_free 27 = .ok (.iastore, 1) := by decide +kernel
theorem dX6_free_28 : decode cX6_free 28 = .ok (.return_, 1) := by decide +kernel
theorem dX6_twins_0 : decode cX6_twins 0 = .ok (.aload_n 0, 1) := by decide +kernel
theorem dX6_twins_1 : decode cX6_twins 1 = .ok (.invokevirtual 90, 3) := by decide +kernel
theorem dX6_twins_4 : decode cX6_twins 4 = .ok (.aload_n 0, 1) := by decide +kernel
theorem dX6_twins_5 : decode cX6_twins 5 = .ok (.aload_n 0, 1) := by decide +kernel
theorem dX6_twins_6 : decode cX6_twins 6 = .ok (.iconst 0, 1) := by decide +kernel
theorem dX6_twins_7 : decode cX6_twins 7 = .ok (.iconst 1, 1) := by decide +kernel
theorem dX6_twins_8 : decode cX6_twins 8 = .ok (.iconst 0, 1) := by decide +kernel
theorem dX6_twins_9 : decode cX6_twins 9 = .ok (.invokevirtual 93, 3) := by decide +kernel
theorem dX6_twins_12 : decode cX6_twins 12 = .ok (.putfield 45, 3) := by decide +kernel
theorem dX6_twins_15 : decode cX6_twins 15 = .ok (.aload_n 0, 1) := by decide +kernel
theorem dX6_twins_16 : decode cX6_twins 16 = .ok (.invokevirtual 97, 3) := by decide +kernel
theorem dX6_twins_19 : decode cX6_twins 19 = .ok (.aload_n 0, 1) := by decide +kernel
theorem dX6_twins_20 : decode cX6_twins 20 = .ok (.getfield 45, 3) := by decide +kernel
theorem dX6_twins_23 : decode cX6_twins 23 = .ok (.ifCond .eq 7, 3) := by decide +kernel
theorem dX6_twins_26 : decode cX6_twins 26 = .ok (.iconst 1, 1) := by decide +kernel
theorem dX6_twins_27 : decode cX6_twins 27 = .ok (.goto 4, 3) := by decide +kernel
theorem dX6_twins_30 : decode cX6_twins 30 = .ok (.iconst 0, 1) := by decide +kernel
theorem dX6_twins_31 : decode cX6_twins 31 = .ok (.ireturn, 1) := by decide +kernel
theorem dX6_keep_0 : decode cX6_keep 0 = .ok (.iconst 0, 1) := by decide +kernel
theorem dX6_keep_1 : decode cX6_keep 1 = .ok (.istore_n 1, 1) := by decide +kernel
theorem dX6_keep_2 : decode cX6_keep 2 = .ok (.iload_n 1, 1) := by decide +kernel
theorem dX6_keep_3 : decode cX6_keep 3 = .ok (.aload_n 0, 1) := by decide +kernel
theorem dX6_keep_4 : decode cX6_keep 4 = .ok (.getfield 7, 3) := by decide +kernel
theorem dX6_keep_7 : decode cX6_keep 7 = .ok (.if_icmp .ge 28, 3) := by decide +kernel
theorem dX6_keep_10 : decode cX6_keep 10 = .ok (.aload_n 0, 1) := by decide +kernel
theorem dX6_keep_11 : decode cX6_keep 11 = .ok (.getfield 45, 3) := by decide +kernel
theorem dX6_keep_14 : decode cX6_keep 14 = .ok (.ifCond .eq 21, 3) := by decide +kernel
theorem dX6_keep_17 : decode cX6_keep 17 = .ok (.aload_n 0, 1) := by decide +kernel
theorem dX6_keep_18 : decode cX6_keep 18 = .ok (.getfield 20, 3) := by decide +kernel
theorem dX6_keep_21 : decode cX6_keep 21 = .ok (.iload_n 1, 1) := by decide +kernel
theorem dX6_keep_22 : decode cX6_keep 22 = .ok (.aload_n 0, 1) := by decide +kernel
theorem dX6_keep_23 : decode cX6_keep 23 = .ok (.getfield 23, 3) := by decide +kernel
theorem dX6_keep_26 : decode cX6_keep 26 = .ok (.iload_n 1, 1) := by decide +kernel
theorem dX6_keep_27 : decode cX6_keep 27 = .ok (.iaload, 1) := by decide +kernel
theorem dX6_keep_28 : decode cX6_keep 28 = .ok (.iastore, 1) := by decide +kernel
theorem dX6_keep_29 : decode cX6_keep 29 = .ok (.iinc 1 1, 3) := by decide +kernel
theorem dX6_keep_32 : decode cX6_keep 32 = .ok (.goto (-30), 3) := by decide +kernel
theorem dX6_keep_35 : decode cX6_keep 35 = .ok (.return_, 1) := by decide +kernel
theorem dX6_image_0 : decode cX6_image 0 = .ok (.aload_n 0, 1) := by decide +kernel
theorem dX6_image_1 : decode cX6_image 1 = .ok (.iload_n 1, 1) := by decide +kernel
theorem dX6_image_2 : decode cX6_image 2 = .ok (.invokevirtual 59, 3) := by decide +kernel
theorem dX6_image_5 : decode cX6_image 5 = .ok (.ifCond .eq 19, 3) := by decide +kernel
theorem dX6_image_8 : decode cX6_image 8 = .ok (.aload_n 0, 1) := by decide +kernel
theorem dX6_image_9 : decode cX6_image 9 = .ok (.getfield 45, 3) := by decide +kernel
theorem dX6_image_12 : decode cX6_image 12 = .ok (.ifCond .eq 12, 3) := by decide +kernel
theorem dX6_image_15 : decode cX6_image 15 = .ok (.aload_n 0, 1) := by decide +kernel
theorem dX6_image_16 : decode cX6_image 16 = .ok (.getfield 20, 3) := by decide +kernel
theorem dX6_image_19 : decode cX6_image 19 = .ok (.iload_n 1, 1) := by decide +kernel
theorem dX6_image_20 : decode cX6_image 20 = .ok (.iaload, 1) := by decide +kernel
theorem dX6_image_21 : decode cX6_image 21 = .ok (.goto 4, 3) := by decide +kernel
theorem dX6_image_24 : decode cX6_image 24 = .ok (.iconst (-1), 1) := by decide +kernel
theorem dX6_image_25 : decode cX6_image 25 = .ok (.ireturn, 1) := by decide +kernel
theorem dX6_next_0 : decode cX6_next 0 = .ok (.aload_n 0, 1) := by decide +kernel
theorem dX6_next_1 : decode cX6_next 1 = .ok (.getfield 45, 3) := by decide +kernel
theorem dX6_next_4 : decode cX6_next 4 = .ok (.ifCond .ne 5, 3) := by decide +kernel
theorem dX6_next_7 : decode cX6_next 7 = .ok (.iconst (-1), 1) := by decide +kernel
theorem dX6_next_8 : decode cX6_next 8 = .ok (.ireturn, 1) := by decide +kernel
theorem dX6_next_9 : decode cX6_next 9 = .ok (.aload_n 0, 1) := by decide +kernel
theorem dX6_next_10 : decode cX6_next 10 = .ok (.invokevirtual 90, 3) := by decide +kernel
theorem dX6_next_13 : decode cX6_next 13 = .ok (.iconst 0, 1) := by decide +kernel
theorem dX6_next_14 : decode cX6_next 14 = .ok (.istore_n 1, 1) := by decide +kernel
theorem dX6_next_15 : decode cX6_next 15 = .ok (.iload_n 1, 1) := by decide +kernel
theorem dX6_next_16 : decode cX6_next 16 = .ok (.aload_n 0, 1) := by decide +kernel
theorem dX6_next_17 : decode cX6_next 17 = .ok (.getfield 7, 3) := by decide +kernel
theorem dX6_next_20 : decode cX6_next 20 = .ok (.if_icmp .ge 21, 3) := by decide +kernel
theorem dX6_next_23 : decode cX6_next 23 = .ok (.aload_n 0, 1) := by decide +kernel
theorem dX6_next_24 : decode cX6_next 24 = .ok (.getfield 23, 3) := by decide +kernel
theorem dX6_next_27 : decode cX6_next 27 = .ok (.iload_n 1, 1) := by decide +kernel
theorem dX6_next_28 : decode cX6_next 28 = .ok (.aload_n 0, 1) := by decide +kernel
theorem dX6_next_29 : decode cX6_next 29 = .ok (.getfield 20, 3) := by decide +kernel
theorem dX6_next_32 : decode cX6_next 32 = .ok (.iload_n 1, 1) := by decide +kernel
theorem dX6_next_33 : decode cX6_next 33 = .ok (.iaload, 1) := by decide +kernel
theorem dX6_next_34 : decode cX6_next 34 = .ok (.iastore, 1) := by decide +kernel
theorem dX6_next_35 : decode cX6_next 35 = .ok (.iinc 1 1, 3) := by decide +kernel
theorem dX6_next_38 : decode cX6_next 38 = .ok (.goto (-23), 3) := by decide +kernel
theorem dX6_next_41 : decode cX6_next 41 = .ok (.aload_n 0, 1) := by decide +kernel
theorem dX6_next_42 : decode cX6_next 42 = .ok (.aload_n 0, 1) := by decide +kernel
theorem dX6_next_43 : decode cX6_next 43 = .ok (.iconst 0, 1) := by decide +kernel
theorem dX6_next_44 : decode cX6_next 44 = .ok (.iconst 1, 1) := by decide +kernel
theorem dX6_next_45 : decode cX6_next 45 = .ok (.aload_n 0, 1) := by decide +kernel
theorem dX6_next_46 : decode cX6_next 46 = .ok (.getfield 7, 3) := by decide +kernel
theorem dX6_next_49 : decode cX6_next 49 = .ok (.iconst 1, 1) := by decide +kernel
theorem dX6_next_50 : decode cX6_next 50 = .ok (.isub, 1) := by decide +kernel
theorem dX6_next_51 : decode cX6_next 51 = .ok (.invokevirtual 93, 3) := by decide +kernel
theorem dX6_next_54 : decode cX6_next 54 = .ok (.putfield 45, 3) := by decide +kernel
theorem dX6_next_57 : decode cX6_next 57 = .ok (.aload_n 0, 1) := by decide +kernel
theorem dX6_next_58 : decode cX6_next 58 = .ok (.invokevirtual 97, 3) := by decide +kernel
theorem dX6_next_61 : decode cX6_next 61 = .ok (.aload_n 0, 1) := by decide +kernel
theorem dX6_next_62 : decode cX6_next 62 = .ok (.getfield 45, 3) := by decide +kernel
theorem dX6_next_65 : decode cX6_next 65 = .ok (.ifCond .eq 7, 3) := by decide +kernel
theorem dX6_next_68 : decode cX6_next 68 = .ok (.iconst 1, 1) := by decide +kernel
theorem dX6_next_69 : decode cX6_next 69 = .ok (.goto 4, 3) := by decide +kernel
theorem dX6_next_72 : decode cX6_next 72 = .ok (.iconst 0, 1) := by decide +kernel
theorem dX6_next_73 : decode cX6_next 73 = .ok (.ireturn, 1) := by decide +kernel
theorem dX6_symmetries_0 : decode cX6_symmetries 0 = .ok (.iload_n 1, 1) := by decide +kernel
theorem dX6_symmetries_1 : decode cX6_symmetries 1 = .ok (.invokestatic 55, 3) := by decide +kernel
theorem dX6_symmetries_4 : decode cX6_symmetries 4 = .ok (.ifCond .ne 5, 3) := by decide +kernel
theorem dX6_symmetries_7 : decode cX6_symmetries 7 = .ok (.iconst (-1), 1) := by decide +kernel
theorem dX6_symmetries_8 : decode cX6_symmetries 8 = .ok (.ireturn, 1) := by decide +kernel
theorem dX6_symmetries_9 : decode cX6_symmetries 9 = .ok (.aload_n 0, 1) := by decide +kernel
theorem dX6_symmetries_10 : decode cX6_symmetries 10 = .ok (.invokevirtual 90, 3) := by decide +kernel
theorem dX6_symmetries_13 : decode cX6_symmetries 13 = .ok (.iconst 0, 1) := by decide +kernel
theorem dX6_symmetries_14 : decode cX6_symmetries 14 = .ok (.istore_n 2, 1) := by decide +kernel
theorem dX6_symmetries_15 : decode cX6_symmetries 15 = .ok (.aload_n 0, 1) := by decide +kernel
theorem dX6_symmetries_16 : decode cX6_symmetries 16 = .ok (.iload_n 1, 1) := by decide +kernel
theorem dX6_symmetries_17 : decode cX6_symmetries 17 = .ok (.iload_n 1, 1) := by decide +kernel
theorem dX6_symmetries_18 : decode cX6_symmetries 18 = .ok (.iconst 0, 1) := by decide +kernel
theorem dX6_symmetries_19 : decode cX6_symmetries 19 = .ok (.invokevirtual 93, 3) := by decide +kernel
theorem dX6_symmetries_22 : decode cX6_symmetries 22 = .ok (.istore_n 3, 1) := by decide +kernel
theorem dX6_symmetries_23 : decode cX6_symmetries 23 = .ok (.iload_n 3, 1) := by decide +kernel
theorem dX6_symmetries_24 : decode cX6_symmetries 24 = .ok (.ifCond .eq 22, 3) := by decide +kernel
theorem dX6_symmetries_27 : decode cX6_symmetries 27 = .ok (.iinc 2 1, 3) := by decide +kernel
theorem dX6_symmetries_30 : decode cX6_symmetries 30 = .ok (.aload_n 0, 1) := by decide +kernel
theorem dX6_symmetries_31 : decode cX6_symmetries 31 = .ok (.iload_n 1, 1) := by decide +kernel
theorem dX6_symmetries_32 : decode cX6_symmetries 32 = .ok (.iload_n 1, 1) := by decide +kernel
theorem dX6_symmetries_33 : decode cX6_symmetries 33 = .ok (.aload_n 0, 1) := by decide +kernel
theorem dX6_symmetries_34 : decode cX6_symmetries 34 = .ok (.getfield 7, 3) := by decide +kernel
theorem dX6_symmetries_37 : decode cX6_symmetries 37 = .ok (.iconst 1, 1) := by decide +kernel
theorem dX6_symmetries_38 : decode cX6_symmetries 38 = .ok (.isub, 1) := by decide +kernel
theorem dX6_symmetries_39 : decode cX6_symmetries 39 = .ok (.invokevirtual 93, 3) := by decide +kernel
theorem dX6_symmetries_42 : decode cX6_symmetries 42 = .ok (.istore_n 3, 1) := by decide +kernel
theorem dX6_symmetries_43 : decode cX6_symmetries 43 = .ok (.goto (-20), 3) := by decide +kernel
theorem dX6_symmetries_46 : decode cX6_symmetries 46 = .ok (.iload_n 2, 1) := by decide +kernel
theorem dX6_symmetries_47 : decode cX6_symmetries 47 = .ok (.ireturn, 1) := by decide +kernel
theorem dX6_orbit_0 : decode cX6_orbit 0 = .ok (.iload_n 1, 1) := by decide +kernel
theorem dX6_orbit_1 : decode cX6_orbit 1 = .ok (.invokestatic 55, 3) := by decide +kernel
theorem dX6_orbit_4 : decode cX6_orbit 4 = .ok (.ifCond .eq 11, 3) := by decide +kernel
theorem dX6_orbit_7 : decode cX6_orbit 7 = .ok (.aload_n 0, 1) := by decide +kernel
theorem dX6_orbit_8 : decode cX6_orbit 8 = .ok (.iload_n 2, 1) := by decide +kernel
theorem dX6_orbit_9 : decode cX6_orbit 9 = .ok (.invokevirtual 59, 3) := by decide +kernel
theorem dX6_orbit_12 : decode cX6_orbit 12 = .ok (.ifCond .ne 5, 3) := by decide +kernel
theorem dX6_orbit_15 : decode cX6_orbit 15 = .ok (.iconst (-1), 1) := by decide +kernel
theorem dX6_orbit_16 : decode cX6_orbit 16 = .ok (.ireturn, 1) := by decide +kernel
theorem dX6_orbit_17 : decode cX6_orbit 17 = .ok (.iconst 0, 1) := by decide +kernel
theorem dX6_orbit_18 : decode cX6_orbit 18 = .ok (.istore_n 3, 1) := by decide +kernel
theorem dX6_orbit_19 : decode cX6_orbit 19 = .ok (.iload_n 3, 1) := by decide +kernel
theorem dX6_orbit_20 : decode cX6_orbit 20 = .ok (.iload_n 2, 1) := by decide +kernel
theorem dX6_orbit_21 : decode cX6_orbit 21 = .ok (.if_icmp .ge 32, 3) := by decide +kernel
theorem dX6_orbit_24 : decode cX6_orbit 24 = .ok (.aload_n 0, 1) := by decide +kernel
theorem dX6_orbit_25 : decode cX6_orbit 25 = .ok (.invokevirtual 90, 3) := by decide +kernel
theorem dX6_orbit_28 : decode cX6_orbit 28 = .ok (.aload_n 0, 1) := by decide +kernel
theorem dX6_orbit_29 : decode cX6_orbit 29 = .ok (.getfield 26, 3) := by decide +kernel
theorem dX6_orbit_32 : decode cX6_orbit 32 = .ok (.iload_n 2, 1) := by decide +kernel
theorem dX6_orbit_33 : decode cX6_orbit 33 = .ok (.iload_n 3, 1) := by decide +kernel
theorem dX6_orbit_34 : decode cX6_orbit 34 = .ok (.iastore, 1) := by decide +kernel
theorem dX6_orbit_35 : decode cX6_orbit 35 = .ok (.aload_n 0, 1) := by decide +kernel
theorem dX6_orbit_36 : decode cX6_orbit 36 = .ok (.iload_n 1, 1) := by decide +kernel
theorem dX6_orbit_37 : decode cX6_orbit 37 = .ok (.iload_n 1, 1) := by decide +kernel
theorem dX6_orbit_38 : decode cX6_orbit 38 = .ok (.iconst 0, 1) := by decide +kernel
theorem dX6_orbit_39 : decode cX6_orbit 39 = .ok (.invokevirtual 93, 3) := by decide +kernel
theorem dX6_orbit_42 : decode cX6_orbit 42 = .ok (.ifCond .eq 5, 3) := by decide +kernel
theorem dX6_orbit_45 : decode cX6_orbit 45 = .ok (.iload_n 3, 1) := by decide +kernel
theorem dX6_orbit_46 : decode cX6_orbit 46 = .ok (.ireturn, 1) := by decide +kernel
theorem dX6_orbit_47 : decode cX6_orbit 47 = .ok (.iinc 3 1, 3) := by decide +kernel
theorem dX6_orbit_50 : decode cX6_orbit 50 = .ok (.goto (-31), 3) := by decide +kernel
theorem dX6_orbit_53 : decode cX6_orbit 53 = .ok (.iload_n 2, 1) := by decide +kernel
theorem dX6_orbit_54 : decode cX6_orbit 54 = .ok (.ireturn, 1) := by decide +kernel
theorem dX6_sizeOf_0 : decode cX6_sizeOf 0 = .ok (.iload_n 0, 1) := by decide +kernel
theorem dX6_sizeOf_1 : decode cX6_sizeOf 1 = .ok (.iload_n 0, 1) := by decide +kernel
theorem dX6_sizeOf_2 : decode cX6_sizeOf 2 = .ok (.imul, 1) := by decide +kernel
theorem dX6_sizeOf_3 : decode cX6_sizeOf 3 = .ok (.ireturn, 1) := by decide +kernel
theorem dX6_write_0 : decode cX6_write 0 = .ok (.aload_n 0, 1) := by decide +kernel
theorem dX6_write_1 : decode cX6_write 1 = .ok (.getfield 29, 3) := by decide +kernel
theorem dX6_write_4 : decode cX6_write 4 = .ok (.iload_n 1, 1) := by decide +kernel
theorem dX6_write_5 : decode cX6_write 5 = .ok (.baload, 1) := by decide +kernel
theorem dX6_write_6 : decode cX6_write 6 = .ok (.ifCond .eq 4, 3) := by decide +kernel
theorem dX6_write_9 : decode cX6_write 9 = .ok (.return_, 1) := by decide +kernel
theorem dX6_write_10 : decode cX6_write 10 = .ok (.aload_n 0, 1) := by decide +kernel
theorem dX6_write_11 : decode cX6_write 11 = .ok (.getfield 29, 3) := by decide +kernel
theorem dX6_write_14 : decode cX6_write 14 = .ok (.iload_n 1, 1) := by decide +kernel
theorem dX6_write_15 : decode cX6_write 15 = .ok (.iconst 1, 1) := by decide +kernel
theorem dX6_write_16 : decode cX6_write 16 = .ok (.bastore, 1) := by decide +kernel
theorem dX6_write_17 : decode cX6_write 17 = .ok (.iconst 1, 1) := by decide +kernel
theorem dX6_write_18 : decode cX6_write 18 = .ok (.istore_n 2, 1) := by decide +kernel
theorem dX6_write_19 : decode cX6_write 19 = .ok (.iconst 0, 1) := by decide +kernel
theorem dX6_write_20 : decode cX6_write 20 = .ok (.istore_n 3, 1) := by decide +kernel
theorem dX6_write_21 : decode cX6_write 21 = .ok (.aload_n 0, 1) := by decide +kernel
theorem dX6_write_22 : decode cX6_write 22 = .ok (.getfield 23, 3) := by decide +kernel
theorem dX6_write_25 : decode cX6_write 25 = .ok (.iconst 0, 1) := by decide +kernel
theorem dX6_write_26 : decode cX6_write 26 = .ok (.iconst (-1), 1) := by decide +kernel
theorem dX6_write_27 : decode cX6_write 27 = .ok (.iastore, 1) := by decide +kernel
theorem dX6_write_28 : decode cX6_write 28 = .ok (.iload_n 3, 1) := by decide +kernel
theorem dX6_write_29 : decode cX6_write 29 = .ok (.ifCond .lt 147, 3) := by decide +kernel
theorem dX6_write_32 : decode cX6_write 32 = .ok (.aload_n 0, 1) := by decide +kernel
theorem dX6_write_33 : decode cX6_write 33 = .ok (.getfield 23, 3) := by decide +kernel
theorem dX6_write_36 : decode cX6_write 36 = .ok (.iload_n 3, 1) := by decide +kernel
theorem dX6_write_37 : decode cX6_write 37 = .ok (.dup2, 1) := by decide +kernel
theorem dX6_write_38 : decode cX6_write 38 = .ok (.iaload, 1) := by decide +kernel
theorem dX6_write_39 : decode cX6_write 39 = .ok (.iconst 1, 1) := by decide +kernel
theorem dX6_write_40 : decode cX6_write 40 = .ok (.iadd, 1) := by decide +kernel
theorem dX6_write_41 : decode cX6_write 41 = .ok (.iastore, 1) := by decide +kernel
theorem dX6_write_42 : decode cX6_write 42 = .ok (.aload_n 0, 1) := by decide +kernel
theorem dX6_write_43 : decode cX6_write 43 = .ok (.getfield 23, 3) := by decide +kernel
theorem dX6_write_46 : decode cX6_write 46 = .ok (.iload_n 3, 1) := by decide +kernel
theorem dX6_write_47 : decode cX6_write 47 = .ok (.iaload, 1) := by decide +kernel
theorem dX6_write_48 : decode cX6_write 48 = .ok (.aload_n 0, 1) := by decide +kernel
theorem dX6_write_49 : decode cX6_write 49 = .ok (.getfield 7, 3) := by decide +kernel
theorem dX6_write_52 : decode cX6_write 52 = .ok (.if_icmp .lt 9, 3) := by decide +kernel
theorem dX6_write_55 : decode cX6_write 55 = .ok (.iinc 3 (-1), 3) := by decide +kernel
theorem dX6_write_58 : decode cX6_write 58 = .ok (.goto (-30), 3) := by decide +kernel
theorem dX6_write_61 : decode cX6_write 61 = .ok (.aload_n 0, 1) := by decide +kernel
theorem dX6_write_62 : decode cX6_write 62 = .ok (.iload_n 3, 1) := by decide +kernel
theorem dX6_write_63 : decode cX6_write 63 = .ok (.invokevirtual 100, 3) := by decide +kernel
theorem dX6_write_66 : decode cX6_write 66 = .ok (.ifCond .eq (-38), 3) := by decide +kernel
theorem dX6_write_69 : decode cX6_write 69 = .ok (.aload_n 0, 1) := by decide +kernel
theorem dX6_write_70 : decode cX6_write 70 = .ok (.iload_n 1, 1) := by decide +kernel
theorem dX6_write_71 : decode cX6_write 71 = .ok (.iload_n 3, 1) := by decide +kernel
theorem dX6_write_72 : decode cX6_write 72 = .ok (.invokevirtual 103, 3) := by decide +kernel
theorem dX6_write_75 : decode cX6_write 75 = .ok (.iload_n 2, 1) := by decide +kernel
theorem dX6_write_76 : decode cX6_write 76 = .ok (.ifCond .eq 7, 3) := by decide +kernel
theorem dX6_write_79 : decode cX6_write 79 = .ok (.iconst (-1), 1) := by decide +kernel
theorem dX6_write_80 : decode cX6_write 80 = .ok (.goto 14, 3) := by decide +kernel
theorem dX6_write_83 : decode cX6_write 83 = .ok (.aload_n 0, 1) := by decide +kernel
theorem dX6_write_84 : decode cX6_write 84 = .ok (.iload_n 1, 1) := by decide +kernel
theorem dX6_write_85 : decode cX6_write 85 = .ok (.iload_n 3, 1) := by decide +kernel
theorem dX6_write_86 : decode cX6_write 86 = .ok (.iconst 1, 1) := by decide +kernel
theorem dX6_write_87 : decode cX6_write 87 = .ok (.iadd, 1) := by decide +kernel
theorem dX6_write_88 : decode cX6_write 88 = .ok (.invokestatic 107, 3) := by decide +kernel
theorem dX6_write_91 : decode cX6_write 91 = .ok (.invokevirtual 111, 3) := by decide +kernel
theorem dX6_write_94 : decode cX6_write 94 = .ok (.istore 4, 2) := by decide +kernel
theorem dX6_write_96 : decode cX6_write 96 = .ok (.iload 4, 2) := by decide +kernel
theorem dX6_write_98 : decode cX6_write 98 = .ok (.ifCond .gt 26, 3) := by decide +kernel
theorem dX6_write_101 : decode cX6_write 101 = .ok (.iload_n 3, 1) := by decide +kernel
theorem dX6_write_102 : decode cX6_write 102 = .ok (.aload_n 0, 1) := by decide +kernel
theorem dX6_write_103 : decode cX6_write 103 = .ok (.getfield 7, 3) := by decide +kernel
theorem dX6_write_106 : decode cX6_write 106 = .ok (.iconst 1, 1) := by decide +kernel
theorem dX6_write_107 : decode cX6_write 107 = .ok (.isub, 1) := by decide +kernel
theorem dX6_write_108 : decode cX6_write 108 = .ok (.if_icmp .ge 16, 3) := by decide +kernel
theorem dX6_write_111 : decode cX6_write 111 = .ok (.iinc 3 1, 3) := by decide +kernel
theorem dX6_write_114 : decode cX6_write 114 = .ok (.aload_n 0, 1) := by decide +kernel
theorem dX6_write_115 : decode cX6_write 115 = .ok (.getfield 23, 3) := by decide +kernel
theorem dX6_write_118 : decode cX6_write 118 = .ok (.iload_n 3, 1) := by decide +kernel
theorem dX6_write_119 : decode cX6_write 119 = .ok (.iconst (-1), 1) := by decide +kernel
theorem dX6_write_120 : decode cX6_write 120 = .ok (.iastore, 1) := by decide +kernel
theorem dX6_write_121 : decode cX6_write 121 = .ok (.goto 52, 3) := by decide +kernel
theorem dX6_write_124 : decode cX6_write 124 = .ok (.iload 4, 2) := by decide +kernel
theorem dX6_write_126 : decode cX6_write 126 = .ok (.ifCond .ge 47, 3) := by decide +kernel
theorem dX6_write_129 : decode cX6_write 129 = .ok (.iconst 0, 1) := by decide +kernel
theorem dX6_write_130 : decode cX6_write 130 = .ok (.istore_n 2, 1) := by decide +kernel
theorem dX6_write_131 : decode cX6_write 131 = .ok (.iconst 0, 1) := by decide +kernel
theorem dX6_write_132 : decode cX6_write 132 = .ok (.istore 5, 2) := by decide +kernel
theorem dX6_write_134 : decode cX6_write 134 = .ok (.iload 5, 2) := by decide +kernel
theorem dX6_write_136 : decode cX6_write 136 = .ok (.aload_n 0, 1) := by decide +kernel
theorem dX6_write_137 : decode cX6_write 137 = .ok (.getfield 7, 3) := by decide +kernel
theorem dX6_write_140 : decode cX6_write 140 = .ok (.aload_n 0, 1) := by decide +kernel
theorem dX6_write_141 : decode cX6_write 141 = .ok (.getfield 7, 3) := by decide +kernel
theorem dX6_write_144 : decode cX6_write 144 = .ok (.imul, 1) := by decide +kernel
theorem dX6_write_145 : decode cX6_write 145 = .ok (.if_icmp .ge 28, 3) := by decide +kernel
theorem dX6_write_148 : decode cX6_write 148 = .ok (.aload_n 0, 1) := by decide +kernel
theorem dX6_write_149 : decode cX6_write 149 = .ok (.getfield 33, 3) := by decide +kernel
theorem dX6_write_152 : decode cX6_write 152 = .ok (.bipush 81, 2) := by decide +kernel
theorem dX6_write_154 : decode cX6_write 154 = .ok (.iload_n 1, 1) := by decide +kernel
theorem dX6_write_155 : decode cX6_write 155 = .ok (.imul, 1) := by decide +kernel
theorem dX6_write_156 : decode cX6_write 156 = .ok (.iload 5, 2) := by decide +kernel
theorem dX6_write_158 : decode cX6_write 158 = .ok (.iadd, 1) := by decide +kernel
theorem dX6_write_159 : decode cX6_write 159 = .ok (.aload_n 0, 1) := by decide +kernel
theorem dX6_write_160 : decode cX6_write 160 = .ok (.getfield 36, 3) := by decide +kernel
theorem dX6_write_163 : decode cX6_write 163 = .ok (.iload 5, 2) := by decide +kernel
theorem dX6_write_165 : decode cX6_write 165 = .ok (.iaload, 1) := by decide +kernel
theorem dX6_write_166 : decode cX6_write 166 = .ok (.iastore, 1) := by decide +kernel
theorem dX6_write_167 : decode cX6_write 167 = .ok (.iinc 5 1, 3) := by decide +kernel
theorem dX6_write_170 : decode cX6_write 170 = .ok (.goto (-36), 3) := by decide +kernel
theorem dX6_write_173 : decode cX6_write 173 = .ok (.goto (-145), 3) := by decide +kernel
theorem dX6_write_176 : decode cX6_write 176 = .ok (.return_, 1) := by decide +kernel
theorem dX6_isUnused_0 : decode cX6_isUnused 0 = .ok (.iconst 0, 1) := by decide +kernel
theorem dX6_isUnused_1 : decode cX6_isUnused 1 = .ok (.istore_n 2, 1) := by decide +kernel
theorem dX6_isUnused_2 : decode cX6_isUnused 2 = .ok (.iload_n 2, 1) := by decide +kernel
theorem dX6_isUnused_3 : decode cX6_isUnused 3 = .ok (.iload_n 1, 1) := by decide +kernel
theorem dX6_isUnused_4 : decode cX6_isUnused 4 = .ok (.if_icmp .ge 26, 3) := by decide +kernel
theorem dX6_isUnused_7 : decode cX6_isUnused 7 = .ok (.aload_n 0, 1) := by decide +kernel
theorem dX6_isUnused_8 : decode cX6_isUnused 8 = .ok (.getfield 23, 3) := by decide +kernel
theorem dX6_isUnused_11 : decode cX6_isUnused 11 = .ok (.iload_n 2, 1) := by decide +kernel
theorem dX6_isUnused_12 : decode cX6_isUnused 12 = .ok (.iaload, 1) := by decide +kernel
theorem dX6_isUnused_13 : decode cX6_isUnused 13 = .ok (.aload_n 0, 1) := by decide +kernel
theorem dX6_isUnused_14 : decode cX6_isUnused 14 = .ok (.getfield 23, 3) := by decide +kernel
theorem dX6_isUnused_17 : decode cX6_isUnused 17 = .ok (.iload_n 1, 1) := by decide +kernel
theorem dX6_isUnused_18 : decode cX6_isUnused 18 = .ok (.iaload, 1) := by decide +kernel
theorem dX6_isUnused_19 : decode cX6_isUnused 19 = .ok (.if_icmp .ne 5, 3) := by decide +kernel
theorem dX6_isUnused_22 : decode cX6_isUnused 22 = .ok (.iconst 0, 1) := by decide +kernel
theorem dX6_isUnused_23 : decode cX6_isUnused 23 = .ok (.ireturn, 1) := by decide +kernel
theorem dX6_isUnused_24 : decode cX6_isUnused 24 = .ok (.iinc 2 1, 3) := by decide +kernel
theorem dX6_isUnused_27 : decode cX6_isUnused 27 = .ok (.goto (-25), 3) := by decide +kernel
theorem dX6_isUnused_30 : decode cX6_isUnused 30 = .ok (.iconst 1, 1) := by decide +kernel
theorem dX6_isUnused_31 : decode cX6_isUnused 31 = .ok (.ireturn, 1) := by decide +kernel
theorem dX6_part_0 : decode cX6_part 0 = .ok (.iload_n 2, 1) := by decide +kernel
theorem dX6_part_1 : decode cX6_part 1 = .ok (.invokestatic 107, 3) := by decide +kernel
theorem dX6_part_4 : decode cX6_part 4 = .ok (.istore_n 3, 1) := by decide +kernel
theorem dX6_part_5 : decode cX6_part 5 = .ok (.aload_n 0, 1) := by decide +kernel
theorem dX6_part_6 : decode cX6_part 6 = .ok (.getfield 36, 3) := by decide +kernel
theorem dX6_part_9 : decode cX6_part 9 = .ok (.iload_n 3, 1) := by decide +kernel
theorem dX6_part_10 : decode cX6_part 10 = .ok (.aload_n 0, 1) := by decide +kernel
theorem dX6_part_11 : decode cX6_part 11 = .ok (.getfield 17, 3) := by decide +kernel
theorem dX6_part_14 : decode cX6_part 14 = .ok (.bipush 9, 2) := by decide +kernel
theorem dX6_part_16 : decode cX6_part 16 = .ok (.iload_n 1, 1) := by decide +kernel
theorem dX6_part_17 : decode cX6_part 17 = .ok (.imul, 1) := by decide +kernel
theorem dX6_part_18 : decode cX6_part 18 = .ok (.aload_n 0, 1) := by decide +kernel
theorem dX6_part_19 : decode cX6_part 19 = .ok (.getfield 23, 3) := by decide +kernel
theorem dX6_part_22 : decode cX6_part 22 = .ok (.iload_n 2, 1) := by decide +kernel
theorem dX6_part_23 : decode cX6_part 23 = .ok (.iaload, 1) := by decide +kernel
theorem dX6_part_24 : decode cX6_part 24 = .ok (.iadd, 1) := by decide +kernel
theorem dX6_part_25 : decode cX6_part 25 = .ok (.iaload, 1) := by decide +kernel
theorem dX6_part_26 : decode cX6_part 26 = .ok (.iastore, 1) := by decide +kernel
theorem dX6_part_27 : decode cX6_part 27 = .ok (.iconst 0, 1) := by decide +kernel
theorem dX6_part_28 : decode cX6_part 28 = .ok (.istore 4, 2) := by decide +kernel
theorem dX6_part_30 : decode cX6_part 30 = .ok (.iload 4, 2) := by decide +kernel
theorem dX6_part_32 : decode cX6_part 32 = .ok (.iload_n 2, 1) := by decide +kernel
theorem dX6_part_33 : decode cX6_part 33 = .ok (.if_icmp .ge 71, 3) := by decide +kernel
theorem dX6_part_36 : decode cX6_part 36 = .ok (.aload_n 0, 1) := by decide +kernel
theorem dX6_part_37 : decode cX6_part 37 = .ok (.getfield 36, 3) := by decide +kernel
theorem dX6_part_40 : decode cX6_part 40 = .ok (.iload_n 3, 1) := by decide +kernel
theorem dX6_part_41 : decode cX6_part 41 = .ok (.iconst 1, 1) := by decide +kernel
theorem dX6_part_42 : decode cX6_part 42 = .ok (.iadd, 1) := by decide +kernel
theorem dX6_part_43 : decode cX6_part 43 = .ok (.iconst 2, 1) := by decide +kernel
theorem dX6_part_44 : decode cX6_part 44 = .ok (.iload 4, 2) := by decide +kernel
theorem dX6_part_46 : decode cX6_part 46 = .ok (.imul, 1) := by decide +kernel
theorem dX6_part_47 : decode cX6_part 47 = .ok (.iadd, 1) := by decide +kernel
theorem dX6_part_48 : decode cX6_part 48 = .ok (.aload_n 0, 1) := by decide +kernel
theorem dX6_part_49 : decode cX6_part 49 = .ok (.iload_n 1, 1) := by decide +kernel
theorem dX6_part_50 : decode cX6_part 50 = .ok (.aload_n 0, 1) := by decide +kernel
theorem dX6_part_51 : decode cX6_part 51 = .ok (.getfield 23, 3) := by decide +kernel
theorem dX6_part_54 : decode cX6_part 54 = .ok (.iload_n 2, 1) := by decide +kernel
theorem dX6_part_55 : decode cX6_part 55 = .ok (.iaload, 1) := by decide +kernel
theorem dX6_part_56 : decode cX6_part 56 = .ok (.aload_n 0, 1) := by decide +kernel
theorem dX6_part_57 : decode cX6_part 57 = .ok (.getfield 23, 3) := by decide +kernel
theorem dX6_part_60 : decode cX6_part 60 = .ok (.iload 4, 2) := by decide +kernel
theorem dX6_part_62 : decode cX6_part 62 = .ok (.iaload, 1) := by decide +kernel
theorem dX6_part_63 : decode cX6_part 63 = .ok (.invokevirtual 62, 3) := by decide +kernel
theorem dX6_part_66 : decode cX6_part 66 = .ok (.iastore, 1) := by decide +kernel
theorem dX6_part_67 : decode cX6_part 67 = .ok (.aload_n 0, 1) := by decide +kernel
theorem dX6_part_68 : decode cX6_part 68 = .ok (.getfield 36, 3) := by decide +kernel
theorem dX6_part_71 : decode cX6_part 71 = .ok (.iload_n 3, 1) := by decide +kernel
theorem dX6_part_72 : decode cX6_part 72 = .ok (.iconst 2, 1) := by decide +kernel
theorem dX6_part_73 : decode cX6_part 73 = .ok (.iadd, 1) := by decide +kernel
theorem dX6_part_74 : decode cX6_part 74 = .ok (.iconst 2, 1) := by decide +kernel
theorem dX6_part_75 : decode cX6_part 75 = .ok (.iload 4, 2) := by decide +kernel
theorem dX6_part_77 : decode cX6_part 77 = .ok (.imul, 1) := by decide +kernel
theorem dX6_part_78 : decode cX6_part 78 = .ok (.iadd, 1) := by decide +kernel
theorem dX6_part_79 : decode cX6_part 79 = .ok (.aload_n 0, 1) := by decide +kernel
theorem dX6_part_80 : decode cX6_part 80 = .ok (.iload_n 1, 1) := by decide +kernel
theorem dX6_part_81 : decode cX6_part 81 = .ok (.aload_n 0, 1) := by decide +kernel
theorem dX6_part_82 : decode cX6_part 82 = .ok (.getfield 23, 3) := by decide +kernel
theorem dX6_part_85 : decode cX6_part 85 = .ok (.iload 4, 2) := by decide +kernel
theorem dX6_part_87 : decode cX6_part 87 = .ok (.iaload, 1) := by decide +kernel
theorem dX6_part_88 : decode cX6_part 88 = .ok (.aload_n 0, 1) := by decide +kernel
theorem dX6_part_89 : decode cX6_part 89 = .ok (.getfield 23, 3) := by decide +kernel
theorem dX6_part_92 : decode cX6_part 92 = .ok (.iload_n 2, 1) := by decide +kernel
theorem dX6_part_93 : decode cX6_part 93 = .ok (.iaload, 1) := by decide +kernel
theorem dX6_part_94 : decode cX6_part 94 = .ok (.invokevirtual 62, 3) := by decide +kernel
theorem dX6_part_97 : decode cX6_part 97 = .ok (.iastore, 1) := by decide +kernel
theorem dX6_part_98 : decode cX6_part 98 = .ok (.iinc 4 1, 3) := by decide +kernel
theorem dX6_part_101 : decode cX6_part 101 = .ok (.goto (-71), 3) := by decide +kernel
theorem dX6_part_104 : decode cX6_part 104 = .ok (.return_, 1) := by decide +kernel
theorem dX6_compareRows_0 : decode cX6_compareRows 0 = .ok (.iconst 0, 1) := by decide +kernel
theorem dX6_compareRows_1 : decode cX6_compareRows 1 = .ok (.istore_n 3, 1) := by decide +kernel
theorem dX6_compareRows_2 : decode cX6_compareRows 2 = .ok (.iload_n 3, 1) := by decide +kernel
theorem dX6_compareRows_3 : decode cX6_compareRows 3 = .ok (.iload_n 2, 1) := by decide +kernel
theorem dX6_compareRows_4 : decode cX6_compareRows 4 = .ok (.if_icmp .ge 55, 3) := by decide +kernel
theorem dX6_compareRows_7 : decode cX6_compareRows 7 = .ok (.aload_n 0, 1) := by decide +kernel
theorem dX6_compareRows_8 : decode cX6_compareRows 8 = .ok (.getfield 36, 3) := by decide +kernel
theorem dX6_compareRows_11 : decode cX6_compareRows 11 = .ok (.iload_n 3, 1) := by decide +kernel
theorem dX6_compareRows_12 : decode cX6_compareRows 12 = .ok (.iaload, 1) := by decide +kernel
theorem dX6_compareRows_13 : decode cX6_compareRows 13 = .ok (.aload_n 0, 1) := by decide +kernel
theorem dX6_compareRows_14 : decode cX6_compareRows 14 = .ok (.getfield 33, 3) := by decide +kernel
theorem dX6_compareRows_17 : decode cX6_compareRows 17 = .ok (.bipush 81, 2) := by decide +kernel
theorem dX6_compareRows_19 : decode cX6_compareRows 19 = .ok (.iload_n 1, 1) := by decide +kernel
theorem dX6_compareRows_20 : decode cX6_compareRows 20 = .ok (.imul, 1) := by decide +kernel
theorem dX6_compareRows_21 : decode cX6_compareRows 21 = .ok (.iload_n 3, 1) := by decide +kernel
theorem dX6_compareRows_22 : decode cX6_compareRows 22 = .ok (.iadd, 1) := by decide +kernel
theorem dX6_compareRows_23 : decode cX6_compareRows 23 = .ok (.iaload, 1) := by decide +kernel
theorem dX6_compareRows_24 : decode cX6_compareRows 24 = .ok (.if_icmp .eq 29, 3) := by decide +kernel
theorem dX6_compareRows_27 : decode cX6_compareRows 27 = .ok (.aload_n 0, 1) := by decide +kernel
theorem dX6_compareRows_28 : decode cX6_compareRows 28 = .ok (.getfield 36, 3) := by decide +kernel
theorem dX6_compareRows_31 : decode cX6_compareRows 31 = .ok (.iload_n 3, 1) := by decide +kernel
theorem dX6_compareRows_32 : decode cX6_compareRows 32 = .ok (.iaload, 1) := by decide +kernel
theorem dX6_compareRows_33 : decode cX6_compareRows 33 = .ok (.aload_n 0, 1) := by decide +kernel
theorem dX6_compareRows_34 : decode cX6_compareRows 34 = .ok (.getfield 33, 3) := by decide +kernel
theorem dX6_compareRows_37 : decode cX6_compareRows 37 = .ok (.bipush 81, 2) := by decide +kernel
theorem dX6_compareRows_39 : decode cX6_compareRows 39 = .ok (.iload_n 1, 1) := by decide +kernel
theorem dX6_compareRows_40 : decode cX6_compareRows 40 = .ok (.imul, 1) := by decide +kernel
theorem dX6_compareRows_41 : decode cX6_compareRows 41 = .ok (.iload_n 3, 1) := by decide +kernel
theorem dX6_compareRows_42 : decode cX6_compareRows 42 = .ok (.iadd, 1) := by decide +kernel
theorem dX6_compareRows_43 : decode cX6_compareRows 43 = .ok (.iaload, 1) := by decide +kernel
theorem dX6_compareRows_44 : decode cX6_compareRows 44 = .ok (.if_icmp .ge 7, 3) := by decide +kernel
theorem dX6_compareRows_47 : decode cX6_compareRows 47 = .ok (.iconst (-1), 1) := by decide +kernel
theorem dX6_compareRows_48 : decode cX6_compareRows 48 = .ok (.goto 4, 3) := by decide +kernel
theorem dX6_compareRows_51 : decode cX6_compareRows 51 = .ok (.iconst 1, 1) := by decide +kernel
theorem dX6_compareRows_52 : decode cX6_compareRows 52 = .ok (.ireturn, 1) := by decide +kernel
theorem dX6_compareRows_53 : decode cX6_compareRows 53 = .ok (.iinc 3 1, 3) := by decide +kernel
theorem dX6_compareRows_56 : decode cX6_compareRows 56 = .ok (.goto (-54), 3) := by decide +kernel
theorem dX6_compareRows_59 : decode cX6_compareRows 59 = .ok (.iconst 0, 1) := by decide +kernel
theorem dX6_compareRows_60 : decode cX6_compareRows 60 = .ok (.ireturn, 1) := by decide +kernel
theorem dX6_form_0 : decode cX6_form 0 = .ok (.iload_n 1, 1) := by decide +kernel
theorem dX6_form_1 : decode cX6_form 1 = .ok (.invokestatic 55, 3) := by decide +kernel
theorem dX6_form_4 : decode cX6_form 4 = .ok (.ifCond .eq 20, 3) := by decide +kernel
theorem dX6_form_7 : decode cX6_form 7 = .ok (.iload_n 2, 1) := by decide +kernel
theorem dX6_form_8 : decode cX6_form 8 = .ok (.ifCond .lt 16, 3) := by decide +kernel
theorem dX6_form_11 : decode cX6_form 11 = .ok (.iload_n 2, 1) := by decide +kernel
theorem dX6_form_12 : decode cX6_form 12 = .ok (.aload_n 0, 1) := by decide +kernel
theorem dX6_form_13 : decode cX6_form 13 = .ok (.getfield 7, 3) := by decide +kernel
theorem dX6_form_16 : decode cX6_form 16 = .ok (.aload_n 0, 1) := by decide +kernel
theorem dX6_form_17 : decode cX6_form 17 = .ok (.getfield 7, 3) := by decide +kernel
theorem dX6_form_20 : decode cX6_form 20 = .ok (.imul, 1) := by decide +kernel
theorem dX6_form_21 : decode cX6_form 21 = .ok (.if_icmp .lt 5, 3) := by decide +kernel
theorem dX6_form_24 : decode cX6_form 24 = .ok (.iconst (-1), 1) := by decide +kernel
theorem dX6_form_25 : decode cX6_form 25 = .ok (.ireturn, 1) := by decide +kernel
theorem dX6_form_26 : decode cX6_form 26 = .ok (.aload_n 0, 1) := by decide +kernel
theorem dX6_form_27 : decode cX6_form 27 = .ok (.iload_n 1, 1) := by decide +kernel
theorem dX6_form_28 : decode cX6_form 28 = .ok (.invokevirtual 114, 3) := by decide +kernel
theorem dX6_form_31 : decode cX6_form 31 = .ok (.aload_n 0, 1) := by decide +kernel
theorem dX6_form_32 : decode cX6_form 32 = .ok (.getfield 33, 3) := by decide +kernel
theorem dX6_form_35 : decode cX6_form 35 = .ok (.bipush 81, 2) := by decide +kernel
theorem dX6_form_37 : decode cX6_form 37 = .ok (.iload_n 1, 1) := by decide +kernel
theorem dX6_form_38 : decode cX6_form 38 = .ok (.imul, 1) := by decide +kernel
theorem dX6_form_39 : decode cX6_form 39 = .ok (.iload_n 2, 1) := by decide +kernel
theorem dX6_form_40 : decode cX6_form 40 = .ok (.iadd, 1) := by decide +kernel
theorem dX6_form_41 : decode cX6_form 41 = .ok (.iaload, 1) := by decide +kernel
theorem dX6_form_42 : decode cX6_form 42 = .ok (.ireturn, 1) := by decide +kernel
theorem dX6_compare_0 : decode cX6_compare 0 = .ok (.iload_n 1, 1) := by decide +kernel
theorem dX6_compare_1 : decode cX6_compare 1 = .ok (.invokestatic 55, 3) := by decide +kernel
theorem dX6_compare_4 : decode cX6_compare 4 = .ok (.ifCond .ne 6, 3) := by decide +kernel
theorem dX6_compare_7 : decode cX6_compare 7 = .ok (.bipush (-2), 2) := by decide +kernel
theorem dX6_compare_9 : decode cX6_compare 9 = .ok (.ireturn, 1) := by decide +kernel
theorem dX6_compare_10 : decode cX6_compare 10 = .ok (.aload_n 0, 1) := by decide +kernel
theorem dX6_compare_11 : decode cX6_compare 11 = .ok (.iconst 0, 1) := by decide +kernel
theorem dX6_compare_12 : decode cX6_compare 12 = .ok (.invokevirtual 114, 3) := by decide +kernel
theorem dX6_compare_15 : decode cX6_compare 15 = .ok (.aload_n 0, 1) := by decide +kernel
theorem dX6_compare_16 : decode cX6_compare 16 = .ok (.iconst 1, 1) := by decide +kernel
theorem dX6_compare_17 : decode cX6_compare 17 = .ok (.invokevirtual 114, 3) := by decide +kernel
theorem dX6_compare_20 : decode cX6_compare 20 = .ok (.iconst 0, 1) := by decide +kernel
theorem dX6_compare_21 : decode cX6_compare 21 = .ok (.istore_n 2, 1) := by decide +kernel
theorem dX6_compare_22 : decode cX6_compare 22 = .ok (.iload_n 2, 1) := by decide +kernel
theorem dX6_compare_23 : decode cX6_compare 23 = .ok (.aload_n 0, 1) := by decide +kernel
theorem dX6_compare_24 : decode cX6_compare 24 = .ok (.getfield 7, 3) := by decide +kernel
theorem dX6_compare_27 : decode cX6_compare 27 = .ok (.aload_n 0, 1) := by decide +kernel
theorem dX6_compare_28 : decode cX6_compare 28 = .ok (.getfield 7, 3) := by decide +kernel
theorem dX6_compare_31 : decode cX6_compare 31 = .ok (.imul, 1) := by decide +kernel
theorem dX6_compare_32 : decode cX6_compare 32 = .ok (.if_icmp .ge 54, 3) := by decide +kernel
theorem dX6_compare_35 : decode cX6_compare 35 = .ok (.aload_n 0, 1) := by decide +kernel
theorem dX6_compare_36 : decode cX6_compare 36 = .ok (.getfield 33, 3) := by decide +kernel
theorem dX6_compare_39 : decode cX6_compare 39 = .ok (.bipush 81, 2) := by decide +kernel
theorem dX6_compare_41 : decode cX6_compare 41 = .ok (.iload_n 1, 1) := by decide +kernel
theorem dX6_compare_42 : decode cX6_compare 42 = .ok (.imul, 1) := by decide +kernel
theorem dX6_compare_43 : decode cX6_compare 43 = .ok (.iload_n 2, 1) := by decide +kernel
theorem dX6_compare_44 : decode cX6_compare 44 = .ok (.iadd, 1) := by decide +kernel
theorem dX6_compare_45 : decode cX6_compare 45 = .ok (.iaload, 1) := by decide +kernel
theorem dX6_compare_46 : decode cX6_compare 46 = .ok (.istore_n 3, 1) := by decide +kernel
theorem dX6_compare_47 : decode cX6_compare 47 = .ok (.aload_n 0, 1) := by decide +kernel
theorem dX6_compare_48 : decode cX6_compare 48 = .ok (.getfield 33, 3) := by decide +kernel
theorem dX6_compare_51 : decode cX6_compare 51 = .ok (.bipush 81, 2) := by decide +kernel
theorem dX6_compare_53 : decode cX6_compare 53 = .ok (.iconst 1, 1) := by decide +kernel
theorem dX6_compare_54 : decode cX6_compare 54 = .ok (.iload_n 1, 1) := by decide +kernel
theorem dX6_compare_55 : decode cX6_compare 55 = .ok (.isub, 1) := by decide +kernel
theorem dX6_compare_56 : decode cX6_compare 56 = .ok (.imul, 1) := by decide +kernel
theorem dX6_compare_57 : decode cX6_compare 57 = .ok (.iload_n 2, 1) := by decide +kernel
theorem dX6_compare_58 : decode cX6_compare 58 = .ok (.iadd, 1) := by decide +kernel
theorem dX6_compare_59 : decode cX6_compare 59 = .ok (.iaload, 1) := by decide +kernel
theorem dX6_compare_60 : decode cX6_compare 60 = .ok (.istore 4, 2) := by decide +kernel
theorem dX6_compare_62 : decode cX6_compare 62 = .ok (.iload_n 3, 1) := by decide +kernel
theorem dX6_compare_63 : decode cX6_compare 63 = .ok (.iload 4, 2) := by decide +kernel
theorem dX6_compare_65 : decode cX6_compare 65 = .ok (.if_icmp .eq 15, 3) := by decide +kernel
theorem dX6_compare_68 : decode cX6_compare 68 = .ok (.iload_n 3, 1) := by decide +kernel
theorem dX6_compare_69 : decode cX6_compare 69 = .ok (.iload 4, 2) := by decide +kernel
theorem dX6_compare_71 : decode cX6_compare 71 = .ok (.if_icmp .ge 7, 3) := by decide +kernel
theorem dX6_compare_74 : decode cX6_compare 74 = .ok (.iconst (-1), 1) := by decide +kernel
theorem dX6_compare_75 : decode cX6_compare 75 = .ok (.goto 4, 3) := by decide +kernel
theorem dX6_compare_78 : decode cX6_compare 78 = .ok (.iconst 1, 1) := by decide +kernel
theorem dX6_compare_79 : decode cX6_compare 79 = .ok (.ireturn, 1) := by decide +kernel
theorem dX6_compare_80 : decode cX6_compare 80 = .ok (.iinc 2 1, 3) := by decide +kernel
theorem dX6_compare_83 : decode cX6_compare 83 = .ok (.goto (-61), 3) := by decide +kernel
theorem dX6_compare_86 : decode cX6_compare 86 = .ok (.iconst 0, 1) := by decide +kernel
theorem dX6_compare_87 : decode cX6_compare 87 = .ok (.ireturn, 1) := by decide +kernel
theorem dX6_edges_0 : decode cX6_edges 0 = .ok (.iconst 0, 1) := by decide +kernel
theorem dX6_edges_1 : decode cX6_edges 1 = .ok (.istore_n 2, 1) := by decide +kernel
theorem dX6_edges_2 : decode cX6_edges 2 = .ok (.iconst 0, 1) := by decide +kernel
theorem dX6_edges_3 : decode cX6_edges 3 = .ok (.istore_n 3, 1) := by decide +kernel
theorem dX6_edges_4 : decode cX6_edges 4 = .ok (.iload_n 3, 1) := by decide +kernel
theorem dX6_edges_5 : decode cX6_edges 5 = .ok (.aload_n 0, 1) := by decide +kernel
theorem dX6_edges_6 : decode cX6_edges 6 = .ok (.getfield 7, 3) := by decide +kernel
theorem dX6_edges_9 : decode cX6_edges 9 = .ok (.if_icmp .ge 52, 3) := by decide +kernel
theorem dX6_edges_12 : decode cX6_edges 12 = .ok (.iconst 0, 1) := by decide +kernel
theorem dX6_edges_13 : decode cX6_edges 13 = .ok (.istore 4, 2) := by decide +kernel
theorem dX6_edges_15 : decode cX6_edges 15 = .ok (.iload 4, 2) := by decide +kernel
theorem dX6_edges_17 : decode cX6_edges 17 = .ok (.aload_n 0, 1) := by decide +kernel
theorem dX6_edges_18 : decode cX6_edges 18 = .ok (.getfield 7, 3) := by decide +kernel
theorem dX6_edges_21 : decode cX6_edges 21 = .ok (.if_icmp .ge 34, 3) := by decide +kernel
theorem dX6_edges_24 : decode cX6_edges 24 = .ok (.iload_n 2, 1) := by decide +kernel
theorem dX6_edges_25 : decode cX6_edges 25 = .ok (.iload_n 3, 1) := by decide +kernel
theorem dX6_edges_26 : decode cX6_edges 26 = .ok (.iload 4, 2) := by decide +kernel
theorem dX6_edges_28 : decode cX6_edges 28 = .ok (.if_icmp .eq 18, 3) := by decide +kernel
theorem dX6_edges_31 : decode cX6_edges 31 = .ok (.aload_n 0, 1) := by decide +kernel
theorem dX6_edges_32 : decode cX6_edges 32 = .ok (.iload_n 1, 1) := by decide +kernel
theorem dX6_edges_33 : decode cX6_edges 33 = .ok (.iload_n 3, 1) := by decide +kernel
theorem dX6_edges_34 : decode cX6_edges 34 = .ok (.iload 4, 2) := by decide +kernel
theorem dX6_edges_36 : decode cX6_edges 36 = .ok (.invokevirtual 62, 3) := by decide +kernel
theorem dX6_edges_39 : decode cX6_edges 39 = .ok (.ifCond .le 7, 3) := by decide +kernel
theorem dX6_edges_42 : decode cX6_edges 42 = .ok (.iconst 1, 1) := by decide +kernel
theorem dX6_edges_43 : decode cX6_edges 43 = .ok (.goto 4, 3) := by decide +kernel
theorem dX6_edges_46 : decode cX6_edges 46 = .ok (.iconst 0, 1) := by decide +kernel
theorem dX6_edges_47 : decode cX6_edges 47 = .ok (.iadd, 1) := by decide +kernel
theorem dX6_edges_48 : decode cX6_edges 48 = .ok (.istore_n 2, 1) := by decide +kernel
theorem dX6_edges_49 : decode cX6_edges 49 = .ok (.iinc 4 1, 3) := by decide +kernel
theorem dX6_edges_52 : decode cX6_edges 52 = .ok (.goto (-37), 3) := by decide +kernel
theorem dX6_edges_55 : decode cX6_edges 55 = .ok (.iinc 3 1, 3) := by decide +kernel
theorem dX6_edges_58 : decode cX6_edges 58 = .ok (.goto (-54), 3) := by decide +kernel
theorem dX6_edges_61 : decode cX6_edges 61 = .ok (.iload_n 2, 1) := by decide +kernel
theorem dX6_edges_62 : decode cX6_edges 62 = .ok (.ireturn, 1) := by decide +kernel
theorem dX6_count_0 : decode cX6_count 0 = .ok (.iload_n 1, 1) := by decide +kernel
theorem dX6_count_1 : decode cX6_count 1 = .ok (.tableswitch 75 0 4 #[35, 40, 46, 52, 65], 35) := by decide +kernel
theorem dX6_count_36 : decode cX6_count 36 = .ok (.aload_n 0, 1) := by decide +kernel
theorem dX6_count_37 : decode cX6_count 37 = .ok (.getfield 7, 3) := by decide +kernel
theorem dX6_count_40 : decode cX6_count 40 = .ok (.ireturn, 1) := by decide +kernel
theorem dX6_count_41 : decode cX6_count 41 = .ok (.aload_n 0, 1) := by decide +kernel
theorem dX6_count_42 : decode cX6_count 42 = .ok (.iconst 0, 1) := by decide +kernel
theorem dX6_count_43 : decode cX6_count 43 = .ok (.invokevirtual 118, 3) := by decide +kernel
theorem dX6_count_46 : decode cX6_count 46 = .ok (.ireturn, 1) := by decide +kernel
theorem dX6_count_47 : decode cX6_count 47 = .ok (.aload_n 0, 1) := by decide +kernel
theorem dX6_count_48 : decode cX6_count 48 = .ok (.iconst 1, 1) := by decide +kernel
theorem dX6_count_49 : decode cX6_count 49 = .ok (.invokevirtual 118, 3) := by decide +kernel
theorem dX6_count_52 : decode cX6_count 52 = .ok (.ireturn, 1) := by decide +kernel
theorem dX6_count_53 : decode cX6_count 53 = .ok (.aload_n 0, 1) := by decide +kernel
theorem dX6_count_54 : decode cX6_count 54 = .ok (.getfield 45, 3) := by decide +kernel
theorem dX6_count_57 : decode cX6_count 57 = .ok (.ifCond .eq 7, 3) := by decide +kernel
theorem dX6_count_60 : decode cX6_count 60 = .ok (.iconst 1, 1) := by decide +kernel
theorem dX6_count_61 : decode cX6_count 61 = .ok (.goto 4, 3) := by decide +kernel
theorem dX6_count_64 : decode cX6_count 64 = .ok (.iconst 0, 1) := by decide +kernel
theorem dX6_count_65 : decode cX6_count 65 = .ok (.ireturn, 1) := by decide +kernel
theorem dX6_count_66 : decode cX6_count 66 = .ok (.aload_n 0, 1) := by decide +kernel
theorem dX6_count_67 : decode cX6_count 67 = .ok (.getfield 7, 3) := by decide +kernel
theorem dX6_count_70 : decode cX6_count 70 = .ok (.aload_n 0, 1) := by decide +kernel
theorem dX6_count_71 : decode cX6_count 71 = .ok (.getfield 7, 3) := by decide +kernel
theorem dX6_count_74 : decode cX6_count 74 = .ok (.imul, 1) := by decide +kernel
theorem dX6_count_75 : decode cX6_count 75 = .ok (.ireturn, 1) := by decide +kernel
theorem dX6_count_76 : decode cX6_count 76 = .ok (.iconst (-1), 1) := by decide +kernel
theorem dX6_count_77 : decode cX6_count 77 = .ok (.ireturn, 1) := by decide +kernel
end
section
/-! ===== one world of cells, by kind and row: every cell of the class's object and of the reference's ===== -/
abbrev SI : Type := Nat → Nat → Nat → Int32
abbrev SJ : Type := Nat → Nat → Nat → Int64
def rfs (n : Nat) (f : Nat → Nat) : Nat → Option Nat := fun i => if i < n then some (f i) else none
theorem rfs_at {n : Nat} {f : Nat → Nat} {i : Nat} (h : i < n) : rfs n f i = some (f i) := if_pos h
abbrev aI (ca : Nat → ClassId) (n : Nat) (f : Nat → Int32) : va_E := .inl (ca 0, n, .inl f)
abbrev aJ (ca : Nat → ClassId) (n : Nat) (g : Nat → Int64) : va_E := .inl (ca 1, n, .inr (.inl g))
abbrev aR (c : ClassId) (n : Nat) (h : Nat → Nat) : va_E := .inl (c, n, .inr (.inr (.inr (.inr (rfs n h)))))
/-- what the cell of kind k, row r is: f its ints (fields or places), g its longs -/
def SSr (ca : Nat → ClassId) (ad : Nat → Nat → Nat) (k r : Nat) (f : Nat → Int32) (g : Nat → Int64) : va_E := match k with
  | 0 => .inr (5, [.ref (ad 1 0), .ref (ad 10 0), .ref (ad 17 0), .ref (ad 19 0), .ref (ad 20 0), .int (f 5), .int (f 6)])
  | 1 => aR (ca 2) 2 (fun i => ad 2 i)
  | 2 => .inr (1, [.int (f 0), .ref (ad 3 r), .ref (ad 4 r), .ref (ad 7 r), .ref (ad 8 r), .int (f 5), .int (f 6), .ref (ad 9 r), .int (f 8)])
  | 3 => aI ca 9 f
  | 4 => aR (ca 3) 9 (fun i => ad 5 (9 * r + i))
  | 5 => aI ca 9 f
  | 7 => aI ca 9 f
  | 8 => aI ca 9 f
  | 9 => aJ ca 9 g
  | 10 => .inr (3, [.int (f 0), .ref (ad 11 0), .ref (ad 12 0), .ref (ad 13 0), .ref (ad 14 0), .ref (ad 15 0)])
  | 11 => aI ca 18 f
  | 12 => aI ca 18 f
  | 13 => aI ca 18 f
  | 14 => aI ca 18 f
  | 15 => aR (ca 3) 18 (fun i => ad 16 i)
  | 16 => aI ca 9 f
  | 17 => .inr (2, [.ref (ad 18 r)])
  | 18 => aI ca 9 f
  | 19 => .inr (4, [.ref (ad 17 1)])
  | 20 => .inr (0, [.ref (ad 21 0), .ref (ad 23 0), .ref (ad 24 0), .ref (ad 26 0)])
  | 21 => aR (ca 4) 9 (fun i => ad 22 i)
  | 22 => aJ ca 9 g
  | 23 => aJ ca 9 g
  | 24 => aR (ca 4) 81 (fun i => ad 25 i)
  | 25 => aJ ca 9 g
  | 26 => aI ca 9 f
  | 27 => .inr (6, [.int (f 0), .ref (ad 28 0), .ref (ad 29 0), .int (f 3), .ref (ad 30 0), .ref (ad 31 0), .ref (ad 32 0), .ref (ad 33 0), .ref (ad 34 0), .ref (ad 35 0), .int (f 10), .ref (ad 36 0), .ref (ad 37 0), .int (f 13)])
  | 28 => aI ca 162 f
  | 29 => aI ca 18 f
  | 30 => aI ca 9 f
  | 31 => aI ca 9 f
  | 32 => aI ca 9 f
  | 33 => .inl (ca 5, 2, .inl f)
  | 34 => aI ca 162 f
  | 35 => aI ca 81 f
  | 36 => aI ca 18 f
  | 37 => aI ca 18 f
  | _ => .inr (0, [])
/-- how many rows a kind has -/
def cnt (k : Nat) : Nat := match k with
  | 2 => 2 | 3 => 2 | 4 => 2 | 5 => 18 | 6 => 0 | 7 => 2 | 8 => 2 | 9 => 2 | 16 => 18 | 17 => 2 | 18 => 2 | 22 => 9 | 25 => 81 | _ => 1
def ks : List (Nat × Nat) := (List.range 38).flatMap (fun k => (List.range (cnt k)).map (fun r => (k, r)))
theorem ks_mem {k r : Nat} (hk : k < 38) (hr : r < cnt k) : (k, r) ∈ ks :=
  List.mem_flatMap.mpr ⟨k, List.mem_range.mpr hk, List.mem_map.mpr ⟨r, List.mem_range.mpr hr, rfl⟩⟩
set_option maxRecDepth 100000 in
theorem ks_nodup : ks.Nodup := by decide +kernel
theorem ks_inj {i j : Nat} {q : Nat × Nat} (hi : ks[i]? = some q) (hj : ks[j]? = some q) : i = j := by
  obtain ⟨a, ha⟩ := List.getElem?_eq_some_iff.mp hi
  obtain ⟨b, hb⟩ := List.getElem?_eq_some_iff.mp hj
  have hp := List.pairwise_iff_getElem.mp ks_nodup
  rcases Nat.lt_trichotomy i j with h | h | h
  · exact absurd (ha.trans hb.symm) (hp i j a b h)
  · exact h
  · exact absurd (hb.trans ha.symm) (hp j i b a h)
def wl (ca : Nat → ClassId) (ad : Nat → Nat → Nat) (I : SI) (J : SJ) : va_W := ks.map (fun q => (ad q.1 q.2, SSr ca ad q.1 q.2 (I q.1 q.2) (J q.1 q.2)))
theorem wl_at {ca : Nat → ClassId} {ad : Nat → Nat → Nat} {I : SI} {J : SJ} {i : Nat} {q : Nat × Nat} (h : ks[i]? = some q) : (wl ca ad I J)[i]? = some (ad q.1 q.2, SSr ca ad q.1 q.2 (I q.1 q.2) (J q.1 q.2)) := by
  unfold wl
  rw [List.getElem?_map, h]
  rfl
theorem wl_of {ca : Nat → ClassId} {ad : Nat → Nat → Nat} {I : SI} {J : SJ} {i : Nat} {x : Nat × va_E} (h : (wl ca ad I J)[i]? = some x) : ∃ q, ks[i]? = some q ∧ x = (ad q.1 q.2, SSr ca ad q.1 q.2 (I q.1 q.2) (J q.1 q.2)) := by
  unfold wl at h
  rw [List.getElem?_map] at h
  cases hq : ks[i]? with
  | none => rw [hq] at h; cases h
  | some q => rw [hq] at h; exact ⟨q, rfl, (Option.some.inj h).symm⟩
theorem wl_get {k r : Nat} (hk : k < 38) (hr : r < cnt k) : ∃ i : Nat, ks[i]? = some (k, r) := List.getElem?_of_mem (ks_mem hk hr)
theorem wl_set {ca : Nat → ClassId} {ad : Nat → Nat → Nat} {I I' : SI} {J J' : SJ} {i k r : Nat} (hi : ks[i]? = some (k, r)) (hI : ∀ k' r', ¬ (k' = k ∧ r' = r) → I' k' r' = I k' r') (hJ : ∀ k' r', ¬ (k' = k ∧ r' = r) → J' k' r' = J k' r') : (wl ca ad I J).set i (ad k r, SSr ca ad k r (I' k r) (J' k r)) = wl ca ad I' J' := by
  apply List.ext_getElem?
  intro j
  by_cases e : i = j
  · subst e
    have h1 := wl_at (ca := ca) (ad := ad) (I := I) (J := J) hi
    have h2 := wl_at (ca := ca) (ad := ad) (I := I') (J := J') hi
    have hl := (List.getElem?_eq_some_iff.mp h1).1
    rw [List.getElem?_set_self hl, h2]
  · rw [List.getElem?_set_ne e]
    unfold wl
    rw [List.getElem?_map, List.getElem?_map]
    cases hq : ks[j]? with
    | none => rfl
    | some q =>
      have hne : ¬ (q.1 = k ∧ q.2 = r) := fun h => e (ks_inj hi (hq.trans (congrArg some (Prod.ext h.1 h.2))))
      simp only [Option.map_some]
      rw [hI _ _ hne, hJ _ _ hne]
/-- the addresses are apart -/
def AJ (ad : Nat → Nat → Nat) : Prop := ∀ (p q : Nat × Nat), p ∈ ks → q ∈ ks → ad p.1 p.2 = ad q.1 q.2 → p = q
/-- which cells a method may change -/
def AA (ad : Nat → Nat → Nat) (sz : Nat) : Nat → Prop := fun q => (∃ p ∈ ks, ad p.1 p.2 = q) ∨ sz ≤ q
def AD (A : Nat → Prop) (ad : Nat → Nat → Nat) : Prop := AJ ad ∧ ∀ q ∈ ks, A (ad q.1 q.2)
theorem AD.toD {A : Nat → Prop} {ad : Nat → Nat → Nat} (h : AD A ad) (ca : Nat → ClassId) (I : SI) (J : SJ) : va_D A (wl ca ad I J) := by
  refine ⟨fun i j x y hi hj hxy => ?_, fun i x hi => ?_⟩
  · obtain ⟨p, hp, rfl⟩ := wl_of hi
    obtain ⟨q, hq, rfl⟩ := wl_of hj
    have := h.1 p q (List.mem_of_getElem? hp) (List.mem_of_getElem? hq) hxy
    subst this
    exact ks_inj hp hq
  · obtain ⟨p, hp, rfl⟩ := wl_of hi
    exact h.2 p (List.mem_of_getElem? hp)
theorem AD.ofAA {ad : Nat → Nat → Nat} (h : AJ ad) (sz : Nat) : AD (AA ad sz) ad := ⟨h, fun q hq => Or.inl ⟨q, hq, rfl⟩⟩
/-! the state: ints by kind, row, place; a kind's rows are replaced as a whole -/
def sK {α : Type} (I : Nat → α) (k : Nat) (F : α) : Nat → α := fun k' => if k' = k then F else I k'
theorem sK_self {α : Type} (I : Nat → α) (k : Nat) (F : α) : sK I k F k = F := if_pos rfl
theorem sK_ne {α : Type} {I : Nat → α} {k k' : Nat} {F : α} (h : k' ≠ k) : sK I k F k' = I k' := if_neg h
theorem sK_sK {α : Type} (I : Nat → α) (k : Nat) (F F' : α) : sK (sK I k F) k F' = sK I k F' := by
  funext j
  by_cases h : j = k
  · subst h; rw [sK_self, sK_self]
  · rw [sK_ne h, sK_ne h, sK_ne h]
theorem sK_swap {α : Type} (I : Nat → α) {a b : Nat} (h : a ≠ b) (F G : α) : sK (sK I a F) b G = sK (sK I b G) a F := by
  funext j
  by_cases h1 : j = a
  · subst h1; rw [sK_ne h, sK_self, sK_self]
  · by_cases h2 : j = b
    · subst h2; rw [sK_self, sK_ne h1, sK_self]
    · rw [sK_ne h2, sK_ne h1, sK_ne h1, sK_ne h2]
theorem sK_id {α : Type} (I : Nat → α) (k : Nat) : sK I k (I k) = I := by
  funext j
  by_cases h : j = k
  · subst h; rw [sK_self]
  · rw [sK_ne h]
/-- a place of a row is replaced -/
def up2 {α : Type} (F : Nat → Nat → α) (r i : Nat) (x : α) : Nat → Nat → α := va_up F r (va_up (F r) i x)
theorem up2_self {α : Type} {F : Nat → Nat → α} {r i : Nat} {x : α} : up2 F r i x r i = x := by unfold up2; rw [va_up_self, va_up_self]
theorem up2_row {α : Type} {F : Nat → Nat → α} {r r' i : Nat} {x : α} (h : r' ≠ r) : up2 F r i x r' = F r' := by unfold up2; rw [va_up_ne _ _ h]
theorem up2_ne {α : Type} {F : Nat → Nat → α} {r i i' : Nat} {x : α} (h : i' ≠ i) : up2 F r i x r i' = F r i' := by unfold up2; rw [va_up_self, va_up_ne _ _ h]
theorem up2_at {α : Type} (F : Nat → Nat → α) (r i r' i' : Nat) (x : α) : up2 F r i x r' i' = if r' = r ∧ i' = i then x else F r' i' := by
  by_cases h : r' = r
  · subst h
    by_cases h2 : i' = i
    · subst h2; rw [up2_self, if_pos ⟨rfl, rfl⟩]
    · rw [up2_ne h2, if_neg (fun q => h2 q.2)]
  · rw [up2_row h, if_neg (fun q => h q.1)]
theorem upd_va (f : Nat → Int32) (k : Nat) (x : Int32) : upd f k x = va_up f k x := rfl
theorem updL_va (f : Nat → Int64) (k : Nat) (x : Int64) : vp_updL f k x = va_up f k x := rfl
theorem wl_setI {ca : Nat → ClassId} {ad : Nat → Nat → Nat} {I : SI} {J : SJ} {i k r j : Nat} {x : Int32} (hi : ks[i]? = some (k, r)) : (wl ca ad I J).set i (ad k r, SSr ca ad k r (va_up (I k r) j x) (J k r)) = wl ca ad (sK I k (up2 (I k) r j x)) J := by
  have e : (sK I k (up2 (I k) r j x)) k r = va_up (I k r) j x := by rw [sK_self]; unfold up2; rw [va_up_self]
  rw [← e]
  refine wl_set hi (fun k' r' h => ?_) (fun _ _ _ => rfl)
  by_cases hk : k' = k
  · subst hk
    rw [sK_self, up2_row (fun q => h ⟨rfl, q⟩)]
  · rw [sK_ne hk]
theorem wl_setJ {ca : Nat → ClassId} {ad : Nat → Nat → Nat} {I : SI} {J : SJ} {i k r j : Nat} {x : Int64} (hi : ks[i]? = some (k, r)) : (wl ca ad I J).set i (ad k r, SSr ca ad k r (I k r) (va_up (J k r) j x)) = wl ca ad I (sK J k (up2 (J k) r j x)) := by
  have e : (sK J k (up2 (J k) r j x)) k r = va_up (J k r) j x := by rw [sK_self]; unfold up2; rw [va_up_self]
  rw [← e]
  refine wl_set hi (fun _ _ _ => rfl) (fun k' r' h => ?_)
  by_cases hk : k' = k
  · subst hk
    rw [sK_self, up2_row (fun q => h ⟨rfl, q⟩)]
  · rw [sK_ne hk]
/-! the words that every method has: those of the tables that stay -/
def wsC : List Cond := lw_tbl.filter goodWord
theorem wsC_of {w : Cond} (h : w ∈ lw_tbl) (hg : goodWord w = true) : w ∈ wsC := List.mem_filter.mpr ⟨h, hg⟩
theorem wsC_good {c : Cond} {ws : List Cond} (hs : ∀ w ∈ wsC, w ∈ ws) (h : ∀ w ∈ [c], w ∈ wsC) : GoodIn ws (c :: wsC) := fun w hw => by
  have h2 : w ∈ wsC := (List.mem_cons.mp hw).elim (fun e => by rw [e]; exact h c (List.mem_singleton.mpr rfl)) id
  exact ⟨hs w h2, good_of_word (List.mem_filter.mp h2).2⟩
def tysC (ca : Nat → ClassId) : List (ClassId × FieldType) := [(ca 0, .int), (ca 1, .long), (ca 2, .object "GraphTwins$Graph"), (ca 3, .array .int), (ca 4, .array .long), (ca 5, .boolean)]
def KK (D : va_G) (ca : Nat → ClassId) (U : State) : Prop := va_K D vwCl (tysC ca) U ∧ va_Nw (.methodLinkNest RX0 96 yX5_compareRows RX5) U
theorem KK.warm {D : va_G} {ca : Nat → ClassId} {s U : State} (h : KK D ca s) (hW : s.WarmedH U.vm) : KK D ca U := ⟨va_K.moved hW.alike h.1, va_Nw.warmM hW h.2⟩
end
section
/-! ===== the walk over that world: G, a row an instruction ===== -/
abbrev Pk : Type := Program × Launch × Env × Room × State × MethodId × Array Value × List Frame × Method × Code
abbrev Zk : Type := va_G × (Nat → ClassId) × (Nat → Nat → Nat) × (Nat → Prop)
abbrev xR (X : Pk) : Room := X.2.2.2.1
abbrev xS (X : Pk) : State := X.2.2.2.2.1
abbrev xM (X : Pk) : MethodId := X.2.2.2.2.2.1
abbrev xA (X : Pk) : Array Value := X.2.2.2.2.2.2.1
abbrev xB (X : Pk) : List Frame := X.2.2.2.2.2.2.2.1
abbrev xE (X : Pk) : Method := X.2.2.2.2.2.2.2.2.1
abbrev xC (X : Pk) : Code := X.2.2.2.2.2.2.2.2.2
abbrev WX (X : Pk) (H : Heap) (locs : List Loc) (Q : State → Prop) (g : JFrame) : Prop := W X.1 X.2.1 X.2.2.1 (xR X) (xS X) (xM X) (xA X) (xB X) (xE X) (xC X) H locs 0 0 Q g
/-- from here the goal is come to: the world holds (I, J), the locals hold lv, the stack is st -/
def G (X : Pk) (nL : Nat) (Z : Zk) (Q : State → Prop) (I : SI) (J : SJ) (pc : Nat) (lv : List (Nat × Value)) (st : List Value) : Prop :=
  ∀ (H : Heap) (locs : List Loc) (ls : Array Slot), va_P Z.1 vwCl (wl Z.2.1 Z.2.2.1 I J) H → va_S Z.2.2.2 (xS X).heap H locs → lv_has ls nL lv → WX X H locs Q (F0 (xM X) pc ls st)
/-- what stands fast in a method -/
def Cx (X : Pk) (cc : ByteArray) (nL : Nat) (own : String) (Z : Zk) (fr lo : Nat) : Prop :=
  X.1.tables.exec = Jvm.exec ∧ (xC X).code = cc ∧ (xC X).maxLocals = nL ∧ (xS X).vm.findClass own = some (xM X).cls ∧ (∀ w ∈ wsC, w.before (xA X) (xS X) = true) ∧ KK Z.1 Z.2.1 (xS X) ∧ AD Z.2.2.2 Z.2.2.1 ∧ (∀ q, (xS X).heap.size ≤ q → Z.2.2.2 q) ∧ (xE X).locks = false ∧ (xR X).frames = fr ∧ (xR X).locals = lo
def lk (lv : List (Nat × Value)) (i : Nat) : Option Value := (lv.find? (fun q => q.1 == i)).map (fun q => q.2)
theorem lk_at {lv : List (Nat × Value)} {i nL : Nat} {v : Value} {ls : Array Slot} (h : lk lv i = some v) (hl : lv_has ls nL lv) : ls[i]? = some (.val v) := by
  unfold lk at h
  cases hf : lv.find? (fun q => q.1 == i) with
  | none => rw [hf] at h; cases h
  | some q =>
    rw [hf] at h
    have h1 := List.mem_of_find?_eq_some hf
    have h2 := List.find?_some hf
    have e : q.1 = i := by simpa using h2
    cases h
    rw [← e]
    exact hl.2.2 q h1
section GR
variable {X : Pk} {cc : ByteArray} {nL : Nat} {own : String} {Z : Zk} {fr lo : Nat} {Q : State → Prop} {I : SI} {J : SJ} {pc : Nat} {lv lv' : List (Nat × Value)} {st : List Value}
theorem g_iconst (C : Cx X cc nL own Z fr lo) {n : Int} (v : Int32) (d : decode cc pc = .ok (.iconst n, 1)) (hv : Int32.ofInt n = v) (k : G X nL Z Q I J (pc + 1) lv (.int v :: st)) : G X nL Z Q I J pc lv st :=
  fun H locs ls hP hS hl => lv_iconst C.1 C.2.1 d hv (k H locs ls hP hS hl)
theorem g_bipush (C : Cx X cc nL own Z fr lo) {n : Int} (v : Int32) (d : decode cc pc = .ok (.bipush n, 2)) (hv : (Int8.ofInt n).toInt32 = v) (k : G X nL Z Q I J (pc + 2) lv (.int v :: st)) : G X nL Z Q I J pc lv st :=
  fun H locs ls hP hS hl => lv_bipush C.1 C.2.1 d hv (k H locs ls hP hS hl)
theorem g_sipush (C : Cx X cc nL own Z fr lo) {n : Int} (v : Int32) (d : decode cc pc = .ok (.sipush n, 3)) (hv : (Int16.ofInt n).toInt32 = v) (k : G X nL Z Q I J (pc + 3) lv (.int v :: st)) : G X nL Z Q I J pc lv st :=
  fun H locs ls hP hS hl => lv_sipush C.1 C.2.1 d hv (k H locs ls hP hS hl)
theorem g_lconst (C : Cx X cc nL own Z fr lo) {n : Fin 2} (v : Int64) (d : decode cc pc = .ok (.lconst n, 1)) (hv : Int64.ofNat (n : Nat) = v) (k : G X nL Z Q I J (pc + 1) lv (.long v :: st)) : G X nL Z Q I J pc lv st :=
  fun H locs ls hP hS hl => lv_lconst C.1 C.2.1 d hv (k H locs ls hP hS hl)
theorem g_ildn (C : Cx X cc nL own Z fr lo) {i : Fin 4} {x : Int32} (d : decode cc pc = .ok (.iload_n i, 1)) (h : lk lv (i : Nat) = some (.int x)) (k : G X nL Z Q I J (pc + 1) lv (.int x :: st)) : G X nL Z Q I J pc lv st :=
  fun H locs ls hP hS hl => lv_iload_n C.1 C.2.1 d rfl (lk_at h hl) (k H locs ls hP hS hl)
theorem g_ild (C : Cx X cc nL own Z fr lo) {i : Nat} {x : Int32} (d : decode cc pc = .ok (.iload i, 2)) (h : lk lv i = some (.int x)) (k : G X nL Z Q I J (pc + 2) lv (.int x :: st)) : G X nL Z Q I J pc lv st :=
  fun H locs ls hP hS hl => lv_iload C.1 C.2.1 d (lk_at h hl) (k H locs ls hP hS hl)
theorem g_lldn (C : Cx X cc nL own Z fr lo) {i : Fin 4} {x : Int64} (d : decode cc pc = .ok (.lload_n i, 1)) (h : lk lv (i : Nat) = some (.long x)) (k : G X nL Z Q I J (pc + 1) lv (.long x :: st)) : G X nL Z Q I J pc lv st :=
  fun H locs ls hP hS hl => lv_lload_n C.1 C.2.1 d rfl (lk_at h hl) (k H locs ls hP hS hl)
theorem g_lld (C : Cx X cc nL own Z fr lo) {i : Nat} {x : Int64} (d : decode cc pc = .ok (.lload i, 2)) (h : lk lv i = some (.long x)) (k : G X nL Z Q I J (pc + 2) lv (.long x :: st)) : G X nL Z Q I J pc lv st :=
  fun H locs ls hP hS hl => lv_lload C.1 C.2.1 d (lk_at h hl) (k H locs ls hP hS hl)
theorem g_aldn (C : Cx X cc nL own Z fr lo) {i : Fin 4} {x : Nat} (d : decode cc pc = .ok (.aload_n i, 1)) (h : lk lv (i : Nat) = some (.ref x)) (k : G X nL Z Q I J (pc + 1) lv (.ref x :: st)) : G X nL Z Q I J pc lv st :=
  fun H locs ls hP hS hl => lv_aload_n C.1 C.2.1 d rfl (lk_at h hl) (k H locs ls hP hS hl)
theorem g_ald (C : Cx X cc nL own Z fr lo) {i : Nat} {x : Nat} (d : decode cc pc = .ok (.aload i, 2)) (h : lk lv i = some (.ref x)) (k : G X nL Z Q I J (pc + 2) lv (.ref x :: st)) : G X nL Z Q I J pc lv st :=
  fun H locs ls hP hS hl => lv_aload C.1 C.2.1 d (lk_at h hl) (k H locs ls hP hS hl)
theorem g_istn (C : Cx X cc nL own Z fr lo) {i : Fin 4} {x : Int32} (d : decode cc pc = .ok (.istore_n i, 1)) (hn : Nat.blt i nL = true) (hl' : ((i : Nat), Value.int x) :: lv.filter (fun q => !(q.1 == (i : Nat)) && !(q.1 + 1 == (i : Nat) && q.2.category == 2)) = lv') (k : G X nL Z Q I J (pc + 1) lv' st) : G X nL Z Q I J pc lv (.int x :: st) :=
  fun H locs _ hP hS hl => lv_istore_n C.1 C.2.1 d rfl hl (Nat.blt_eq.mp hn) hl' (fun ls2 hl2 => k H locs ls2 hP hS hl2)
theorem g_ist (C : Cx X cc nL own Z fr lo) {i : Nat} {x : Int32} (d : decode cc pc = .ok (.istore i, 2)) (hn : Nat.blt i nL = true) (hl' : (i, Value.int x) :: lv.filter (fun q => !(q.1 == i) && !(q.1 + 1 == i && q.2.category == 2)) = lv') (k : G X nL Z Q I J (pc + 2) lv' st) : G X nL Z Q I J pc lv (.int x :: st) :=
  fun H locs _ hP hS hl => lv_istore C.1 C.2.1 d hl (Nat.blt_eq.mp hn) hl' (fun ls2 hl2 => k H locs ls2 hP hS hl2)
theorem g_lstn (C : Cx X cc nL own Z fr lo) {i : Fin 4} {x : Int64} (d : decode cc pc = .ok (.lstore_n i, 1)) (hn : Nat.blt (i + 1) nL = true) (hl' : ((i : Nat), Value.long x) :: lv.filter (fun q => !(q.1 == (i : Nat)) && (!(q.1 == (i : Nat) + 1) && !(q.1 + 1 == (i : Nat) && q.2.category == 2))) = lv') (k : G X nL Z Q I J (pc + 1) lv' st) : G X nL Z Q I J pc lv (.long x :: st) :=
  fun H locs _ hP hS hl => lv_lstore_n C.1 C.2.1 d rfl hl (Nat.blt_eq.mp hn) hl' (fun ls2 hl2 => k H locs ls2 hP hS hl2)
theorem g_lst (C : Cx X cc nL own Z fr lo) {i : Nat} {x : Int64} (d : decode cc pc = .ok (.lstore i, 2)) (hn : Nat.blt (i + 1) nL = true) (hl' : (i, Value.long x) :: lv.filter (fun q => !(q.1 == i) && (!(q.1 == i + 1) && !(q.1 + 1 == i && q.2.category == 2))) = lv') (k : G X nL Z Q I J (pc + 2) lv' st) : G X nL Z Q I J pc lv (.long x :: st) :=
  fun H locs _ hP hS hl => lv_lstore C.1 C.2.1 d hl (Nat.blt_eq.mp hn) hl' (fun ls2 hl2 => k H locs ls2 hP hS hl2)
theorem g_astn (C : Cx X cc nL own Z fr lo) {i : Fin 4} {x : Nat} (d : decode cc pc = .ok (.astore_n i, 1)) (hn : Nat.blt i nL = true) (hl' : ((i : Nat), Value.ref x) :: lv.filter (fun q => !(q.1 == (i : Nat)) && !(q.1 + 1 == (i : Nat) && q.2.category == 2)) = lv') (k : G X nL Z Q I J (pc + 1) lv' st) : G X nL Z Q I J pc lv (.ref x :: st) :=
  fun H locs _ hP hS hl => lv_astore_n C.1 C.2.1 d rfl hl (Nat.blt_eq.mp hn) hl' (fun ls2 hl2 => k H locs ls2 hP hS hl2)
theorem g_ast (C : Cx X cc nL own Z fr lo) {i : Nat} {x : Nat} (d : decode cc pc = .ok (.astore i, 2)) (hn : Nat.blt i nL = true) (hl' : (i, Value.ref x) :: lv.filter (fun q => !(q.1 == i) && !(q.1 + 1 == i && q.2.category == 2)) = lv') (k : G X nL Z Q I J (pc + 2) lv' st) : G X nL Z Q I J pc lv (.ref x :: st) :=
  fun H locs _ hP hS hl => lv_astore C.1 C.2.1 d hl (Nat.blt_eq.mp hn) hl' (fun ls2 hl2 => k H locs ls2 hP hS hl2)
theorem lk_mem {i : Nat} {v : Value} (h : lk lv i = some v) : ∃ k : Nat, lv[k]? = some (i, v) := by
  unfold lk at h
  cases hf : lv.find? (fun q => q.1 == i) with
  | none => rw [hf] at h; cases h
  | some q =>
    rw [hf] at h
    have h1 := List.mem_of_find?_eq_some hf
    have h2 := List.find?_some hf
    have e : q.1 = i := by simpa using h2
    cases h
    obtain ⟨k, hk⟩ := List.getElem?_of_mem h1
    exact ⟨k, by rw [hk, ← e]⟩
theorem g_iinc (C : Cx X cc nL own Z fr lo) {i : Nat} {n : Int} {x : Int32} (v : Int32) (d : decode cc pc = .ok (.iinc i n, 3)) (h : lk lv i = some (.int x)) (hv : x + Int32.ofInt n = v) (hn : Nat.blt i nL = true) (hl' : (i, Value.int v) :: lv.filter (fun q => !(q.1 == i) && !(q.1 + 1 == i && q.2.category == 2)) = lv') (k : G X nL Z Q I J (pc + 3) lv' st) : G X nL Z Q I J pc lv st :=
  fun H locs _ hP hS hl => (lk_mem h).elim fun _ h2 => lv_iinc C.1 C.2.1 d hl h2 hv (Nat.blt_eq.mp hn) hl' (fun ls2 hl2 => k H locs ls2 hP hS hl2)
end GR
end
section
section GO
variable {X : Pk} {cc : ByteArray} {nL : Nat} {own : String} {Z : Zk} {fr lo : Nat} {Q : State → Prop} {I : SI} {J : SJ} {pc : Nat} {lv lv' : List (Nat × Value)} {st : List Value}
theorem g_top {x y : Int32} (h : x = y) (k : G X nL Z Q I J pc lv (.int y :: st)) : G X nL Z Q I J pc lv (.int x :: st) := h ▸ k
theorem g_topl {x y : Int64} (h : x = y) (k : G X nL Z Q I J pc lv (.long y :: st)) : G X nL Z Q I J pc lv (.long x :: st) := h ▸ k
theorem g_I {I1 : SI} (h : I = I1) (k : G X nL Z Q I1 J pc lv st) : G X nL Z Q I J pc lv st := h ▸ k
theorem g_J {J1 : SJ} (h : J = J1) (k : G X nL Z Q I J1 pc lv st) : G X nL Z Q I J pc lv st := h ▸ k
theorem g_pc {pc1 : Nat} (h : pc = pc1) (k : G X nL Z Q I J pc1 lv st) : G X nL Z Q I J pc lv st := h ▸ k
theorem g_lv {lv1 : List (Nat × Value)} (is : List Nat) (h : lv_pick lv is = lv1) (k : G X nL Z Q I J pc lv1 st) : G X nL Z Q I J pc lv st := fun H locs ls hP hS hl => k H locs ls hP hS (lv_sub hl is h)
theorem g_iadd (C : Cx X cc nL own Z fr lo) {x y v : Int32} (d : decode cc pc = .ok (.iadd, 1)) (hv : x + y = v) (k : G X nL Z Q I J (pc + 1) lv (.int v :: st)) : G X nL Z Q I J pc lv (.int y :: .int x :: st) :=
  fun H locs ls hP hS hl => lv_iadd C.1 C.2.1 d (by rw [hv]; exact k H locs ls hP hS hl)
theorem g_isub (C : Cx X cc nL own Z fr lo) {x y v : Int32} (d : decode cc pc = .ok (.isub, 1)) (hv : x - y = v) (k : G X nL Z Q I J (pc + 1) lv (.int v :: st)) : G X nL Z Q I J pc lv (.int y :: .int x :: st) :=
  fun H locs ls hP hS hl => lv_isub C.1 C.2.1 d (by rw [hv]; exact k H locs ls hP hS hl)
theorem g_imul (C : Cx X cc nL own Z fr lo) {x y v : Int32} (d : decode cc pc = .ok (.imul, 1)) (hv : x * y = v) (k : G X nL Z Q I J (pc + 1) lv (.int v :: st)) : G X nL Z Q I J pc lv (.int y :: .int x :: st) :=
  fun H locs ls hP hS hl => lv_imul C.1 C.2.1 d (by rw [hv]; exact k H locs ls hP hS hl)
theorem g_iand (C : Cx X cc nL own Z fr lo) {x y v : Int32} (d : decode cc pc = .ok (.iand, 1)) (hv : x &&& y = v) (k : G X nL Z Q I J (pc + 1) lv (.int v :: st)) : G X nL Z Q I J pc lv (.int y :: .int x :: st) :=
  fun H locs ls hP hS hl => lv_iand C.1 C.2.1 d (by rw [hv]; exact k H locs ls hP hS hl)
theorem g_ior (C : Cx X cc nL own Z fr lo) {x y v : Int32} (d : decode cc pc = .ok (.ior, 1)) (hv : x ||| y = v) (k : G X nL Z Q I J (pc + 1) lv (.int v :: st)) : G X nL Z Q I J pc lv (.int y :: .int x :: st) :=
  fun H locs ls hP hS hl => lv_ior C.1 C.2.1 d (by rw [hv]; exact k H locs ls hP hS hl)
theorem g_ixor (C : Cx X cc nL own Z fr lo) {x y v : Int32} (d : decode cc pc = .ok (.ixor, 1)) (hv : x ^^^ y = v) (k : G X nL Z Q I J (pc + 1) lv (.int v :: st)) : G X nL Z Q I J pc lv (.int y :: .int x :: st) :=
  fun H locs ls hP hS hl => lv_ixor C.1 C.2.1 d (by rw [hv]; exact k H locs ls hP hS hl)
theorem g_ladd (C : Cx X cc nL own Z fr lo) {x y v : Int64} (d : decode cc pc = .ok (.ladd, 1)) (hv : x + y = v) (k : G X nL Z Q I J (pc + 1) lv (.long v :: st)) : G X nL Z Q I J pc lv (.long y :: .long x :: st) :=
  fun H locs ls hP hS hl => lv_ladd C.1 C.2.1 d (by rw [hv]; exact k H locs ls hP hS hl)
theorem g_lsub (C : Cx X cc nL own Z fr lo) {x y v : Int64} (d : decode cc pc = .ok (.lsub, 1)) (hv : x - y = v) (k : G X nL Z Q I J (pc + 1) lv (.long v :: st)) : G X nL Z Q I J pc lv (.long y :: .long x :: st) :=
  fun H locs ls hP hS hl => lv_lsub C.1 C.2.1 d (by rw [hv]; exact k H locs ls hP hS hl)
theorem g_lmul (C : Cx X cc nL own Z fr lo) {x y v : Int64} (d : decode cc pc = .ok (.lmul, 1)) (hv : x * y = v) (k : G X nL Z Q I J (pc + 1) lv (.long v :: st)) : G X nL Z Q I J pc lv (.long y :: .long x :: st) :=
  fun H locs ls hP hS hl => lv_lmul C.1 C.2.1 d (by rw [hv]; exact k H locs ls hP hS hl)
theorem g_land (C : Cx X cc nL own Z fr lo) {x y v : Int64} (d : decode cc pc = .ok (.land, 1)) (hv : x &&& y = v) (k : G X nL Z Q I J (pc + 1) lv (.long v :: st)) : G X nL Z Q I J pc lv (.long y :: .long x :: st) :=
  fun H locs ls hP hS hl => lv_land C.1 C.2.1 d (by rw [hv]; exact k H locs ls hP hS hl)
theorem g_lor (C : Cx X cc nL own Z fr lo) {x y v : Int64} (d : decode cc pc = .ok (.lor, 1)) (hv : x ||| y = v) (k : G X nL Z Q I J (pc + 1) lv (.long v :: st)) : G X nL Z Q I J pc lv (.long y :: .long x :: st) :=
  fun H locs ls hP hS hl => lv_lor C.1 C.2.1 d (by rw [hv]; exact k H locs ls hP hS hl)
theorem g_lxor (C : Cx X cc nL own Z fr lo) {x y v : Int64} (d : decode cc pc = .ok (.lxor, 1)) (hv : x ^^^ y = v) (k : G X nL Z Q I J (pc + 1) lv (.long v :: st)) : G X nL Z Q I J pc lv (.long y :: .long x :: st) :=
  fun H locs ls hP hS hl => lv_lxor C.1 C.2.1 d (by rw [hv]; exact k H locs ls hP hS hl)
theorem g_ishl (C : Cx X cc nL own Z fr lo) {x y v : Int32} (d : decode cc pc = .ok (.ishl, 1)) (hv : x <<< (y &&& 31) = v) (k : G X nL Z Q I J (pc + 1) lv (.int v :: st)) : G X nL Z Q I J pc lv (.int y :: .int x :: st) :=
  fun H locs ls hP hS hl => lv_ishl C.1 C.2.1 d (by rw [hv]; exact k H locs ls hP hS hl)
theorem g_ishr (C : Cx X cc nL own Z fr lo) {x y v : Int32} (d : decode cc pc = .ok (.ishr, 1)) (hv : x >>> (y &&& 31) = v) (k : G X nL Z Q I J (pc + 1) lv (.int v :: st)) : G X nL Z Q I J pc lv (.int y :: .int x :: st) :=
  fun H locs ls hP hS hl => lv_ishr C.1 C.2.1 d (by rw [hv]; exact k H locs ls hP hS hl)
theorem g_lshl (C : Cx X cc nL own Z fr lo) {x v : Int64} {y : Int32} (d : decode cc pc = .ok (.lshl, 1)) (hv : x <<< (y.toInt64 &&& 63) = v) (k : G X nL Z Q I J (pc + 1) lv (.long v :: st)) : G X nL Z Q I J pc lv (.int y :: .long x :: st) :=
  fun H locs ls hP hS hl => lv_lshl C.1 C.2.1 d hv (k H locs ls hP hS hl)
theorem g_lshr (C : Cx X cc nL own Z fr lo) {x v : Int64} {y : Int32} (d : decode cc pc = .ok (.lshr, 1)) (hv : x >>> (y.toInt64 &&& 63) = v) (k : G X nL Z Q I J (pc + 1) lv (.long v :: st)) : G X nL Z Q I J pc lv (.int y :: .long x :: st) :=
  fun H locs ls hP hS hl => lv_lshr C.1 C.2.1 d hv (k H locs ls hP hS hl)
theorem g_idiv (C : Cx X cc nL own Z fr lo) {x y v : Int32} (d : decode cc pc = .ok (.idiv, 1)) (hne : ¬ y = 0) (hv : x / y = v) (k : G X nL Z Q I J (pc + 1) lv (.int v :: st)) : G X nL Z Q I J pc lv (.int y :: .int x :: st) :=
  fun H locs ls hP hS hl => lv_idiv C.1 C.2.1 d hne (by rw [hv]; exact k H locs ls hP hS hl)
theorem g_irem (C : Cx X cc nL own Z fr lo) {x y v : Int32} (d : decode cc pc = .ok (.irem, 1)) (hne : ¬ y = 0) (hv : x - x / y * y = v) (k : G X nL Z Q I J (pc + 1) lv (.int v :: st)) : G X nL Z Q I J pc lv (.int y :: .int x :: st) :=
  fun H locs ls hP hS hl => lv_irem C.1 C.2.1 d hne (by rw [hv]; exact k H locs ls hP hS hl)
theorem g_i2l (C : Cx X cc nL own Z fr lo) {x : Int32} {v : Int64} (d : decode cc pc = .ok (.i2l, 1)) (hv : x.toInt64 = v) (k : G X nL Z Q I J (pc + 1) lv (.long v :: st)) : G X nL Z Q I J pc lv (.int x :: st) :=
  fun H locs ls hP hS hl => lv_i2l C.1 C.2.1 d hv (k H locs ls hP hS hl)
theorem g_l2i (C : Cx X cc nL own Z fr lo) {x : Int64} {v : Int32} (d : decode cc pc = .ok (.l2i, 1)) (hv : x.toInt32 = v) (k : G X nL Z Q I J (pc + 1) lv (.int v :: st)) : G X nL Z Q I J pc lv (.long x :: st) :=
  fun H locs ls hP hS hl => lv_l2i C.1 C.2.1 d hv (k H locs ls hP hS hl)
theorem g_lcmp (C : Cx X cc nL own Z fr lo) {x y : Int64} {v : Int32} (d : decode cc pc = .ok (.lcmp, 1)) (hv : lg_cmp x y = v) (k : G X nL Z Q I J (pc + 1) lv (.int v :: st)) : G X nL Z Q I J pc lv (.long y :: .long x :: st) :=
  fun H locs ls hP hS hl => W.lcmp C.1 C.2.1 d (by rw [hv]; exact k H locs ls hP hS hl)
theorem g_dup (C : Cx X cc nL own Z fr lo) {a : Value} (d : decode cc pc = .ok (.dup, 1)) (ha : a.category = 1) (k : G X nL Z Q I J (pc + 1) lv (a :: a :: st)) : G X nL Z Q I J pc lv (a :: st) := fun H locs ls hP hS hl => lv_dup C.1 C.2.1 d ha (k H locs ls hP hS hl)
theorem g_pop (C : Cx X cc nL own Z fr lo) {a : Value} (d : decode cc pc = .ok (.pop, 1)) (ha : a.category = 1) (k : G X nL Z Q I J (pc + 1) lv st) : G X nL Z Q I J pc lv (a :: st) := fun H locs ls hP hS hl => lv_pop C.1 C.2.1 d ha (k H locs ls hP hS hl)
theorem g_dup2 (C : Cx X cc nL own Z fr lo) {a b : Value} (d : decode cc pc = .ok (.dup2, 1)) (ha : a.category = 1) (hb : b.category = 1) (k : G X nL Z Q I J (pc + 1) lv (a :: b :: a :: b :: st)) : G X nL Z Q I J pc lv (a :: b :: st) := fun H locs ls hP hS hl => lv_dup2_11 C.1 C.2.1 d ha hb (k H locs ls hP hS hl)
theorem g_dup_x1 (C : Cx X cc nL own Z fr lo) {a b : Value} (d : decode cc pc = .ok (.dup_x1, 1)) (ha : a.category = 1) (hb : b.category = 1) (k : G X nL Z Q I J (pc + 1) lv (a :: b :: a :: st)) : G X nL Z Q I J pc lv (a :: b :: st) := fun H locs ls hP hS hl => lv_dup_x1 C.1 C.2.1 d ha hb (k H locs ls hP hS hl)
theorem g_goto (C : Cx X cc nL own Z fr lo) {off : Int} {tgt : Nat} (d : decode cc pc = .ok (.goto off, 3)) (ht : (pc : Int) + off = (tgt : Int)) (k : G X nL Z Q I J tgt lv st) : G X nL Z Q I J pc lv st := fun H locs ls hP hS hl => lv_goto C.1 C.2.1 d ht (k H locs ls hP hS hl)
theorem g_icmp_eq (C : Cx X cc nL own Z fr lo) {x y : Int32} {off : Int} {tgt : Nat} (d : decode cc pc = .ok (.if_icmp .eq off, 3)) (ht : (pc : Int) + off = (tgt : Int)) (kt : x = y → G X nL Z Q I J tgt lv st) (kf : ¬ x = y → G X nL Z Q I J (pc + 3) lv st) : G X nL Z Q I J pc lv (.int y :: .int x :: st) :=
  fun H locs ls hP hS hl => lv_icmp_eq C.1 C.2.1 d ht (fun h => kt (by first | exact h | exact Decidable.of_not_not h) H locs ls hP hS hl) (fun h => kf (by first | exact h | exact Decidable.of_not_not h) H locs ls hP hS hl)
theorem g_if_eq (C : Cx X cc nL own Z fr lo) {x : Int32} {off : Int} {tgt : Nat} (d : decode cc pc = .ok (.ifCond .eq off, 3)) (ht : (pc : Int) + off = (tgt : Int)) (kt : x = 0 → G X nL Z Q I J tgt lv st) (kf : ¬ x = 0 → G X nL Z Q I J (pc + 3) lv st) : G X nL Z Q I J pc lv (.int x :: st) :=
  fun H locs ls hP hS hl => lv_if_eq C.1 C.2.1 d ht (fun h => kt (by first | exact h | exact Decidable.of_not_not h) H locs ls hP hS hl) (fun h => kf (by first | exact h | exact Decidable.of_not_not h) H locs ls hP hS hl)
theorem g_icmp_ne (C : Cx X cc nL own Z fr lo) {x y : Int32} {off : Int} {tgt : Nat} (d : decode cc pc = .ok (.if_icmp .ne off, 3)) (ht : (pc : Int) + off = (tgt : Int)) (kt : ¬ x = y → G X nL Z Q I J tgt lv st) (kf : x = y → G X nL Z Q I J (pc + 3) lv st) : G X nL Z Q I J pc lv (.int y :: .int x :: st) :=
  fun H locs ls hP hS hl => lv_icmp_ne C.1 C.2.1 d ht (fun h => kt (by first | exact h | exact Decidable.of_not_not h) H locs ls hP hS hl) (fun h => kf (by first | exact h | exact Decidable.of_not_not h) H locs ls hP hS hl)
theorem g_if_ne (C : Cx X cc nL own Z fr lo) {x : Int32} {off : Int} {tgt : Nat} (d : decode cc pc = .ok (.ifCond .ne off, 3)) (ht : (pc : Int) + off = (tgt : Int)) (kt : ¬ x = 0 → G X nL Z Q I J tgt lv st) (kf : x = 0 → G X nL Z Q I J (pc + 3) lv st) : G X nL Z Q I J pc lv (.int x :: st) :=
  fun H locs ls hP hS hl => lv_if_ne C.1 C.2.1 d ht (fun h => kt (by first | exact h | exact Decidable.of_not_not h) H locs ls hP hS hl) (fun h => kf (by first | exact h | exact Decidable.of_not_not h) H locs ls hP hS hl)
theorem g_icmp_lt (C : Cx X cc nL own Z fr lo) {x y : Int32} {off : Int} {tgt : Nat} (d : decode cc pc = .ok (.if_icmp .lt off, 3)) (ht : (pc : Int) + off = (tgt : Int)) (kt : x < y → G X nL Z Q I J tgt lv st) (kf : ¬ x < y → G X nL Z Q I J (pc + 3) lv st) : G X nL Z Q I J pc lv (.int y :: .int x :: st) :=
  fun H locs ls hP hS hl => lv_icmp_lt C.1 C.2.1 d ht (fun h => kt (by first | exact h | exact Decidable.of_not_not h) H locs ls hP hS hl) (fun h => kf (by first | exact h | exact Decidable.of_not_not h) H locs ls hP hS hl)
theorem g_if_lt (C : Cx X cc nL own Z fr lo) {x : Int32} {off : Int} {tgt : Nat} (d : decode cc pc = .ok (.ifCond .lt off, 3)) (ht : (pc : Int) + off = (tgt : Int)) (kt : x < 0 → G X nL Z Q I J tgt lv st) (kf : ¬ x < 0 → G X nL Z Q I J (pc + 3) lv st) : G X nL Z Q I J pc lv (.int x :: st) :=
  fun H locs ls hP hS hl => lv_if_lt C.1 C.2.1 d ht (fun h => kt (by first | exact h | exact Decidable.of_not_not h) H locs ls hP hS hl) (fun h => kf (by first | exact h | exact Decidable.of_not_not h) H locs ls hP hS hl)
theorem g_icmp_ge (C : Cx X cc nL own Z fr lo) {x y : Int32} {off : Int} {tgt : Nat} (d : decode cc pc = .ok (.if_icmp .ge off, 3)) (ht : (pc : Int) + off = (tgt : Int)) (kt : y ≤ x → G X nL Z Q I J tgt lv st) (kf : ¬ y ≤ x → G X nL Z Q I J (pc + 3) lv st) : G X nL Z Q I J pc lv (.int y :: .int x :: st) :=
  fun H locs ls hP hS hl => lv_icmp_ge C.1 C.2.1 d ht (fun h => kt (by first | exact h | exact Decidable.of_not_not h) H locs ls hP hS hl) (fun h => kf (by first | exact h | exact Decidable.of_not_not h) H locs ls hP hS hl)
theorem g_if_ge (C : Cx X cc nL own Z fr lo) {x : Int32} {off : Int} {tgt : Nat} (d : decode cc pc = .ok (.ifCond .ge off, 3)) (ht : (pc : Int) + off = (tgt : Int)) (kt : 0 ≤ x → G X nL Z Q I J tgt lv st) (kf : ¬ 0 ≤ x → G X nL Z Q I J (pc + 3) lv st) : G X nL Z Q I J pc lv (.int x :: st) :=
  fun H locs ls hP hS hl => lv_if_ge C.1 C.2.1 d ht (fun h => kt (by first | exact h | exact Decidable.of_not_not h) H locs ls hP hS hl) (fun h => kf (by first | exact h | exact Decidable.of_not_not h) H locs ls hP hS hl)
theorem g_icmp_gt (C : Cx X cc nL own Z fr lo) {x y : Int32} {off : Int} {tgt : Nat} (d : decode cc pc = .ok (.if_icmp .gt off, 3)) (ht : (pc : Int) + off = (tgt : Int)) (kt : y < x → G X nL Z Q I J tgt lv st) (kf : ¬ y < x → G X nL Z Q I J (pc + 3) lv st) : G X nL Z Q I J pc lv (.int y :: .int x :: st) :=
  fun H locs ls hP hS hl => lv_icmp_gt C.1 C.2.1 d ht (fun h => kt (by first | exact h | exact Decidable.of_not_not h) H locs ls hP hS hl) (fun h => kf (by first | exact h | exact Decidable.of_not_not h) H locs ls hP hS hl)
theorem g_if_gt (C : Cx X cc nL own Z fr lo) {x : Int32} {off : Int} {tgt : Nat} (d : decode cc pc = .ok (.ifCond .gt off, 3)) (ht : (pc : Int) + off = (tgt : Int)) (kt : 0 < x → G X nL Z Q I J tgt lv st) (kf : ¬ 0 < x → G X nL Z Q I J (pc + 3) lv st) : G X nL Z Q I J pc lv (.int x :: st) :=
  fun H locs ls hP hS hl => lv_if_gt C.1 C.2.1 d ht (fun h => kt (by first | exact h | exact Decidable.of_not_not h) H locs ls hP hS hl) (fun h => kf (by first | exact h | exact Decidable.of_not_not h) H locs ls hP hS hl)
theorem g_icmp_le (C : Cx X cc nL own Z fr lo) {x y : Int32} {off : Int} {tgt : Nat} (d : decode cc pc = .ok (.if_icmp .le off, 3)) (ht : (pc : Int) + off = (tgt : Int)) (kt : x ≤ y → G X nL Z Q I J tgt lv st) (kf : ¬ x ≤ y → G X nL Z Q I J (pc + 3) lv st) : G X nL Z Q I J pc lv (.int y :: .int x :: st) :=
  fun H locs ls hP hS hl => lv_icmp_le C.1 C.2.1 d ht (fun h => kt (by first | exact h | exact Decidable.of_not_not h) H locs ls hP hS hl) (fun h => kf (by first | exact h | exact Decidable.of_not_not h) H locs ls hP hS hl)
theorem g_if_le (C : Cx X cc nL own Z fr lo) {x : Int32} {off : Int} {tgt : Nat} (d : decode cc pc = .ok (.ifCond .le off, 3)) (ht : (pc : Int) + off = (tgt : Int)) (kt : x ≤ 0 → G X nL Z Q I J tgt lv st) (kf : ¬ x ≤ 0 → G X nL Z Q I J (pc + 3) lv st) : G X nL Z Q I J pc lv (.int x :: st) :=
  fun H locs ls hP hS hl => lv_if_le C.1 C.2.1 d ht (fun h => kt (by first | exact h | exact Decidable.of_not_not h) H locs ls hP hS hl) (fun h => kf (by first | exact h | exact Decidable.of_not_not h) H locs ls hP hS hl)
theorem n_icmp_eq (C : Cx X cc nL own Z fr lo) {a b : Nat} {off : Int} {tgt : Nat} (d : decode cc pc = .ok (.if_icmp .eq off, 3)) (ht : (pc : Int) + off = (tgt : Int)) (ha : a < 2 ^ 31) (hb : b < 2 ^ 31) (kt : a = b → G X nL Z Q I J tgt lv st) (kf : a ≠ b → G X nL Z Q I J (pc + 3) lv st) : G X nL Z Q I J pc lv (.int (nI b) :: .int (nI a) :: st) :=
  g_icmp_eq C d ht (fun h => kt ((nI_eq ha hb).mp h)) (fun h => kf (fun e => h ((nI_eq ha hb).mpr e)))
theorem n_if_eq (C : Cx X cc nL own Z fr lo) {a : Nat} {off : Int} {tgt : Nat} (d : decode cc pc = .ok (.ifCond .eq off, 3)) (ht : (pc : Int) + off = (tgt : Int)) (ha : a < 2 ^ 31) (kt : a = 0 → G X nL Z Q I J tgt lv st) (kf : a ≠ 0 → G X nL Z Q I J (pc + 3) lv st) : G X nL Z Q I J pc lv (.int (nI a) :: st) := by
  have hb : 0 < 2 ^ 31 := by decide
  exact g_if_eq C d ht (fun h => kt ((nI_eq ha hb).mp h)) (fun h => kf (fun e => h ((nI_eq ha hb).mpr e)))
theorem n_icmp_ne (C : Cx X cc nL own Z fr lo) {a b : Nat} {off : Int} {tgt : Nat} (d : decode cc pc = .ok (.if_icmp .ne off, 3)) (ht : (pc : Int) + off = (tgt : Int)) (ha : a < 2 ^ 31) (hb : b < 2 ^ 31) (kt : a ≠ b → G X nL Z Q I J tgt lv st) (kf : a = b → G X nL Z Q I J (pc + 3) lv st) : G X nL Z Q I J pc lv (.int (nI b) :: .int (nI a) :: st) :=
  g_icmp_ne C d ht (fun h => kt (fun e => h ((nI_eq ha hb).mpr e))) (fun h => kf ((nI_eq ha hb).mp h))
theorem n_if_ne (C : Cx X cc nL own Z fr lo) {a : Nat} {off : Int} {tgt : Nat} (d : decode cc pc = .ok (.ifCond .ne off, 3)) (ht : (pc : Int) + off = (tgt : Int)) (ha : a < 2 ^ 31) (kt : a ≠ 0 → G X nL Z Q I J tgt lv st) (kf : a = 0 → G X nL Z Q I J (pc + 3) lv st) : G X nL Z Q I J pc lv (.int (nI a) :: st) := by
  have hb : 0 < 2 ^ 31 := by decide
  exact g_if_ne C d ht (fun h => kt (fun e => h ((nI_eq ha hb).mpr e))) (fun h => kf ((nI_eq ha hb).mp h))
theorem n_icmp_lt (C : Cx X cc nL own Z fr lo) {a b : Nat} {off : Int} {tgt : Nat} (d : decode cc pc = .ok (.if_icmp .lt off, 3)) (ht : (pc : Int) + off = (tgt : Int)) (ha : a < 2 ^ 31) (hb : b < 2 ^ 31) (kt : a < b → G X nL Z Q I J tgt lv st) (kf : b ≤ a → G X nL Z Q I J (pc + 3) lv st) : G X nL Z Q I J pc lv (.int (nI b) :: .int (nI a) :: st) :=
  g_icmp_lt C d ht (fun h => kt ((nI_ltI ha hb).mp h)) (fun h => kf (Nat.le_of_not_lt (fun e => h ((nI_ltI ha hb).mpr e))))
theorem n_if_lt (C : Cx X cc nL own Z fr lo) {a : Nat} {off : Int} {tgt : Nat} (d : decode cc pc = .ok (.ifCond .lt off, 3)) (ht : (pc : Int) + off = (tgt : Int)) (ha : a < 2 ^ 31) (kt : a < 0 → G X nL Z Q I J tgt lv st) (kf : 0 ≤ a → G X nL Z Q I J (pc + 3) lv st) : G X nL Z Q I J pc lv (.int (nI a) :: st) := by
  have hb : 0 < 2 ^ 31 := by decide
  exact g_if_lt C d ht (fun h => kt ((nI_ltI ha hb).mp h)) (fun h => kf (Nat.le_of_not_lt (fun e => h ((nI_ltI ha hb).mpr e))))
theorem n_icmp_ge (C : Cx X cc nL own Z fr lo) {a b : Nat} {off : Int} {tgt : Nat} (d : decode cc pc = .ok (.if_icmp .ge off, 3)) (ht : (pc : Int) + off = (tgt : Int)) (ha : a < 2 ^ 31) (hb : b < 2 ^ 31) (kt : b ≤ a → G X nL Z Q I J tgt lv st) (kf : a < b → G X nL Z Q I J (pc + 3) lv st) : G X nL Z Q I J pc lv (.int (nI b) :: .int (nI a) :: st) :=
  g_icmp_ge C d ht (fun h => kt ((nI_leI hb ha).mp h)) (fun h => kf (Nat.lt_of_not_le (fun e => h ((nI_leI hb ha).mpr e))))
theorem n_if_ge (C : Cx X cc nL own Z fr lo) {a : Nat} {off : Int} {tgt : Nat} (d : decode cc pc = .ok (.ifCond .ge off, 3)) (ht : (pc : Int) + off = (tgt : Int)) (ha : a < 2 ^ 31) (kt : 0 ≤ a → G X nL Z Q I J tgt lv st) (kf : a < 0 → G X nL Z Q I J (pc + 3) lv st) : G X nL Z Q I J pc lv (.int (nI a) :: st) := by
  have hb : 0 < 2 ^ 31 := by decide
  exact g_if_ge C d ht (fun h => kt ((nI_leI hb ha).mp h)) (fun h => kf (Nat.lt_of_not_le (fun e => h ((nI_leI hb ha).mpr e))))
theorem n_icmp_gt (C : Cx X cc nL own Z fr lo) {a b : Nat} {off : Int} {tgt : Nat} (d : decode cc pc = .ok (.if_icmp .gt off, 3)) (ht : (pc : Int) + off = (tgt : Int)) (ha : a < 2 ^ 31) (hb : b < 2 ^ 31) (kt : b < a → G X nL Z Q I J tgt lv st) (kf : a ≤ b → G X nL Z Q I J (pc + 3) lv st) : G X nL Z Q I J pc lv (.int (nI b) :: .int (nI a) :: st) :=
  g_icmp_gt C d ht (fun h => kt ((nI_ltI hb ha).mp h)) (fun h => kf (Nat.le_of_not_lt (fun e => h ((nI_ltI hb ha).mpr e))))
theorem n_if_gt (C : Cx X cc nL own Z fr lo) {a : Nat} {off : Int} {tgt : Nat} (d : decode cc pc = .ok (.ifCond .gt off, 3)) (ht : (pc : Int) + off = (tgt : Int)) (ha : a < 2 ^ 31) (kt : 0 < a → G X nL Z Q I J tgt lv st) (kf : a ≤ 0 → G X nL Z Q I J (pc + 3) lv st) : G X nL Z Q I J pc lv (.int (nI a) :: st) := by
  have hb : 0 < 2 ^ 31 := by decide
  exact g_if_gt C d ht (fun h => kt ((nI_ltI hb ha).mp h)) (fun h => kf (Nat.le_of_not_lt (fun e => h ((nI_ltI hb ha).mpr e))))
theorem n_icmp_le (C : Cx X cc nL own Z fr lo) {a b : Nat} {off : Int} {tgt : Nat} (d : decode cc pc = .ok (.if_icmp .le off, 3)) (ht : (pc : Int) + off = (tgt : Int)) (ha : a < 2 ^ 31) (hb : b < 2 ^ 31) (kt : a ≤ b → G X nL Z Q I J tgt lv st) (kf : b < a → G X nL Z Q I J (pc + 3) lv st) : G X nL Z Q I J pc lv (.int (nI b) :: .int (nI a) :: st) :=
  g_icmp_le C d ht (fun h => kt ((nI_leI ha hb).mp h)) (fun h => kf (Nat.lt_of_not_le (fun e => h ((nI_leI ha hb).mpr e))))
theorem n_if_le (C : Cx X cc nL own Z fr lo) {a : Nat} {off : Int} {tgt : Nat} (d : decode cc pc = .ok (.ifCond .le off, 3)) (ht : (pc : Int) + off = (tgt : Int)) (ha : a < 2 ^ 31) (kt : a ≤ 0 → G X nL Z Q I J tgt lv st) (kf : 0 < a → G X nL Z Q I J (pc + 3) lv st) : G X nL Z Q I J pc lv (.int (nI a) :: st) := by
  have hb : 0 < 2 ^ 31 := by decide
  exact g_if_le C d ht (fun h => kt ((nI_leI ha hb).mp h)) (fun h => kf (Nat.lt_of_not_le (fun e => h ((nI_leI ha hb).mpr e))))
def bI (p : Bool) : Int32 := if p then 1 else 0
theorem bI_t : bI true = 1 := rfl
theorem bI_f : bI false = 0 := rfl
theorem b_if_eq (C : Cx X cc nL own Z fr lo) {p : Bool} {off : Int} {tgt : Nat} (d : decode cc pc = .ok (.ifCond .eq off, 3)) (ht : (pc : Int) + off = (tgt : Int)) (kt : p = false → G X nL Z Q I J tgt lv st) (kf : p = true → G X nL Z Q I J (pc + 3) lv st) : G X nL Z Q I J pc lv (.int (bI p) :: st) := by
  cases p with
  | true => exact g_if_eq C d ht (fun h => absurd h (by decide)) (fun _ => kf rfl)
  | false => exact g_if_eq C d ht (fun _ => kt rfl) (fun h => absurd rfl h)
theorem b_if_ne (C : Cx X cc nL own Z fr lo) {p : Bool} {off : Int} {tgt : Nat} (d : decode cc pc = .ok (.ifCond .ne off, 3)) (ht : (pc : Int) + off = (tgt : Int)) (kt : p = true → G X nL Z Q I J tgt lv st) (kf : p = false → G X nL Z Q I J (pc + 3) lv st) : G X nL Z Q I J pc lv (.int (bI p) :: st) := by
  cases p with
  | true => exact g_if_ne C d ht (fun _ => kt rfl) (fun h => absurd h (by decide))
  | false => exact g_if_ne C d ht (fun h => absurd rfl h) (fun _ => kf rfl)
theorem g_ldc2 (C : Cx X cc nL own Z fr lo) {index : Nat} {v : Int64} (hc : Cond.constantLong own index v ∈ wsC) (d : decode cc pc = .ok (.ldc2_w index, 3)) (k : G X nL Z Q I J (pc + 3) lv (.long v :: st)) : G X nL Z Q I J pc lv st :=
  fun H locs ls hP hS hl => lv_ldc2 C.1 C.2.1 C.2.2.2.1 (C.2.2.2.2.1 _ hc) d (k H locs ls hP hS hl)
theorem g_iald (C : Cx X cc nL own Z fr lo) (k r : Nat) (hk : k < 38) (hr : r < cnt k) {n : Nat} (hs : ∀ f g, SSr Z.2.1 Z.2.2.1 k r f g = .inl (Z.2.1 0, n, .inl f)) (i : Nat) (hi : i < n) (hn : Nat.ble n 1000 = true) (d : decode cc pc = .ok (.iaload, 1)) {v : Int32} (hv : I k r i = v) (kk : G X nL Z Q I J (pc + 1) lv (.int v :: st)) : G X nL Z Q I J pc lv (.int (nI i) :: .ref (Z.2.2.1 k r) :: st) := by
  intro H locs ls hP hS hl
  obtain ⟨q, hq⟩ := wl_get hk hr
  have hn2 := Nat.ble_eq.mp hn
  have ha := wl_at (ca := Z.2.1) (ad := Z.2.2.1) (I := I) (J := J) hq
  dsimp only at ha
  rw [hs] at ha
  refine va_iald C.1 C.2.1 C.2.2.2.2.2.1.1 hP q 0 ha rfl (vp_in_nI hi (by omega)) d ?_
  rw [nI_clamp (show i < 2 ^ 31 by omega), hv]
  exact kk H locs ls hP hS hl
theorem g_lald (C : Cx X cc nL own Z fr lo) (k r : Nat) (hk : k < 38) (hr : r < cnt k) {n : Nat} (hs : ∀ f g, SSr Z.2.1 Z.2.2.1 k r f g = .inl (Z.2.1 1, n, .inr (.inl g))) (i : Nat) (hi : i < n) (hn : Nat.ble n 1000 = true) (d : decode cc pc = .ok (.laload, 1)) {v : Int64} (hv : J k r i = v) (kk : G X nL Z Q I J (pc + 1) lv (.long v :: st)) : G X nL Z Q I J pc lv (.int (nI i) :: .ref (Z.2.2.1 k r) :: st) := by
  intro H locs ls hP hS hl
  obtain ⟨q, hq⟩ := wl_get hk hr
  have hn2 := Nat.ble_eq.mp hn
  have ha := wl_at (ca := Z.2.1) (ad := Z.2.2.1) (I := I) (J := J) hq
  dsimp only at ha
  rw [hs] at ha
  refine va_lald C.1 C.2.1 C.2.2.2.2.2.1.1 hP q 1 ha rfl (vp_in_nI hi (by omega)) d ?_
  rw [nI_clamp (show i < 2 ^ 31 by omega), hv]
  exact kk H locs ls hP hS hl
theorem g_zald (C : Cx X cc nL own Z fr lo) (k r : Nat) (hk : k < 38) (hr : r < cnt k) {n : Nat} (hs : ∀ f g, SSr Z.2.1 Z.2.2.1 k r f g = .inl (Z.2.1 5, n, .inl f)) (i : Nat) (hi : i < n) (hn : Nat.ble n 1000 = true) (d : decode cc pc = .ok (.baload, 1)) {v : Int32} (hv : I k r i = v) (kk : G X nL Z Q I J (pc + 1) lv (.int v :: st)) : G X nL Z Q I J pc lv (.int (nI i) :: .ref (Z.2.2.1 k r) :: st) := by
  intro H locs ls hP hS hl
  obtain ⟨q, hq⟩ := wl_get hk hr
  have hn2 := Nat.ble_eq.mp hn
  have ha := wl_at (ca := Z.2.1) (ad := Z.2.2.1) (I := I) (J := J) hq
  dsimp only at ha
  rw [hs] at ha
  refine va_zald C.1 C.2.1 C.2.2.2.2.2.1.1 hP q 5 ha rfl (vp_in_nI hi (by omega)) d ?_
  rw [nI_clamp (show i < 2 ^ 31 by omega), hv]
  exact kk H locs ls hP hS hl
theorem g_iast (C : Cx X cc nL own Z fr lo) (k r : Nat) (hk : k < 38) (hr : r < cnt k) {n : Nat} (hs : ∀ f g, SSr Z.2.1 Z.2.2.1 k r f g = .inl (Z.2.1 0, n, .inl f)) (i : Nat) (hi : i < n) (hn : Nat.ble n 1000 = true) {x : Int32} (d : decode cc pc = .ok (.iastore, 1)) (kk : G X nL Z Q (sK I k (up2 (I k) r i x)) J (pc + 1) lv st) : G X nL Z Q I J pc lv (.int x :: .int (nI i) :: .ref (Z.2.2.1 k r) :: st) := by
  intro H locs ls hP hS hl
  obtain ⟨q, hq⟩ := wl_get hk hr
  have hn2 := Nat.ble_eq.mp hn
  have ha := wl_at (ca := Z.2.1) (ad := Z.2.2.1) (I := I) (J := J) hq
  dsimp only at ha
  rw [hs] at ha
  refine va_iast C.1 C.2.1 C.2.2.2.2.2.1.1 hP (C.2.2.2.2.2.2.1.toD _ _ _) hS q 0 ha rfl (vp_in_nI hi (by omega)) d (fun H1 locs1 hP1 _ hS1 => ?_)
  rw [nI_clamp (show i < 2 ^ 31 by omega), upd_va] at hP1
  exact kk H1 locs1 ls (by rw [← wl_setI hq, hs]; exact hP1) hS1 hl
theorem g_last (C : Cx X cc nL own Z fr lo) (k r : Nat) (hk : k < 38) (hr : r < cnt k) {n : Nat} (hs : ∀ f g, SSr Z.2.1 Z.2.2.1 k r f g = .inl (Z.2.1 1, n, .inr (.inl g))) (i : Nat) (hi : i < n) (hn : Nat.ble n 1000 = true) {x : Int64} (d : decode cc pc = .ok (.lastore, 1)) (kk : G X nL Z Q I (sK J k (up2 (J k) r i x)) (pc + 1) lv st) : G X nL Z Q I J pc lv (.long x :: .int (nI i) :: .ref (Z.2.2.1 k r) :: st) := by
  intro H locs ls hP hS hl
  obtain ⟨q, hq⟩ := wl_get hk hr
  have hn2 := Nat.ble_eq.mp hn
  have ha := wl_at (ca := Z.2.1) (ad := Z.2.2.1) (I := I) (J := J) hq
  dsimp only at ha
  rw [hs] at ha
  refine va_last C.1 C.2.1 C.2.2.2.2.2.1.1 hP (C.2.2.2.2.2.2.1.toD _ _ _) hS q 1 ha rfl (vp_in_nI hi (by omega)) d (fun H1 locs1 hP1 _ hS1 => ?_)
  rw [nI_clamp (show i < 2 ^ 31 by omega), updL_va] at hP1
  exact kk H1 locs1 ls (by rw [← wl_setJ hq, hs]; exact hP1) hS1 hl
theorem g_zast (C : Cx X cc nL own Z fr lo) (k r : Nat) (hk : k < 38) (hr : r < cnt k) {n : Nat} (hs : ∀ f g, SSr Z.2.1 Z.2.2.1 k r f g = .inl (Z.2.1 5, n, .inl f)) (i : Nat) (hi : i < n) (hn : Nat.ble n 1000 = true) {x : Int32} (hx : vp_nar .boolean x = x) (d : decode cc pc = .ok (.bastore, 1)) (kk : G X nL Z Q (sK I k (up2 (I k) r i x)) J (pc + 1) lv st) : G X nL Z Q I J pc lv (.int x :: .int (nI i) :: .ref (Z.2.2.1 k r) :: st) := by
  intro H locs ls hP hS hl
  obtain ⟨q, hq⟩ := wl_get hk hr
  have hn2 := Nat.ble_eq.mp hn
  have ha := wl_at (ca := Z.2.1) (ad := Z.2.2.1) (I := I) (J := J) hq
  dsimp only at ha
  rw [hs] at ha
  refine va_zast C.1 C.2.1 C.2.2.2.2.2.1.1 hP (C.2.2.2.2.2.2.1.toD _ _ _) hS q 5 ha rfl (vp_in_nI hi (by omega)) d (fun H1 locs1 hP1 _ hS1 => ?_)
  rw [nI_clamp (show i < 2 ^ 31 by omega), hx, upd_va] at hP1
  exact kk H1 locs1 ls (by rw [← wl_setI hq, hs]; exact hP1) hS1 hl
theorem g_aald (C : Cx X cc nL own Z fr lo) (k r t : Nat) (hk : k < 38) (hr : r < cnt k) {n : Nat} {h : Nat → Nat} {ty : FieldType} {cA : ClassId} (hs : ∀ f g, SSr Z.2.1 Z.2.2.1 k r f g = aR cA n h) (ht : (tysC Z.2.1)[t]? = some (cA, ty)) (hty : ty.isReference = true) (i : Nat) (hi : i < n) (hn : Nat.ble n 1000 = true) (d : decode cc pc = .ok (.aaload, 1)) (kk : G X nL Z Q I J (pc + 1) lv (.ref (h i) :: st)) : G X nL Z Q I J pc lv (.int (nI i) :: .ref (Z.2.2.1 k r) :: st) := by
  intro H locs ls hP hS hl
  obtain ⟨q, hq⟩ := wl_get hk hr
  have hn2 := Nat.ble_eq.mp hn
  have ha := wl_at (ca := Z.2.1) (ad := Z.2.2.1) (I := I) (J := J) hq
  dsimp only at ha
  rw [hs] at ha
  have hin : vp_in (nI i) n := vp_in_nI hi (by omega)
  have hc := nI_clamp (show i < 2 ^ 31 by omega)
  refine W.aald (v := va_rf (rfs n h i)) (ty := ty) C.1 C.2.1 (hP q _ ha) ((C.2.2.2.2.2.1.1.2 t _ ht).1 n (fun j => va_rf (rfs n h j))) hty (fun q => by cases q) (by show ¬ (nI i < 0 ∨ (arrV _ _ _).slots.size ≤ _); rw [arrV_size]; exact hin) (by show (arrV _ _ _).slots[_]? = _; rw [hc, arrV_read _ _ hi]) rfl rfl d ?_
  rw [rfs_at hi]
  exact kk H locs ls hP hS hl
theorem g_get (C : Cx X cc nL own Z fr lo) (k r : Nat) (hk : k < 38) (hr : r < cnt k) {ci N index : Nat} {Cn : String} {T : u_T} (hin : ∀ w ∈ u_ws Cn T N, w ∈ wsC) (hc : vwCl[ci]? = some (Cn, T, N)) (sl : Nat) (hsl : Nat.blt sl N = true) (hf : Cond.fieldLink own index (T sl).1 (T sl).2.1 (T sl).2.2.1 ∈ wsC) {fs : List Value} {v : Value} (hs : SSr Z.2.1 Z.2.2.1 k r (I k r) (J k r) = .inr (ci, fs)) (hv : fs[sl]? = some v) (d : decode cc pc = .ok (.getfield index, 3)) (kk : G X nL Z Q I J (pc + 3) lv (v :: st)) : G X nL Z Q I J pc lv (.ref (Z.2.2.1 k r) :: st) := by
  intro H locs ls hP hS hl
  obtain ⟨q, hq⟩ := wl_get hk hr
  have ha := wl_at (ca := Z.2.1) (ad := Z.2.2.1) (I := I) (J := J) hq
  dsimp only at ha
  rw [hs] at ha
  exact va_get C.1 C.2.1 C.2.2.2.2.1 hin C.2.2.2.1 C.2.2.2.2.2.1.1 hP q ha hc sl (Nat.blt_eq.mp hsl) (C.2.2.2.2.1 _ hf) (fun _ h => h) hv d (kk H locs ls hP hS hl)
theorem g_put (C : Cx X cc nL own Z fr lo) (k r : Nat) (hk : k < 38) (hr : r < cnt k) {ci N index : Nat} {Cn : String} {T : u_T} (ty0 : Nat → FieldType) (hty : ∀ k, k < N → parseFieldDescriptor (T k).2.2.1 = some (ty0 k)) (hnm : ∀ a, a < N → ∀ b, b < N → a ≠ b → (T a).2.1 ≠ (T b).2.1) (hin : ∀ w ∈ u_ws Cn T N, w ∈ wsC) (hc : vwCl[ci]? = some (Cn, T, N)) (sl : Nat) (hsl : Nat.blt sl N = true) (hf : Cond.fieldLink own index (T sl).1 (T sl).2.1 (T sl).2.2.1 ∈ wsC) (hfin : (T sl).2.2.2 = false) {fs : (Nat → Int32) → List Value} {x : Int32} (hs : ∀ f g, SSr Z.2.1 Z.2.2.1 k r f g = .inr (ci, fs f)) (hset : (fs (I k r)).set sl (.int x) = fs (va_up (I k r) sl x)) (hlen : Nat.blt sl (fs (I k r)).length = true) (hn : narrow (ty0 sl) (.int x) = .int x) (hfit : fits (ty0 sl) (.int x) = true) (d : decode cc pc = .ok (.putfield index, 3)) (kk : G X nL Z Q (sK I k (up2 (I k) r sl x)) J (pc + 3) lv st) : G X nL Z Q I J pc lv (.int x :: .ref (Z.2.2.1 k r) :: st) := by
  intro H locs ls hP hS hl
  obtain ⟨q, hq⟩ := wl_get hk hr
  have ha := wl_at (ca := Z.2.1) (ad := Z.2.2.1) (I := I) (J := J) hq
  dsimp only at ha
  rw [hs] at ha
  refine va_put C.1 C.2.1 C.2.2.2.2.1 hin ty0 hty hnm C.2.2.2.1 C.2.2.2.2.2.1.1 hP (C.2.2.2.2.2.2.1.toD _ _ _) hS q ha hc sl (Nat.blt_eq.mp hsl) (C.2.2.2.2.1 _ hf) (fun _ h => h) hfin (hty sl (Nat.blt_eq.mp hsl)) hn hfit (Nat.blt_eq.mp hlen) d (fun H1 locs1 hP1 _ hS1 => ?_)
  rw [hset] at hP1
  exact kk H1 locs1 ls (by rw [← wl_setI hq, hs]; exact hP1) hS1 hl
end GO
end
section
/-! ===== contracts over the one world: returns, entries, calls ===== -/
/-- a method's end: it returned v, the world holds (I', J'), and post says which -/
def QX (D : va_G) (ca : Nat → ClassId) (ad : Nat → Nat → Nat) (A : Nat → Prop) (post : Option Value → SI → SJ → Prop) : Array Value → State → Outcome → State → Prop :=
  fun _ st oc t => (∃ (v : Option Value) (I' : SI) (J' : SJ), oc = .returned v ∧ post v I' J' ∧ va_P D vwCl (wl ca ad I' J') t.heap) ∧ va_F A st t
def QG (X : Pk) (Z : Zk) (post : Option Value → SI → SJ → Prop) : State → Prop :=
  MQ (xB X) (QX Z.1 Z.2.1 Z.2.2.1 Z.2.2.2 post) (xA X) (xS X) 0 0 Z.2.2.2
abbrev Yk : Type := va_G × (Nat → ClassId) × (Nat → Nat → Nat)
/-- the contract of a method at (I, J) -/
def MX (l : Launch) (Y : Yk) (y : MethodName) (cc : ByteArray) (nL : Nat) (ret : Option FieldType) (fr lo : Nat) (av : List Value) (I : SI) (J : SJ) (post : Option Value → SI → SJ → Prop) : Prop :=
  ∀ sz : Nat, Met l y (Cond.code y cc nL ret :: wsC) { frames := fr, cells := 0, slots := 0, locals := lo } (va_Pc av (fun U => U.heap.size = sz ∧ va_P Y.1 vwCl (wl Y.2.1 Y.2.2 I J) U.heap ∧ KK Y.1 Y.2.1 U)) (QX Y.1 Y.2.1 Y.2.2 (AA Y.2.2 sz) post) 0 0 (AA Y.2.2 sz)
theorem MX.of {l : Launch} {Y : Yk} {y : MethodName} {cc : ByteArray} {nL : Nat} {ret : Option FieldType} {fr lo : Nat} {av : List Value} {I : SI} {J : SJ} {post : Option Value → SI → SJ → Prop} (hA : AJ Y.2.2) (hy : plainName y.cls = true) {own : String} (ho : y.cls = own) {lv : List (Nat × Value)} (hlen : Nat.ble (lg_sl av).length nL = true) (hlv : lv_args 0 av = lv)
    (body : ∀ (X : Pk) (Z : Zk), X.2.1 = l → Z.1 = Y.1 → Z.2.1 = Y.2.1 → Z.2.2.1 = Y.2.2 → Cx X cc nL own Z fr lo → (xE X).sig.returnType = ret → G X nL Z (QG X Z post) I J 0 lv []) : MX l Y y cc nL ret fr lo av I J post := by
  intro sz
  subst ho
  refine Met.ofW (cc := cc) (maxL := nL) (ret := ret) hy rfl ?_
  intro p e s m args below meth c s₁ B hml hv
  obtain ⟨rfl, hsz, hP, hK⟩ := hv
  subst hsz
  have hts := atoms_spec (ws := Cond.code y cc nL ret :: wsC) B.pre
  have hown : s.vm.findClass y.cls = some m.cls := findClass_of_methodNamed B.named
  have hl := lv_entry av (n := nL) (Nat.ble_eq.mp hlen)
  rw [lg_entry_eq]
  generalize (lg_sl av ++ List.replicate (nL - (lg_sl av).length) Slot.unset).toArray = ls at hl ⊢
  rw [hlv] at hl
  exact body (p, l, e, { frames := fr, cells := 0, slots := 0, locals := lo }, s, m, av.toArray, below, meth, c) (Y.1, Y.2.1, Y.2.2, AA Y.2.2 s.heap.size) rfl rfl rfl rfl
    ⟨B.exec, B.bytes, hml, hown, fun w hw => hts w (List.mem_cons_of_mem _ hw), hK, AD.ofAA hA _, fun q h => Or.inr h, B.notSynchronized, rfl, rfl⟩ B.returns s.heap [] ls hP va_S.rf hl
section GC
variable {X : Pk} {cc : ByteArray} {nL : Nat} {own : String} {Z : Zk} {fr lo : Nat} {Q : State → Prop} {I : SI} {J : SJ} {pc : Nat} {lv lv' : List (Nat × Value)} {st : List Value} {post : Option Value → SI → SJ → Prop}
theorem g_ireturn (C : Cx X cc nL own Z fr lo) (hr : (xE X).sig.returnType = some .int) {x : Int32} (d : decode cc pc = .ok (.ireturn, 1)) (hp : post (some (.int x)) I J) : G X nL Z (QG X Z post) I J pc lv [.int x] :=
  fun _ _ _ hP hS _ => W.iret C.1 C.2.1 hr (fun t ht _ => ⟨⟨_, I, J, rfl, hp, by rw [ht]; exact hP⟩, hS.F ht⟩) hS.2.2 d C.2.2.2.2.2.2.2.2.1
theorem g_zreturn (C : Cx X cc nL own Z fr lo) (hr : (xE X).sig.returnType = some .boolean) {x : Int32} (hx : narrow .boolean (.int x) = .int x) (d : decode cc pc = .ok (.ireturn, 1)) (hp : post (some (.int x)) I J) : G X nL Z (QG X Z post) I J pc lv [.int x] :=
  fun _ _ _ hP hS _ => W.zret C.1 C.2.1 hr hx (fun t ht _ => ⟨⟨_, I, J, rfl, hp, by rw [ht]; exact hP⟩, hS.F ht⟩) hS.2.2 d C.2.2.2.2.2.2.2.2.1
theorem g_lreturn (C : Cx X cc nL own Z fr lo) (hr : (xE X).sig.returnType = some .long) {x : Int64} (d : decode cc pc = .ok (.lreturn, 1)) (hp : post (some (.long x)) I J) : G X nL Z (QG X Z post) I J pc lv [.long x] :=
  fun _ _ _ hP hS _ => W.lret C.1 C.2.1 hr (fun t ht _ => ⟨⟨_, I, J, rfl, hp, by rw [ht]; exact hP⟩, hS.F ht⟩) hS.2.2 d C.2.2.2.2.2.2.2.2.1
theorem g_return (C : Cx X cc nL own Z fr lo) (hr : (xE X).sig.returnType = none) (d : decode cc pc = .ok (.return_, 1)) (hp : post none I J) : G X nL Z (QG X Z post) I J pc lv [] :=
  fun _ _ _ hP hS _ => W.vret C.1 C.2.1 hr (fun t ht _ => ⟨⟨_, I, J, rfl, hp, by rw [ht]; exact hP⟩, hS.F ht⟩) hS.2.2 d C.2.2.2.2.2.2.2.2.1
theorem g_areturn (C : Cx X cc nL own Z fr lo) {n : String} (hr : (xE X).sig.returnType = some (.object n)) {a : Nat} (d : decode cc pc = .ok (.areturn, 1)) (hp : post (some (.ref a)) I J) : G X nL Z (QG X Z post) I J pc lv [.ref a] :=
  fun _ _ _ hP hS _ => W.aret C.1 C.2.1 hr (Or.inl ⟨_, rfl⟩) (Or.inr ⟨_, rfl⟩) (fun t ht _ => ⟨⟨_, I, J, rfl, hp, by rw [ht]; exact hP⟩, hS.F ht⟩) hS.2.2 d C.2.2.2.2.2.2.2.2.1
/-- behind a call -/
theorem g_back {a : Array Value} {H : Heap} {locs : List Loc} {ls : Array Slot} {st0 : List Value} (C : Cx X cc nL own Z fr lo) (hr : va_Run X.1 X.2.1 X.2.2.1 (xR X) (xS X) (xM X) (xA X) (xB X) (xE X) (xC X) H locs 0 0 0 0 (F0 (xM X) pc ls st0) st (QX Z.1 Z.2.1 Z.2.2.1 (AA Z.2.2.1 H.size) post a) (AA Z.2.2.1 H.size)) (hS : va_S Z.2.2.2 (xS X).heap H locs) (hl : lv_has ls nL lv)
    (kk : ∀ (v : Option Value) (I' : SI) (J' : SJ), post v I' J' → G X nL Z Q I' J' (pc + 3) lv (v.toList ++ st)) : WX X H locs Q (F0 (xM X) pc ls st0) := by
  intro T hT Xs
  obtain ⟨v, st₀, t, T', L, h0, X', hL, e1, e2, ⟨⟨v', I', J', hv, hp, hb⟩, hz, hk⟩, stp⟩ := hr T hT Xs
  cases hv
  rw [h0] at hz hk
  have hAA : ∀ q, AA Z.2.2.1 H.size q → Z.2.2.2 q := fun q h => by
    rcases h with ⟨p, hp, rfl⟩ | h
    · exact C.2.2.2.2.2.2.1.2 p hp
    · exact C.2.2.2.2.2.2.2.1 q (Nat.le_trans hS.1 h)
  have hS1 : va_S Z.2.2.2 (xS X).heap T'.heap (locs ++ L) :=
    ⟨Nat.le_trans hS.1 (by rw [e1]; exact hz), fun q h1 h2 => by rw [e1, hk q (Nat.lt_of_lt_of_le h1 hS.1) (fun z => h2 (hAA q z))]; exact hS.2.1 q h1 h2, fun q hq => by
      rcases List.mem_append.mp hq with h | h
      · exact hS.2.2 q h
      · exact hAA _ (hL q h)⟩
  obtain ⟨t2, a1, b1⟩ := kk v I' J' hp T'.heap (locs ++ L) ls (by rw [e1]; exact hb) hS1 hl T' rfl X'
  exact ⟨t2, stp t2 a1, b1⟩
/-- what a callee must be: its words are of the tables -/
def cW (y : MethodName) (cc : ByteArray) (nL : Nat) (ret : Option FieldType) (n : Nat) : Prop :=
  Cond.initialized y.cls ∈ wsC ∧ Cond.code y cc nL ret ∈ wsC ∧ (y.cls ≠ "java/lang/invoke/MethodHandle" ∧ y.cls ≠ "java/lang/invoke/VarHandle" ∧ (parseMethodDescriptor y.desc).map (fun d => d.parameters.length) = some n)
theorem wsC_goodS {y : MethodName} {cc : ByteArray} {nL : Nat} {ret : Option FieldType} {n : Nat} (h : cW y cc nL ret n) : GoodIn wsC (Cond.code y cc nL ret :: wsC) := wsC_good (fun _ h => h) (fun w hw => by rw [List.mem_singleton.mp hw]; exact h.2.1)
theorem g_callV {y : MethodName} {cc' : ByteArray} {nL' : Nat} {ret : Option FieldType} {fr' lo' n index : Nat} {b : Nat} {As : List Value} {st0 : List Value} (C : Cx X cc nL own Z fr lo) (hM : MX X.2.1 (Z.1, Z.2.1, Z.2.2.1) y cc' nL' ret fr' lo' (.ref b :: As) I J post) (hw : cW y cc' nL' ret n) (hin : Cond.instanceMethod y ∈ wsC) (hsel : Cond.selects y.cls y y ∈ wsC) (hlink : Cond.methodLink own index y ∈ wsC)
    (k r : Nat) (hk : k < 38) (hr : r < cnt k) (hb : b = Z.2.2.1 k r) {ci : Nat} {q : vw_C} {fs : List Value} (hs : SSr Z.2.1 Z.2.2.1 k r (I k r) (J k r) = .inr (ci, fs)) (hc : vwCl[ci]? = some q) (hq : q.1 = y.cls)
    (hn : As.length = n) (hst : st0 = As.reverse ++ .ref b :: st) (hcat : Nat.ble (st.map fun v => v.category).sum 8 = true) (hroom : (Nat.ble (fr' + 1) fr && Nat.ble (8 + (nL' + 11) + lo') lo) = true) (d : decode cc pc = .ok (.invokevirtual index, 3))
    (kk : ∀ (v : Option Value) (I' : SI) (J' : SJ), post v I' J' → G X nL Z Q I' J' (pc + 3) lv (v.toList ++ st)) : G X nL Z Q I J pc lv st0 := by
  intro H locs ls hP hS hl
  subst hb
  obtain ⟨i, hi⟩ := wl_get hk hr
  have ha := wl_at (ca := Z.2.1) (ad := Z.2.2.1) (I := I) (J := J) hi
  dsimp only at ha
  rw [hs] at ha
  obtain ⟨h1, h2⟩ := Bool.and_eq_true_iff.mp hroom
  have hts := C.2.2.2.2.1
  have hrecv := va_recv C.2.2.2.2.2.1.1 hP hc ha
  rw [hq] at hrecv
  have cw : CallW (xR X) (xS X) (xA X) own y.cls index y cc' nL' ret (Cond.code y cc' nL' ret :: wsC) { frames := fr', cells := 0, slots := 0, locals := lo' } 0 0 n :=
    ⟨callB_of n hts (wsC_goodS hw) rfl rfl rfl (hts _ hw.1) (hts _ hlink) hw.2.2 ⟨by rw [C.2.2.2.2.2.2.2.2.2.1]; exact Nat.ble_eq.mp h1, by rw [C.2.2.2.2.2.2.2.2.2.2]; exact Nat.ble_eq.mp h2⟩, hts _ hin, hts _ hsel⟩
  exact g_back C (va_runV (g := F0 (xM X) pc ls st0) ⟨C.1, C.2.1, C.2.2.1, C.2.2.2.1, hts⟩ (hM H.size) cw ⟨fun a U g mk q => q, hrecv, fun U hU hW => ⟨rfl, by rw [hU], by rw [hU]; exact hP, C.2.2.2.2.2.1.warm hW⟩⟩ rfl hn hl.1 hst (lv_room (Nat.ble_eq.mp hcat)) d ⟨Nat.zero_le _, Nat.zero_le _⟩) hS hl kk
theorem g_callS {y : MethodName} {cc' : ByteArray} {nL' : Nat} {ret : Option FieldType} {fr' lo' n index : Nat} {As : List Value} {st0 : List Value} (C : Cx X cc nL own Z fr lo) (hM : MX X.2.1 (Z.1, Z.2.1, Z.2.2.1) y cc' nL' ret fr' lo' As I J post) (hw : cW y cc' nL' ret n) (hstt : Cond.static y ∈ wsC) (hlink : Cond.methodLink own index y ∈ wsC)
    (hn : As.length = n) (hst : st0 = As.reverse ++ st) (hcat : Nat.ble (st.map fun v => v.category).sum 8 = true) (hroom : (Nat.ble (fr' + 1) fr && Nat.ble (8 + (nL' + 11) + lo') lo) = true) (d : decode cc pc = .ok (.invokestatic index, 3))
    (kk : ∀ (v : Option Value) (I' : SI) (J' : SJ), post v I' J' → G X nL Z Q I' J' (pc + 3) lv (v.toList ++ st)) : G X nL Z Q I J pc lv st0 := by
  intro H locs ls hP hS hl
  obtain ⟨h1, h2⟩ := Bool.and_eq_true_iff.mp hroom
  have hts := C.2.2.2.2.1
  have cw : CallB (xR X) (xS X) (xA X) own index y cc' nL' ret (Cond.code y cc' nL' ret :: wsC) { frames := fr', cells := 0, slots := 0, locals := lo' } 0 0 n ∧ (Cond.static y).before (xA X) (xS X) = true :=
    ⟨callB_of n hts (wsC_goodS hw) rfl rfl rfl (hts _ hw.1) (hts _ hlink) hw.2.2 ⟨by rw [C.2.2.2.2.2.2.2.2.2.1]; exact Nat.ble_eq.mp h1, by rw [C.2.2.2.2.2.2.2.2.2.2]; exact Nat.ble_eq.mp h2⟩, hts _ hstt⟩
  exact g_back C (va_runS (g := F0 (xM X) pc ls st0) ⟨C.1, C.2.1, C.2.2.1, C.2.2.2.1, hts⟩ (hM H.size) cw ⟨fun a U g mk q => q, fun U hU hW => ⟨rfl, by rw [hU], by rw [hU]; exact hP, C.2.2.2.2.2.1.warm hW⟩⟩ rfl hn hl.1 hst (lv_room (Nat.ble_eq.mp hcat)) d ⟨Nat.zero_le _, Nat.zero_le _⟩) hS hl kk
/-- the nest mate's private static method (compareRows out of FormFinder) -/
theorem g_callN {y : MethodName} {host : String} {cc' : ByteArray} {nL' : Nat} {ret : Option FieldType} {fr' lo' n index : Nat} {As : List Value} {st0 : List Value} (C : Cx X cc nL own Z fr lo) (hM : MX X.2.1 (Z.1, Z.2.1, Z.2.2.1) y cc' nL' ret fr' lo' As I J post) (hw : cW y cc' nL' ret n) (hstt : Cond.static y ∈ wsC) (hlink : va_Nw (.methodLinkNest own index y host) (xS X))
    (hn : As.length = n) (hst : st0 = As.reverse ++ st) (hcat : Nat.ble (st.map fun v => v.category).sum 8 = true) (hroom : (Nat.ble (fr' + 1) fr && Nat.ble (8 + (nL' + 11) + lo') lo) = true) (d : decode cc pc = .ok (.invokestatic index, 3))
    (kk : ∀ (v : Option Value) (I' : SI) (J' : SJ), post v I' J' → G X nL Z Q I' J' (pc + 3) lv (v.toList ++ st)) : G X nL Z Q I J pc lv st0 := by
  intro H locs ls hP hS hl
  obtain ⟨h1, h2⟩ := Bool.and_eq_true_iff.mp hroom
  have hts := C.2.2.2.2.1
  have cw : va_CN (xR X) (xS X) (xA X) own index y host cc' nL' ret (Cond.code y cc' nL' ret :: wsC) { frames := fr', cells := 0, slots := 0, locals := lo' } 0 0 n ∧ (Cond.static y).before (xA X) (xS X) = true ∧ True :=
    ⟨va_cnB n hts (wsC_goodS hw) rfl rfl rfl hlink (hts _ hw.1) hw.2.2 ⟨by rw [C.2.2.2.2.2.2.2.2.2.1]; exact Nat.ble_eq.mp h1, by rw [C.2.2.2.2.2.2.2.2.2.2]; exact Nat.ble_eq.mp h2⟩, hts _ hstt, trivial⟩
  exact g_back C (va_runSN (g := F0 (xM X) pc ls st0) ⟨C.1, C.2.1, C.2.2.1, C.2.2.2.1, hts⟩ (hM H.size) cw ⟨fun a U g mk q => q, fun U hU hW => ⟨rfl, by rw [hU], by rw [hU]; exact hP, C.2.2.2.2.2.1.warm hW⟩⟩ rfl hn hl.1 hst (lv_room (Nat.ble_eq.mp hcat)) d ⟨Nat.zero_le _, Nat.zero_le _⟩) hS hl kk
end GC
end
section
theorem nRL : Cond.initialized RL ∈ wsC := wsC_of (List.mem_append_right _ (List.mem_of_getElem? (i := 0) rfl)) rfl
theorem nRX5 : Cond.initialized RX5 ∈ wsC := wsC_of (List.mem_append_right _ (List.mem_of_getElem? (i := 1) rfl)) rfl
theorem nRX3 : Cond.initialized RX3 ∈ wsC := wsC_of (List.mem_append_right _ (List.mem_of_getElem? (i := 2) rfl)) rfl
theorem nRX2 : Cond.initialized RX2 ∈ wsC := wsC_of (List.mem_append_right _ (List.mem_of_getElem? (i := 3) rfl)) rfl
theorem nRX4 : Cond.initialized RX4 ∈ wsC := wsC_of (List.mem_append_right _ (List.mem_of_getElem? (i := 4) rfl)) rfl
theorem nRX0 : Cond.initialized RX0 ∈ wsC := wsC_of (List.mem_append_right _ (List.mem_of_getElem? (i := 5) rfl)) rfl
theorem nRX1 : Cond.initialized RX1 ∈ wsC := wsC_of (List.mem_append_right _ (List.mem_of_getElem? (i := 6) rfl)) rfl
theorem nRX6 : Cond.initialized RX6 ∈ wsC := wsC_of (List.mem_append_right _ (List.mem_of_getElem? (i := 7) rfl)) rfl
theorem nRJ7 : Cond.initialized RJ7 ∈ wsC := wsC_of (List.mem_append_right _ (List.mem_of_getElem? (i := 8) rfl)) rfl
theorem nRJ10 : Cond.initialized RJ10 ∈ wsC := wsC_of (List.mem_append_right _ (List.mem_of_getElem? (i := 9) rfl)) rfl
theorem nRJ9 : Cond.initialized RJ9 ∈ wsC := wsC_of (List.mem_append_right _ (List.mem_of_getElem? (i := 10) rfl)) rfl
theorem mL_9 : Cond.methodLink RL 9 yX5_init ∈ wsC := wsC_of (List.mem_append_right _ (List.mem_of_getElem? (i := 13) rfl)) rfl
theorem iX5_init : Cond.instanceMethod yX5_init ∈ wsC := wsC_of (List.mem_append_right _ (List.mem_of_getElem? (i := 14) rfl)) rfl
theorem kX5_init : Cond.code yX5_init cX5_init 1 (none) ∈ wsC := wsC_of (List.mem_append_right _ (List.mem_of_getElem? (i := 15) rfl)) rfl
theorem mX5_1 : Cond.methodLink RX5 1 objectInit ∈ wsC := wsC_of (List.mem_append_right _ (List.mem_of_getElem? (i := 16) rfl)) rfl
theorem iobjectInit : Cond.instanceMethod objectInit ∈ wsC := wsC_of (List.mem_append_right _ (List.mem_of_getElem? (i := 17) rfl)) rfl
theorem codeObj : Cond.code objectInit ⟨#[0xb1]⟩ 1 none ∈ wsC := wsC_of (List.mem_append_right _ (List.mem_of_getElem? (i := 18) rfl)) rfl
theorem iX3_init : Cond.instanceMethod yX3_init ∈ wsC := wsC_of (List.mem_append_right _ (List.mem_of_getElem? (i := 24) rfl)) rfl
theorem kX3_init : Cond.code yX3_init cX3_init 1 (none) ∈ wsC := wsC_of (List.mem_append_right _ (List.mem_of_getElem? (i := 25) rfl)) rfl
theorem mX3_3 : Cond.methodLink RX3 3 objectInit ∈ wsC := wsC_of (List.mem_append_right _ (List.mem_of_getElem? (i := 26) rfl)) rfl
theorem fX3_39 : Cond.fieldLink RX3 39 (TX3 0).1 (TX3 0).2.1 (TX3 0).2.2.1 ∈ wsC := wsC_of (List.mem_append_right _ (List.mem_of_getElem? (i := 29) rfl)) rfl
theorem fX5_81 : Cond.fieldLink RX5 81 (TX3 0).1 (TX3 0).2.1 (TX3 0).2.2.1 ∈ wsC := wsC_of (List.mem_append_right _ (List.mem_of_getElem? (i := 30) rfl)) rfl
theorem fX3_11 : Cond.fieldLink RX3 11 (TX3 1).1 (TX3 1).2.1 (TX3 1).2.2.1 ∈ wsC := wsC_of (List.mem_append_right _ (List.mem_of_getElem? (i := 31) rfl)) rfl
theorem fX3_15 : Cond.fieldLink RX3 15 (TX3 2).1 (TX3 2).2.1 (TX3 2).2.2.1 ∈ wsC := wsC_of (List.mem_append_right _ (List.mem_of_getElem? (i := 32) rfl)) rfl
theorem fX3_18 : Cond.fieldLink RX3 18 (TX3 3).1 (TX3 3).2.1 (TX3 3).2.2.1 ∈ wsC := wsC_of (List.mem_append_right _ (List.mem_of_getElem? (i := 33) rfl)) rfl
theorem fX3_21 : Cond.fieldLink RX3 21 (TX3 4).1 (TX3 4).2.1 (TX3 4).2.2.1 ∈ wsC := wsC_of (List.mem_append_right _ (List.mem_of_getElem? (i := 34) rfl)) rfl
theorem fX3_26 : Cond.fieldLink RX3 26 (TX3 5).1 (TX3 5).2.1 (TX3 5).2.2.1 ∈ wsC := wsC_of (List.mem_append_right _ (List.mem_of_getElem? (i := 35) rfl)) rfl
theorem iX2_init : Cond.instanceMethod yX2_init ∈ wsC := wsC_of (List.mem_append_right _ (List.mem_of_getElem? (i := 53) rfl)) rfl
theorem kX2_init : Cond.code yX2_init cX2_init 1 (none) ∈ wsC := wsC_of (List.mem_append_right _ (List.mem_of_getElem? (i := 54) rfl)) rfl
theorem mX2_3 : Cond.methodLink RX2 3 objectInit ∈ wsC := wsC_of (List.mem_append_right _ (List.mem_of_getElem? (i := 55) rfl)) rfl
theorem fX2_9 : Cond.fieldLink RX2 9 (TX2 0).1 (TX2 0).2.1 (TX2 0).2.2.1 ∈ wsC := wsC_of (List.mem_append_right _ (List.mem_of_getElem? (i := 56) rfl)) rfl
theorem fX4_37 : Cond.fieldLink RX4 37 (TX2 0).1 (TX2 0).2.1 (TX2 0).2.2.1 ∈ wsC := wsC_of (List.mem_append_right _ (List.mem_of_getElem? (i := 57) rfl)) rfl
theorem fX5_100 : Cond.fieldLink RX5 100 (TX2 0).1 (TX2 0).2.1 (TX2 0).2.2.1 ∈ wsC := wsC_of (List.mem_append_right _ (List.mem_of_getElem? (i := 58) rfl)) rfl
theorem iX4_init : Cond.instanceMethod yX4_init ∈ wsC := wsC_of (List.mem_append_right _ (List.mem_of_getElem? (i := 65) rfl)) rfl
theorem kX4_init : Cond.code yX4_init cX4_init 1 (none) ∈ wsC := wsC_of (List.mem_append_right _ (List.mem_of_getElem? (i := 66) rfl)) rfl
theorem mX4_1 : Cond.methodLink RX4 1 objectInit ∈ wsC := wsC_of (List.mem_append_right _ (List.mem_of_getElem? (i := 67) rfl)) rfl
theorem fX4_10 : Cond.fieldLink RX4 10 (TX4 0).1 (TX4 0).2.1 (TX4 0).2.2.1 ∈ wsC := wsC_of (List.mem_append_right _ (List.mem_of_getElem? (i := 70) rfl)) rfl
theorem iX0_init : Cond.instanceMethod yX0_init ∈ wsC := wsC_of (List.mem_append_right _ (List.mem_of_getElem? (i := 77) rfl)) rfl
theorem kX0_init : Cond.code yX0_init cX0_init 1 (none) ∈ wsC := wsC_of (List.mem_append_right _ (List.mem_of_getElem? (i := 78) rfl)) rfl
theorem mX0_3 : Cond.methodLink RX0 3 objectInit ∈ wsC := wsC_of (List.mem_append_right _ (List.mem_of_getElem? (i := 79) rfl)) rfl
theorem fX0_11 : Cond.fieldLink RX0 11 (TX0 0).1 (TX0 0).2.1 (TX0 0).2.2.1 ∈ wsC := wsC_of (List.mem_append_right _ (List.mem_of_getElem? (i := 82) rfl)) rfl
theorem fX0_16 : Cond.fieldLink RX0 16 (TX0 1).1 (TX0 1).2.1 (TX0 1).2.2.1 ∈ wsC := wsC_of (List.mem_append_right _ (List.mem_of_getElem? (i := 83) rfl)) rfl
theorem fX0_20 : Cond.fieldLink RX0 20 (TX0 2).1 (TX0 2).2.1 (TX0 2).2.2.1 ∈ wsC := wsC_of (List.mem_append_right _ (List.mem_of_getElem? (i := 84) rfl)) rfl
theorem fX0_23 : Cond.fieldLink RX0 23 (TX0 3).1 (TX0 3).2.1 (TX0 3).2.2.1 ∈ wsC := wsC_of (List.mem_append_right _ (List.mem_of_getElem? (i := 85) rfl)) rfl
theorem iX1_init : Cond.instanceMethod yX1_init ∈ wsC := wsC_of (List.mem_append_right _ (List.mem_of_getElem? (i := 98) rfl)) rfl
theorem kX1_init : Cond.code yX1_init cX1_init 1 (none) ∈ wsC := wsC_of (List.mem_append_right _ (List.mem_of_getElem? (i := 99) rfl)) rfl
theorem mX1_3 : Cond.methodLink RX1 3 objectInit ∈ wsC := wsC_of (List.mem_append_right _ (List.mem_of_getElem? (i := 100) rfl)) rfl
theorem fX1_9 : Cond.fieldLink RX1 9 (TX1 0).1 (TX1 0).2.1 (TX1 0).2.2.1 ∈ wsC := wsC_of (List.mem_append_right _ (List.mem_of_getElem? (i := 102) rfl)) rfl
theorem fX3_29 : Cond.fieldLink RX3 29 (TX1 0).1 (TX1 0).2.1 (TX1 0).2.2.1 ∈ wsC := wsC_of (List.mem_append_right _ (List.mem_of_getElem? (i := 103) rfl)) rfl
theorem fX4_16 : Cond.fieldLink RX4 16 (TX1 0).1 (TX1 0).2.1 (TX1 0).2.2.1 ∈ wsC := wsC_of (List.mem_append_right _ (List.mem_of_getElem? (i := 104) rfl)) rfl
theorem fX0_40 : Cond.fieldLink RX0 40 (TX1 0).1 (TX1 0).2.1 (TX1 0).2.2.1 ∈ wsC := wsC_of (List.mem_append_right _ (List.mem_of_getElem? (i := 105) rfl)) rfl
theorem fX2_23 : Cond.fieldLink RX2 23 (TX1 0).1 (TX1 0).2.1 (TX1 0).2.2.1 ∈ wsC := wsC_of (List.mem_append_right _ (List.mem_of_getElem? (i := 106) rfl)) rfl
theorem fX5_131 : Cond.fieldLink RX5 131 (TX1 0).1 (TX1 0).2.1 (TX1 0).2.2.1 ∈ wsC := wsC_of (List.mem_append_right _ (List.mem_of_getElem? (i := 107) rfl)) rfl
theorem fX1_15 : Cond.fieldLink RX1 15 (TX1 1).1 (TX1 1).2.1 (TX1 1).2.2.1 ∈ wsC := wsC_of (List.mem_append_right _ (List.mem_of_getElem? (i := 108) rfl)) rfl
theorem fX0_44 : Cond.fieldLink RX0 44 (TX1 1).1 (TX1 1).2.1 (TX1 1).2.2.1 ∈ wsC := wsC_of (List.mem_append_right _ (List.mem_of_getElem? (i := 109) rfl)) rfl
theorem fX3_64 : Cond.fieldLink RX3 64 (TX1 1).1 (TX1 1).2.1 (TX1 1).2.2.1 ∈ wsC := wsC_of (List.mem_append_right _ (List.mem_of_getElem? (i := 110) rfl)) rfl
theorem fX5_64 : Cond.fieldLink RX5 64 (TX1 1).1 (TX1 1).2.1 (TX1 1).2.2.1 ∈ wsC := wsC_of (List.mem_append_right _ (List.mem_of_getElem? (i := 111) rfl)) rfl
theorem fX1_21 : Cond.fieldLink RX1 21 (TX1 2).1 (TX1 2).2.1 (TX1 2).2.2.1 ∈ wsC := wsC_of (List.mem_append_right _ (List.mem_of_getElem? (i := 112) rfl)) rfl
theorem fX5_60 : Cond.fieldLink RX5 60 (TX1 2).1 (TX1 2).2.1 (TX1 2).2.2.1 ∈ wsC := wsC_of (List.mem_append_right _ (List.mem_of_getElem? (i := 113) rfl)) rfl
theorem fX2_32 : Cond.fieldLink RX2 32 (TX1 2).1 (TX1 2).2.1 (TX1 2).2.2.1 ∈ wsC := wsC_of (List.mem_append_right _ (List.mem_of_getElem? (i := 114) rfl)) rfl
theorem fX1_24 : Cond.fieldLink RX1 24 (TX1 3).1 (TX1 3).2.1 (TX1 3).2.2.1 ∈ wsC := wsC_of (List.mem_append_right _ (List.mem_of_getElem? (i := 115) rfl)) rfl
theorem fX3_49 : Cond.fieldLink RX3 49 (TX1 3).1 (TX1 3).2.1 (TX1 3).2.2.1 ∈ wsC := wsC_of (List.mem_append_right _ (List.mem_of_getElem? (i := 116) rfl)) rfl
theorem fX2_29 : Cond.fieldLink RX2 29 (TX1 3).1 (TX1 3).2.1 (TX1 3).2.2.1 ∈ wsC := wsC_of (List.mem_append_right _ (List.mem_of_getElem? (i := 117) rfl)) rfl
theorem fX5_85 : Cond.fieldLink RX5 85 (TX1 3).1 (TX1 3).2.1 (TX1 3).2.2.1 ∈ wsC := wsC_of (List.mem_append_right _ (List.mem_of_getElem? (i := 118) rfl)) rfl
theorem fX1_27 : Cond.fieldLink RX1 27 (TX1 4).1 (TX1 4).2.1 (TX1 4).2.2.1 ∈ wsC := wsC_of (List.mem_append_right _ (List.mem_of_getElem? (i := 119) rfl)) rfl
theorem fX4_22 : Cond.fieldLink RX4 22 (TX1 4).1 (TX1 4).2.1 (TX1 4).2.2.1 ∈ wsC := wsC_of (List.mem_append_right _ (List.mem_of_getElem? (i := 120) rfl)) rfl
theorem fX5_113 : Cond.fieldLink RX5 113 (TX1 4).1 (TX1 4).2.1 (TX1 4).2.2.1 ∈ wsC := wsC_of (List.mem_append_right _ (List.mem_of_getElem? (i := 121) rfl)) rfl
theorem fX4_26 : Cond.fieldLink RX4 26 (TX1 5).1 (TX1 5).2.1 (TX1 5).2.2.1 ∈ wsC := wsC_of (List.mem_append_right _ (List.mem_of_getElem? (i := 122) rfl)) rfl
theorem fX5_110 : Cond.fieldLink RX5 110 (TX1 5).1 (TX1 5).2.1 (TX1 5).2.2.1 ∈ wsC := wsC_of (List.mem_append_right _ (List.mem_of_getElem? (i := 123) rfl)) rfl
theorem fX5_141 : Cond.fieldLink RX5 141 (TX1 6).1 (TX1 6).2.1 (TX1 6).2.2.1 ∈ wsC := wsC_of (List.mem_append_right _ (List.mem_of_getElem? (i := 124) rfl)) rfl
theorem fX1_30 : Cond.fieldLink RX1 30 (TX1 7).1 (TX1 7).2.1 (TX1 7).2.2.1 ∈ wsC := wsC_of (List.mem_append_right _ (List.mem_of_getElem? (i := 125) rfl)) rfl
theorem fX0_27 : Cond.fieldLink RX0 27 (TX1 7).1 (TX1 7).2.1 (TX1 7).2.2.1 ∈ wsC := wsC_of (List.mem_append_right _ (List.mem_of_getElem? (i := 126) rfl)) rfl
theorem fX5_127 : Cond.fieldLink RX5 127 (TX1 7).1 (TX1 7).2.1 (TX1 7).2.2.1 ∈ wsC := wsC_of (List.mem_append_right _ (List.mem_of_getElem? (i := 127) rfl)) rfl
theorem fX5_144 : Cond.fieldLink RX5 144 (TX1 8).1 (TX1 8).2.1 (TX1 8).2.2.1 ∈ wsC := wsC_of (List.mem_append_right _ (List.mem_of_getElem? (i := 128) rfl)) rfl
theorem fX5_9 : Cond.fieldLink RX5 9 (TX5 0).1 (TX5 0).2.1 (TX5 0).2.2.1 ∈ wsC := wsC_of (List.mem_append_right _ (List.mem_of_getElem? (i := 148) rfl)) rfl
theorem fX5_18 : Cond.fieldLink RX5 18 (TX5 1).1 (TX5 1).2.1 (TX5 1).2.2.1 ∈ wsC := wsC_of (List.mem_append_right _ (List.mem_of_getElem? (i := 149) rfl)) rfl
theorem fX5_25 : Cond.fieldLink RX5 25 (TX5 2).1 (TX5 2).2.1 (TX5 2).2.2.1 ∈ wsC := wsC_of (List.mem_append_right _ (List.mem_of_getElem? (i := 150) rfl)) rfl
theorem fX5_32 : Cond.fieldLink RX5 32 (TX5 3).1 (TX5 3).2.1 (TX5 3).2.2.1 ∈ wsC := wsC_of (List.mem_append_right _ (List.mem_of_getElem? (i := 151) rfl)) rfl
theorem fX5_39 : Cond.fieldLink RX5 39 (TX5 4).1 (TX5 4).2.1 (TX5 4).2.2.1 ∈ wsC := wsC_of (List.mem_append_right _ (List.mem_of_getElem? (i := 152) rfl)) rfl
theorem fX5_147 : Cond.fieldLink RX5 147 (TX5 5).1 (TX5 5).2.1 (TX5 5).2.2.1 ∈ wsC := wsC_of (List.mem_append_right _ (List.mem_of_getElem? (i := 153) rfl)) rfl
theorem fX5_96 : Cond.fieldLink RX5 96 (TX5 6).1 (TX5 6).2.1 (TX5 6).2.2.1 ∈ wsC := wsC_of (List.mem_append_right _ (List.mem_of_getElem? (i := 154) rfl)) rfl
theorem mL_13 : Cond.methodLink RL 13 yX5_begin ∈ wsC := wsC_of (List.mem_append_right _ (List.mem_of_getElem? (i := 170) rfl)) rfl
theorem iX5_begin : Cond.instanceMethod yX5_begin ∈ wsC := wsC_of (List.mem_append_right _ (List.mem_of_getElem? (i := 171) rfl)) rfl
theorem sX5_begin : Cond.selects yX5_begin.cls yX5_begin yX5_begin ∈ wsC := wsC_of (List.mem_append_right _ (List.mem_of_getElem? (i := 172) rfl)) rfl
theorem kX5_begin : Cond.code yX5_begin cX5_begin 2 (some .int) ∈ wsC := wsC_of (List.mem_append_right _ (List.mem_of_getElem? (i := 173) rfl)) rfl
theorem mX5_44 : Cond.methodLink RX5 44 yX1_empty ∈ wsC := wsC_of (List.mem_append_right _ (List.mem_of_getElem? (i := 174) rfl)) rfl
theorem iX1_empty : Cond.instanceMethod yX1_empty ∈ wsC := wsC_of (List.mem_append_right _ (List.mem_of_getElem? (i := 175) rfl)) rfl
theorem sX1_empty : Cond.selects yX1_empty.cls yX1_empty yX1_empty ∈ wsC := wsC_of (List.mem_append_right _ (List.mem_of_getElem? (i := 176) rfl)) rfl
theorem kX1_empty : Cond.code yX1_empty cX1_empty 3 (none) ∈ wsC := wsC_of (List.mem_append_right _ (List.mem_of_getElem? (i := 177) rfl)) rfl
theorem mX1_34 : Cond.methodLink RX1 34 yJ7_fill_53178 ∈ wsC := wsC_of (List.mem_append_right _ (List.mem_of_getElem? (i := 178) rfl)) rfl
theorem tJ7_fill_53178 : Cond.static yJ7_fill_53178 ∈ wsC := wsC_of (List.mem_append_right _ (List.mem_of_getElem? (i := 179) rfl)) rfl
theorem kJ7_fill_53178 : Cond.code yJ7_fill_53178 cJ7_fill_53178 4 (none) ∈ wsC := wsC_of (List.mem_append_right _ (List.mem_of_getElem? (i := 180) rfl)) rfl
theorem mX5_48 : Cond.methodLink RX5 48 yX5_noteChange ∈ wsC := wsC_of (List.mem_append_right _ (List.mem_of_getElem? (i := 181) rfl)) rfl
theorem iX5_noteChange : Cond.instanceMethod yX5_noteChange ∈ wsC := wsC_of (List.mem_append_right _ (List.mem_of_getElem? (i := 183) rfl)) rfl
theorem kX5_noteChange : Cond.code yX5_noteChange cX5_noteChange 2 (none) ∈ wsC := wsC_of (List.mem_append_right _ (List.mem_of_getElem? (i := 184) rfl)) rfl
theorem mL_18 : Cond.methodLink RL 18 yX5_label ∈ wsC := wsC_of (List.mem_append_right _ (List.mem_of_getElem? (i := 185) rfl)) rfl
theorem iX5_label : Cond.instanceMethod yX5_label ∈ wsC := wsC_of (List.mem_append_right _ (List.mem_of_getElem? (i := 186) rfl)) rfl
theorem sX5_label : Cond.selects yX5_label.cls yX5_label yX5_label ∈ wsC := wsC_of (List.mem_append_right _ (List.mem_of_getElem? (i := 187) rfl)) rfl
theorem kX5_label : Cond.code yX5_label cX5_label 7 (some .int) ∈ wsC := wsC_of (List.mem_append_right _ (List.mem_of_getElem? (i := 188) rfl)) rfl
theorem mX5_52 : Cond.methodLink RX5 52 yX5_isVertex ∈ wsC := wsC_of (List.mem_append_right _ (List.mem_of_getElem? (i := 189) rfl)) rfl
theorem iX5_isVertex : Cond.instanceMethod yX5_isVertex ∈ wsC := wsC_of (List.mem_append_right _ (List.mem_of_getElem? (i := 191) rfl)) rfl
theorem kX5_isVertex : Cond.code yX5_isVertex cX5_isVertex 3 (some .boolean) ∈ wsC := wsC_of (List.mem_append_right _ (List.mem_of_getElem? (i := 192) rfl)) rfl
theorem mX5_72 : Cond.methodLink RX5 72 yX5_isGraph ∈ wsC := wsC_of (List.mem_append_right _ (List.mem_of_getElem? (i := 193) rfl)) rfl
theorem tX5_isGraph : Cond.static yX5_isGraph ∈ wsC := wsC_of (List.mem_append_right _ (List.mem_of_getElem? (i := 194) rfl)) rfl
theorem kX5_isGraph : Cond.code yX5_isGraph cX5_isGraph 1 (some .boolean) ∈ wsC := wsC_of (List.mem_append_right _ (List.mem_of_getElem? (i := 195) rfl)) rfl
theorem mX5_56 : Cond.methodLink RX5 56 yX5_isMark ∈ wsC := wsC_of (List.mem_append_right _ (List.mem_of_getElem? (i := 196) rfl)) rfl
theorem tX5_isMark : Cond.static yX5_isMark ∈ wsC := wsC_of (List.mem_append_right _ (List.mem_of_getElem? (i := 197) rfl)) rfl
theorem kX5_isMark : Cond.code yX5_isMark cX5_isMark 1 (some .boolean) ∈ wsC := wsC_of (List.mem_append_right _ (List.mem_of_getElem? (i := 198) rfl)) rfl
theorem mL_23 : Cond.methodLink RL 23 yX5_tint ∈ wsC := wsC_of (List.mem_append_right _ (List.mem_of_getElem? (i := 199) rfl)) rfl
theorem iX5_tint : Cond.instanceMethod yX5_tint ∈ wsC := wsC_of (List.mem_append_right _ (List.mem_of_getElem? (i := 200) rfl)) rfl
theorem sX5_tint : Cond.selects yX5_tint.cls yX5_tint yX5_tint ∈ wsC := wsC_of (List.mem_append_right _ (List.mem_of_getElem? (i := 201) rfl)) rfl
theorem kX5_tint : Cond.code yX5_tint cX5_tint 6 (some .int) ∈ wsC := wsC_of (List.mem_append_right _ (List.mem_of_getElem? (i := 202) rfl)) rfl
theorem mL_28 : Cond.methodLink RL 28 yX5_exchange ∈ wsC := wsC_of (List.mem_append_right _ (List.mem_of_getElem? (i := 203) rfl)) rfl
theorem iX5_exchange : Cond.instanceMethod yX5_exchange ∈ wsC := wsC_of (List.mem_append_right _ (List.mem_of_getElem? (i := 204) rfl)) rfl
theorem sX5_exchange : Cond.selects yX5_exchange.cls yX5_exchange yX5_exchange ∈ wsC := wsC_of (List.mem_append_right _ (List.mem_of_getElem? (i := 205) rfl)) rfl
theorem kX5_exchange : Cond.code yX5_exchange cX5_exchange 4 (some .int) ∈ wsC := wsC_of (List.mem_append_right _ (List.mem_of_getElem? (i := 206) rfl)) rfl
theorem mX5_68 : Cond.methodLink RX5 68 yX1_swap ∈ wsC := wsC_of (List.mem_append_right _ (List.mem_of_getElem? (i := 207) rfl)) rfl
theorem iX1_swap : Cond.instanceMethod yX1_swap ∈ wsC := wsC_of (List.mem_append_right _ (List.mem_of_getElem? (i := 208) rfl)) rfl
theorem sX1_swap : Cond.selects yX1_swap.cls yX1_swap yX1_swap ∈ wsC := wsC_of (List.mem_append_right _ (List.mem_of_getElem? (i := 209) rfl)) rfl
theorem kX1_swap : Cond.code yX1_swap cX1_swap 6 (none) ∈ wsC := wsC_of (List.mem_append_right _ (List.mem_of_getElem? (i := 210) rfl)) rfl
theorem mL_32 : Cond.methodLink RL 32 yX5_copy ∈ wsC := wsC_of (List.mem_append_right _ (List.mem_of_getElem? (i := 211) rfl)) rfl
theorem iX5_copy : Cond.instanceMethod yX5_copy ∈ wsC := wsC_of (List.mem_append_right _ (List.mem_of_getElem? (i := 212) rfl)) rfl
theorem sX5_copy : Cond.selects yX5_copy.cls yX5_copy yX5_copy ∈ wsC := wsC_of (List.mem_append_right _ (List.mem_of_getElem? (i := 213) rfl)) rfl
theorem kX5_copy : Cond.code yX5_copy cX5_copy 2 (some .int) ∈ wsC := wsC_of (List.mem_append_right _ (List.mem_of_getElem? (i := 214) rfl)) rfl
theorem mX5_75 : Cond.methodLink RX5 75 yX1_become ∈ wsC := wsC_of (List.mem_append_right _ (List.mem_of_getElem? (i := 215) rfl)) rfl
theorem iX1_become : Cond.instanceMethod yX1_become ∈ wsC := wsC_of (List.mem_append_right _ (List.mem_of_getElem? (i := 216) rfl)) rfl
theorem sX1_become : Cond.selects yX1_become.cls yX1_become yX1_become ∈ wsC := wsC_of (List.mem_append_right _ (List.mem_of_getElem? (i := 217) rfl)) rfl
theorem kX1_become : Cond.code yX1_become cX1_become 3 (none) ∈ wsC := wsC_of (List.mem_append_right _ (List.mem_of_getElem? (i := 218) rfl)) rfl
theorem mX1_40 : Cond.methodLink RX1 40 arraycopyName ∈ wsC := wsC_of (List.mem_append_right _ (List.mem_of_getElem? (i := 219) rfl)) rfl
theorem tarraycopy : Cond.static arraycopyName ∈ wsC := wsC_of (List.mem_append_right _ (List.mem_of_getElem? (i := 220) rfl)) rfl
theorem narraycopy : Cond.native arraycopyName ∈ wsC := wsC_of (List.mem_append_right _ (List.mem_of_getElem? (i := 221) rfl)) rfl
theorem mL_36 : Cond.methodLink RL 36 yX5_colours ∈ wsC := wsC_of (List.mem_append_right _ (List.mem_of_getElem? (i := 222) rfl)) rfl
theorem iX5_colours : Cond.instanceMethod yX5_colours ∈ wsC := wsC_of (List.mem_append_right _ (List.mem_of_getElem? (i := 223) rfl)) rfl
theorem sX5_colours : Cond.selects yX5_colours.cls yX5_colours yX5_colours ∈ wsC := wsC_of (List.mem_append_right _ (List.mem_of_getElem? (i := 224) rfl)) rfl
theorem kX5_colours : Cond.code yX5_colours cX5_colours 1 (some .int) ∈ wsC := wsC_of (List.mem_append_right _ (List.mem_of_getElem? (i := 225) rfl)) rfl
theorem mX5_78 : Cond.methodLink RX5 78 yX5_paintGraphs ∈ wsC := wsC_of (List.mem_append_right _ (List.mem_of_getElem? (i := 226) rfl)) rfl
theorem iX5_paintGraphs : Cond.instanceMethod yX5_paintGraphs ∈ wsC := wsC_of (List.mem_append_right _ (List.mem_of_getElem? (i := 228) rfl)) rfl
theorem kX5_paintGraphs : Cond.code yX5_paintGraphs cX5_paintGraphs 1 (none) ∈ wsC := wsC_of (List.mem_append_right _ (List.mem_of_getElem? (i := 229) rfl)) rfl
theorem mX5_150 : Cond.methodLink RX5 150 yX3_paint ∈ wsC := wsC_of (List.mem_append_right _ (List.mem_of_getElem? (i := 230) rfl)) rfl
theorem iX3_paint : Cond.instanceMethod yX3_paint ∈ wsC := wsC_of (List.mem_append_right _ (List.mem_of_getElem? (i := 231) rfl)) rfl
theorem sX3_paint : Cond.selects yX3_paint.cls yX3_paint yX3_paint ∈ wsC := wsC_of (List.mem_append_right _ (List.mem_of_getElem? (i := 232) rfl)) rfl
theorem kX3_paint : Cond.code yX3_paint cX3_paint 5 (none) ∈ wsC := wsC_of (List.mem_append_right _ (List.mem_of_getElem? (i := 233) rfl)) rfl
theorem mX3_35 : Cond.methodLink RX3 35 yX3_paintTints ∈ wsC := wsC_of (List.mem_append_right _ (List.mem_of_getElem? (i := 234) rfl)) rfl
theorem iX3_paintTints : Cond.instanceMethod yX3_paintTints ∈ wsC := wsC_of (List.mem_append_right _ (List.mem_of_getElem? (i := 236) rfl)) rfl
theorem kX3_paintTints : Cond.code yX3_paintTints cX3_paintTints 4 (none) ∈ wsC := wsC_of (List.mem_append_right _ (List.mem_of_getElem? (i := 237) rfl)) rfl
theorem mX3_45 : Cond.methodLink RX3 45 yX3_renumber ∈ wsC := wsC_of (List.mem_append_right _ (List.mem_of_getElem? (i := 238) rfl)) rfl
theorem iX3_renumber : Cond.instanceMethod yX3_renumber ∈ wsC := wsC_of (List.mem_append_right _ (List.mem_of_getElem? (i := 240) rfl)) rfl
theorem kX3_renumber : Cond.code yX3_renumber cX3_renumber 5 (none) ∈ wsC := wsC_of (List.mem_append_right _ (List.mem_of_getElem? (i := 241) rfl)) rfl
theorem mX3_75 : Cond.methodLink RX3 75 yX3_sortSpots ∈ wsC := wsC_of (List.mem_append_right _ (List.mem_of_getElem? (i := 242) rfl)) rfl
theorem iX3_sortSpots : Cond.instanceMethod yX3_sortSpots ∈ wsC := wsC_of (List.mem_append_right _ (List.mem_of_getElem? (i := 244) rfl)) rfl
theorem kX3_sortSpots : Cond.code yX3_sortSpots cX3_sortSpots 6 (none) ∈ wsC := wsC_of (List.mem_append_right _ (List.mem_of_getElem? (i := 245) rfl)) rfl
theorem mX3_78 : Cond.methodLink RX3 78 yX3_difference ∈ wsC := wsC_of (List.mem_append_right _ (List.mem_of_getElem? (i := 246) rfl)) rfl
theorem iX3_difference : Cond.instanceMethod yX3_difference ∈ wsC := wsC_of (List.mem_append_right _ (List.mem_of_getElem? (i := 248) rfl)) rfl
theorem kX3_difference : Cond.code yX3_difference cX3_difference 5 (some .int) ∈ wsC := wsC_of (List.mem_append_right _ (List.mem_of_getElem? (i := 249) rfl)) rfl
theorem mX3_52 : Cond.methodLink RX3 52 arraycopyName ∈ wsC := wsC_of (List.mem_append_right _ (List.mem_of_getElem? (i := 250) rfl)) rfl
theorem mX3_42 : Cond.methodLink RX3 42 yX3_gatherKeys ∈ wsC := wsC_of (List.mem_append_right _ (List.mem_of_getElem? (i := 251) rfl)) rfl
theorem iX3_gatherKeys : Cond.instanceMethod yX3_gatherKeys ∈ wsC := wsC_of (List.mem_append_right _ (List.mem_of_getElem? (i := 253) rfl)) rfl
theorem kX3_gatherKeys : Cond.code yX3_gatherKeys cX3_gatherKeys 4 (none) ∈ wsC := wsC_of (List.mem_append_right _ (List.mem_of_getElem? (i := 254) rfl)) rfl
theorem mX3_67 : Cond.methodLink RX3 67 yX3_gatherKeysOf ∈ wsC := wsC_of (List.mem_append_right _ (List.mem_of_getElem? (i := 255) rfl)) rfl
theorem iX3_gatherKeysOf : Cond.instanceMethod yX3_gatherKeysOf ∈ wsC := wsC_of (List.mem_append_right _ (List.mem_of_getElem? (i := 257) rfl)) rfl
theorem kX3_gatherKeysOf : Cond.code yX3_gatherKeysOf cX3_gatherKeysOf 9 (none) ∈ wsC := wsC_of (List.mem_append_right _ (List.mem_of_getElem? (i := 258) rfl)) rfl
theorem mX3_71 : Cond.methodLink RX3 71 yX1_pair ∈ wsC := wsC_of (List.mem_append_right _ (List.mem_of_getElem? (i := 259) rfl)) rfl
theorem iX1_pair : Cond.instanceMethod yX1_pair ∈ wsC := wsC_of (List.mem_append_right _ (List.mem_of_getElem? (i := 260) rfl)) rfl
theorem sX1_pair : Cond.selects yX1_pair.cls yX1_pair yX1_pair ∈ wsC := wsC_of (List.mem_append_right _ (List.mem_of_getElem? (i := 261) rfl)) rfl
theorem kX1_pair : Cond.code yX1_pair cX1_pair 3 (some .int) ∈ wsC := wsC_of (List.mem_append_right _ (List.mem_of_getElem? (i := 262) rfl)) rfl
theorem mL_41 : Cond.methodLink RL 41 yX5_colour ∈ wsC := wsC_of (List.mem_append_right _ (List.mem_of_getElem? (i := 263) rfl)) rfl
theorem iX5_colour : Cond.instanceMethod yX5_colour ∈ wsC := wsC_of (List.mem_append_right _ (List.mem_of_getElem? (i := 264) rfl)) rfl
theorem sX5_colour : Cond.selects yX5_colour.cls yX5_colour yX5_colour ∈ wsC := wsC_of (List.mem_append_right _ (List.mem_of_getElem? (i := 265) rfl)) rfl
theorem kX5_colour : Cond.code yX5_colour cX5_colour 3 (some .int) ∈ wsC := wsC_of (List.mem_append_right _ (List.mem_of_getElem? (i := 266) rfl)) rfl
theorem mL_46 : Cond.methodLink RL 46 yX5_twins ∈ wsC := wsC_of (List.mem_append_right _ (List.mem_of_getElem? (i := 267) rfl)) rfl
theorem iX5_twins : Cond.instanceMethod yX5_twins ∈ wsC := wsC_of (List.mem_append_right _ (List.mem_of_getElem? (i := 268) rfl)) rfl
theorem sX5_twins : Cond.selects yX5_twins.cls yX5_twins yX5_twins ∈ wsC := wsC_of (List.mem_append_right _ (List.mem_of_getElem? (i := 269) rfl)) rfl
theorem kX5_twins : Cond.code yX5_twins cX5_twins 1 (some .int) ∈ wsC := wsC_of (List.mem_append_right _ (List.mem_of_getElem? (i := 270) rfl)) rfl
theorem mX5_88 : Cond.methodLink RX5 88 yX3_paintsAlike ∈ wsC := wsC_of (List.mem_append_right _ (List.mem_of_getElem? (i := 271) rfl)) rfl
theorem iX3_paintsAlike : Cond.instanceMethod yX3_paintsAlike ∈ wsC := wsC_of (List.mem_append_right _ (List.mem_of_getElem? (i := 272) rfl)) rfl
theorem sX3_paintsAlike : Cond.selects yX3_paintsAlike.cls yX3_paintsAlike yX3_paintsAlike ∈ wsC := wsC_of (List.mem_append_right _ (List.mem_of_getElem? (i := 273) rfl)) rfl
theorem kX3_paintsAlike : Cond.code yX3_paintsAlike cX3_paintsAlike 3 (some .boolean) ∈ wsC := wsC_of (List.mem_append_right _ (List.mem_of_getElem? (i := 274) rfl)) rfl
theorem mX3_58 : Cond.methodLink RX3 58 yJ7_fill_53178 ∈ wsC := wsC_of (List.mem_append_right _ (List.mem_of_getElem? (i := 275) rfl)) rfl
theorem mX5_92 : Cond.methodLink RX5 92 yX2_findFirst ∈ wsC := wsC_of (List.mem_append_right _ (List.mem_of_getElem? (i := 276) rfl)) rfl
theorem iX2_findFirst : Cond.instanceMethod yX2_findFirst ∈ wsC := wsC_of (List.mem_append_right _ (List.mem_of_getElem? (i := 277) rfl)) rfl
theorem sX2_findFirst : Cond.selects yX2_findFirst.cls yX2_findFirst yX2_findFirst ∈ wsC := wsC_of (List.mem_append_right _ (List.mem_of_getElem? (i := 278) rfl)) rfl
theorem kX2_findFirst : Cond.code yX2_findFirst cX2_findFirst 3 (some .boolean) ∈ wsC := wsC_of (List.mem_append_right _ (List.mem_of_getElem? (i := 279) rfl)) rfl
theorem mX2_15 : Cond.methodLink RX2 15 yX2_place ∈ wsC := wsC_of (List.mem_append_right _ (List.mem_of_getElem? (i := 280) rfl)) rfl
theorem iX2_place : Cond.instanceMethod yX2_place ∈ wsC := wsC_of (List.mem_append_right _ (List.mem_of_getElem? (i := 282) rfl)) rfl
theorem kX2_place : Cond.code yX2_place cX2_place 8 (some .boolean) ∈ wsC := wsC_of (List.mem_append_right _ (List.mem_of_getElem? (i := 283) rfl)) rfl
theorem mX2_19 : Cond.methodLink RX2 19 yX2_fits ∈ wsC := wsC_of (List.mem_append_right _ (List.mem_of_getElem? (i := 284) rfl)) rfl
theorem iX2_fits : Cond.instanceMethod yX2_fits ∈ wsC := wsC_of (List.mem_append_right _ (List.mem_of_getElem? (i := 286) rfl)) rfl
theorem kX2_fits : Cond.code yX2_fits cX2_fits 7 (some .boolean) ∈ wsC := wsC_of (List.mem_append_right _ (List.mem_of_getElem? (i := 287) rfl)) rfl
theorem mL_50 : Cond.methodLink RL 50 yX5_image ∈ wsC := wsC_of (List.mem_append_right _ (List.mem_of_getElem? (i := 288) rfl)) rfl
theorem iX5_image : Cond.instanceMethod yX5_image ∈ wsC := wsC_of (List.mem_append_right _ (List.mem_of_getElem? (i := 289) rfl)) rfl
theorem sX5_image : Cond.selects yX5_image.cls yX5_image yX5_image ∈ wsC := wsC_of (List.mem_append_right _ (List.mem_of_getElem? (i := 290) rfl)) rfl
theorem kX5_image : Cond.code yX5_image cX5_image 2 (some .int) ∈ wsC := wsC_of (List.mem_append_right _ (List.mem_of_getElem? (i := 291) rfl)) rfl
theorem mL_54 : Cond.methodLink RL 54 yX5_next ∈ wsC := wsC_of (List.mem_append_right _ (List.mem_of_getElem? (i := 292) rfl)) rfl
theorem iX5_next : Cond.instanceMethod yX5_next ∈ wsC := wsC_of (List.mem_append_right _ (List.mem_of_getElem? (i := 293) rfl)) rfl
theorem sX5_next : Cond.selects yX5_next.cls yX5_next yX5_next ∈ wsC := wsC_of (List.mem_append_right _ (List.mem_of_getElem? (i := 294) rfl)) rfl
theorem kX5_next : Cond.code yX5_next cX5_next 1 (some .int) ∈ wsC := wsC_of (List.mem_append_right _ (List.mem_of_getElem? (i := 295) rfl)) rfl
theorem mX5_103 : Cond.methodLink RX5 103 yX2_findNext ∈ wsC := wsC_of (List.mem_append_right _ (List.mem_of_getElem? (i := 296) rfl)) rfl
theorem iX2_findNext : Cond.instanceMethod yX2_findNext ∈ wsC := wsC_of (List.mem_append_right _ (List.mem_of_getElem? (i := 297) rfl)) rfl
theorem sX2_findNext : Cond.selects yX2_findNext.cls yX2_findNext yX2_findNext ∈ wsC := wsC_of (List.mem_append_right _ (List.mem_of_getElem? (i := 298) rfl)) rfl
theorem kX2_findNext : Cond.code yX2_findNext cX2_findNext 3 (some .boolean) ∈ wsC := wsC_of (List.mem_append_right _ (List.mem_of_getElem? (i := 299) rfl)) rfl
theorem mL_58 : Cond.methodLink RL 58 yX5_symmetries ∈ wsC := wsC_of (List.mem_append_right _ (List.mem_of_getElem? (i := 300) rfl)) rfl
theorem iX5_symmetries : Cond.instanceMethod yX5_symmetries ∈ wsC := wsC_of (List.mem_append_right _ (List.mem_of_getElem? (i := 301) rfl)) rfl
theorem sX5_symmetries : Cond.selects yX5_symmetries.cls yX5_symmetries yX5_symmetries ∈ wsC := wsC_of (List.mem_append_right _ (List.mem_of_getElem? (i := 302) rfl)) rfl
theorem kX5_symmetries : Cond.code yX5_symmetries cX5_symmetries 2 (some .int) ∈ wsC := wsC_of (List.mem_append_right _ (List.mem_of_getElem? (i := 303) rfl)) rfl
theorem mX5_106 : Cond.methodLink RX5 106 yX5_withSymmetries ∈ wsC := wsC_of (List.mem_append_right _ (List.mem_of_getElem? (i := 304) rfl)) rfl
theorem iX5_withSymmetries : Cond.instanceMethod yX5_withSymmetries ∈ wsC := wsC_of (List.mem_append_right _ (List.mem_of_getElem? (i := 306) rfl)) rfl
theorem kX5_withSymmetries : Cond.code yX5_withSymmetries cX5_withSymmetries 3 (some (.object "GraphTwins$Graph")) ∈ wsC := wsC_of (List.mem_append_right _ (List.mem_of_getElem? (i := 307) rfl)) rfl
theorem mX5_154 : Cond.methodLink RX5 154 yX4_find ∈ wsC := wsC_of (List.mem_append_right _ (List.mem_of_getElem? (i := 308) rfl)) rfl
theorem iX4_find : Cond.instanceMethod yX4_find ∈ wsC := wsC_of (List.mem_append_right _ (List.mem_of_getElem? (i := 309) rfl)) rfl
theorem sX4_find : Cond.selects yX4_find.cls yX4_find yX4_find ∈ wsC := wsC_of (List.mem_append_right _ (List.mem_of_getElem? (i := 310) rfl)) rfl
theorem kX4_find : Cond.code yX4_find cX4_find 5 (none) ∈ wsC := wsC_of (List.mem_append_right _ (List.mem_of_getElem? (i := 311) rfl)) rfl
theorem mX4_29 : Cond.methodLink RX4 29 yX2_findSymmetry ∈ wsC := wsC_of (List.mem_append_right _ (List.mem_of_getElem? (i := 312) rfl)) rfl
theorem iX2_findSymmetry : Cond.instanceMethod yX2_findSymmetry ∈ wsC := wsC_of (List.mem_append_right _ (List.mem_of_getElem? (i := 313) rfl)) rfl
theorem sX2_findSymmetry : Cond.selects yX2_findSymmetry.cls yX2_findSymmetry yX2_findSymmetry ∈ wsC := wsC_of (List.mem_append_right _ (List.mem_of_getElem? (i := 314) rfl)) rfl
theorem kX2_findSymmetry : Cond.code yX2_findSymmetry cX2_findSymmetry 5 (some .boolean) ∈ wsC := wsC_of (List.mem_append_right _ (List.mem_of_getElem? (i := 315) rfl)) rfl
theorem mX4_33 : Cond.methodLink RX4 33 yX4_joinOrbits ∈ wsC := wsC_of (List.mem_append_right _ (List.mem_of_getElem? (i := 316) rfl)) rfl
theorem iX4_joinOrbits : Cond.instanceMethod yX4_joinOrbits ∈ wsC := wsC_of (List.mem_append_right _ (List.mem_of_getElem? (i := 318) rfl)) rfl
theorem kX4_joinOrbits : Cond.code yX4_joinOrbits cX4_joinOrbits 6 (none) ∈ wsC := wsC_of (List.mem_append_right _ (List.mem_of_getElem? (i := 319) rfl)) rfl
theorem mX4_40 : Cond.methodLink RX4 40 yJ9_max_7cf53 ∈ wsC := wsC_of (List.mem_append_right _ (List.mem_of_getElem? (i := 320) rfl)) rfl
theorem tJ9_max_7cf53 : Cond.static yJ9_max_7cf53 ∈ wsC := wsC_of (List.mem_append_right _ (List.mem_of_getElem? (i := 321) rfl)) rfl
theorem kJ9_max_7cf53 : Cond.code yJ9_max_7cf53 cJ9_max_7cf53 2 (some .int) ∈ wsC := wsC_of (List.mem_append_right _ (List.mem_of_getElem? (i := 322) rfl)) rfl
theorem mX4_46 : Cond.methodLink RX4 46 yJ9_min_7cf53 ∈ wsC := wsC_of (List.mem_append_right _ (List.mem_of_getElem? (i := 323) rfl)) rfl
theorem tJ9_min_7cf53 : Cond.static yJ9_min_7cf53 ∈ wsC := wsC_of (List.mem_append_right _ (List.mem_of_getElem? (i := 324) rfl)) rfl
theorem kJ9_min_7cf53 : Cond.code yJ9_min_7cf53 cJ9_min_7cf53 2 (some .int) ∈ wsC := wsC_of (List.mem_append_right _ (List.mem_of_getElem? (i := 325) rfl)) rfl
theorem mX4_49 : Cond.methodLink RX4 49 yX4_replace ∈ wsC := wsC_of (List.mem_append_right _ (List.mem_of_getElem? (i := 326) rfl)) rfl
theorem tX4_replace : Cond.static yX4_replace ∈ wsC := wsC_of (List.mem_append_right _ (List.mem_of_getElem? (i := 327) rfl)) rfl
theorem kX4_replace : Cond.code yX4_replace cX4_replace 5 (none) ∈ wsC := wsC_of (List.mem_append_right _ (List.mem_of_getElem? (i := 328) rfl)) rfl
theorem mL_62 : Cond.methodLink RL 62 yX5_orbit ∈ wsC := wsC_of (List.mem_append_right _ (List.mem_of_getElem? (i := 329) rfl)) rfl
theorem iX5_orbit : Cond.instanceMethod yX5_orbit ∈ wsC := wsC_of (List.mem_append_right _ (List.mem_of_getElem? (i := 330) rfl)) rfl
theorem sX5_orbit : Cond.selects yX5_orbit.cls yX5_orbit yX5_orbit ∈ wsC := wsC_of (List.mem_append_right _ (List.mem_of_getElem? (i := 331) rfl)) rfl
theorem kX5_orbit : Cond.code yX5_orbit cX5_orbit 3 (some .int) ∈ wsC := wsC_of (List.mem_append_right _ (List.mem_of_getElem? (i := 332) rfl)) rfl
theorem mL_66 : Cond.methodLink RL 66 yX5_form ∈ wsC := wsC_of (List.mem_append_right _ (List.mem_of_getElem? (i := 333) rfl)) rfl
theorem iX5_form : Cond.instanceMethod yX5_form ∈ wsC := wsC_of (List.mem_append_right _ (List.mem_of_getElem? (i := 334) rfl)) rfl
theorem sX5_form : Cond.selects yX5_form.cls yX5_form yX5_form ∈ wsC := wsC_of (List.mem_append_right _ (List.mem_of_getElem? (i := 335) rfl)) rfl
theorem kX5_form : Cond.code yX5_form cX5_form 3 (some .int) ∈ wsC := wsC_of (List.mem_append_right _ (List.mem_of_getElem? (i := 336) rfl)) rfl
theorem mX5_116 : Cond.methodLink RX5 116 yX5_formLength ∈ wsC := wsC_of (List.mem_append_right _ (List.mem_of_getElem? (i := 337) rfl)) rfl
theorem iX5_formLength : Cond.instanceMethod yX5_formLength ∈ wsC := wsC_of (List.mem_append_right _ (List.mem_of_getElem? (i := 339) rfl)) rfl
theorem kX5_formLength : Cond.code yX5_formLength cX5_formLength 1 (some .int) ∈ wsC := wsC_of (List.mem_append_right _ (List.mem_of_getElem? (i := 340) rfl)) rfl
theorem mX5_120 : Cond.methodLink RX5 120 yX5_withForm ∈ wsC := wsC_of (List.mem_append_right _ (List.mem_of_getElem? (i := 341) rfl)) rfl
theorem iX5_withForm : Cond.instanceMethod yX5_withForm ∈ wsC := wsC_of (List.mem_append_right _ (List.mem_of_getElem? (i := 343) rfl)) rfl
theorem kX5_withForm : Cond.code yX5_withForm cX5_withForm 3 (some (.object "GraphTwins$Graph")) ∈ wsC := wsC_of (List.mem_append_right _ (List.mem_of_getElem? (i := 344) rfl)) rfl
theorem mX5_157 : Cond.methodLink RX5 157 yX0_find ∈ wsC := wsC_of (List.mem_append_right _ (List.mem_of_getElem? (i := 345) rfl)) rfl
theorem iX0_find : Cond.instanceMethod yX0_find ∈ wsC := wsC_of (List.mem_append_right _ (List.mem_of_getElem? (i := 346) rfl)) rfl
theorem sX0_find : Cond.selects yX0_find.cls yX0_find yX0_find ∈ wsC := wsC_of (List.mem_append_right _ (List.mem_of_getElem? (i := 347) rfl)) rfl
theorem kX0_find : Cond.code yX0_find cX0_find 3 (none) ∈ wsC := wsC_of (List.mem_append_right _ (List.mem_of_getElem? (i := 348) rfl)) rfl
theorem qX0_32 : Cond.constantLong RX0 32 1099511627776 ∈ wsC := wsC_of (List.mem_append_right _ (List.mem_of_getElem? (i := 349) rfl)) rfl
theorem mX0_34 : Cond.methodLink RX0 34 yJ7_fill_d0a16 ∈ wsC := wsC_of (List.mem_append_right _ (List.mem_of_getElem? (i := 350) rfl)) rfl
theorem tJ7_fill_d0a16 : Cond.static yJ7_fill_d0a16 ∈ wsC := wsC_of (List.mem_append_right _ (List.mem_of_getElem? (i := 351) rfl)) rfl
theorem kJ7_fill_d0a16 : Cond.code yJ7_fill_d0a16 cJ7_fill_d0a16 5 (none) ∈ wsC := wsC_of (List.mem_append_right _ (List.mem_of_getElem? (i := 352) rfl)) rfl
theorem mX0_47 : Cond.methodLink RX0 47 yX0_lesserLikes ∈ wsC := wsC_of (List.mem_append_right _ (List.mem_of_getElem? (i := 353) rfl)) rfl
theorem tX0_lesserLikes : Cond.static yX0_lesserLikes ∈ wsC := wsC_of (List.mem_append_right _ (List.mem_of_getElem? (i := 354) rfl)) rfl
theorem kX0_lesserLikes : Cond.code yX0_lesserLikes cX0_lesserLikes 4 (some .int) ∈ wsC := wsC_of (List.mem_append_right _ (List.mem_of_getElem? (i := 355) rfl)) rfl
theorem mX0_55 : Cond.methodLink RX0 55 yX1_isAlike ∈ wsC := wsC_of (List.mem_append_right _ (List.mem_of_getElem? (i := 356) rfl)) rfl
theorem iX1_isAlike : Cond.instanceMethod yX1_isAlike ∈ wsC := wsC_of (List.mem_append_right _ (List.mem_of_getElem? (i := 357) rfl)) rfl
theorem sX1_isAlike : Cond.selects yX1_isAlike.cls yX1_isAlike yX1_isAlike ∈ wsC := wsC_of (List.mem_append_right _ (List.mem_of_getElem? (i := 358) rfl)) rfl
theorem kX1_isAlike : Cond.code yX1_isAlike cX1_isAlike 4 (some .boolean) ∈ wsC := wsC_of (List.mem_append_right _ (List.mem_of_getElem? (i := 359) rfl)) rfl
theorem mX1_46 : Cond.methodLink RX1 46 yX1_pair ∈ wsC := wsC_of (List.mem_append_right _ (List.mem_of_getElem? (i := 360) rfl)) rfl
theorem mX0_51 : Cond.methodLink RX0 51 yX0_write ∈ wsC := wsC_of (List.mem_append_right _ (List.mem_of_getElem? (i := 361) rfl)) rfl
theorem iX0_write : Cond.instanceMethod yX0_write ∈ wsC := wsC_of (List.mem_append_right _ (List.mem_of_getElem? (i := 363) rfl)) rfl
theorem kX0_write : Cond.code yX0_write cX0_write 7 (none) ∈ wsC := wsC_of (List.mem_append_right _ (List.mem_of_getElem? (i := 364) rfl)) rfl
theorem mX0_59 : Cond.methodLink RX0 59 yX0_candidates ∈ wsC := wsC_of (List.mem_append_right _ (List.mem_of_getElem? (i := 365) rfl)) rfl
theorem iX0_candidates : Cond.instanceMethod yX0_candidates ∈ wsC := wsC_of (List.mem_append_right _ (List.mem_of_getElem? (i := 367) rfl)) rfl
theorem kX0_candidates : Cond.code yX0_candidates cX0_candidates 8 (some .int) ∈ wsC := wsC_of (List.mem_append_right _ (List.mem_of_getElem? (i := 368) rfl)) rfl
theorem mX0_63 : Cond.methodLink RX0 63 yX0_bound ∈ wsC := wsC_of (List.mem_append_right _ (List.mem_of_getElem? (i := 369) rfl)) rfl
theorem iX0_bound : Cond.instanceMethod yX0_bound ∈ wsC := wsC_of (List.mem_append_right _ (List.mem_of_getElem? (i := 371) rfl)) rfl
theorem kX0_bound : Cond.code yX0_bound cX0_bound 11 (none) ∈ wsC := wsC_of (List.mem_append_right _ (List.mem_of_getElem? (i := 372) rfl)) rfl
theorem mX0_78 : Cond.methodLink RX0 78 arraycopyName ∈ wsC := wsC_of (List.mem_append_right _ (List.mem_of_getElem? (i := 373) rfl)) rfl
theorem mX0_84 : Cond.methodLink RX0 84 yX0_longerRow ∈ wsC := wsC_of (List.mem_append_right _ (List.mem_of_getElem? (i := 374) rfl)) rfl
theorem iX0_longerRow : Cond.instanceMethod yX0_longerRow ∈ wsC := wsC_of (List.mem_append_right _ (List.mem_of_getElem? (i := 376) rfl)) rfl
theorem kX0_longerRow : Cond.code yX0_longerRow cX0_longerRow 5 (some .long) ∈ wsC := wsC_of (List.mem_append_right _ (List.mem_of_getElem? (i := 377) rfl)) rfl
theorem mX0_88 : Cond.methodLink RX0 88 yX1_pair ∈ wsC := wsC_of (List.mem_append_right _ (List.mem_of_getElem? (i := 378) rfl)) rfl
theorem mX0_67 : Cond.methodLink RX0 67 yX0_leastBounded ∈ wsC := wsC_of (List.mem_append_right _ (List.mem_of_getElem? (i := 379) rfl)) rfl
theorem iX0_leastBounded : Cond.instanceMethod yX0_leastBounded ∈ wsC := wsC_of (List.mem_append_right _ (List.mem_of_getElem? (i := 381) rfl)) rfl
theorem kX0_leastBounded : Cond.code yX0_leastBounded cX0_leastBounded 6 (some .int) ∈ wsC := wsC_of (List.mem_append_right _ (List.mem_of_getElem? (i := 382) rfl)) rfl
theorem mX0_92 : Cond.methodLink RX0 92 yX0_isBoundLess ∈ wsC := wsC_of (List.mem_append_right _ (List.mem_of_getElem? (i := 383) rfl)) rfl
theorem iX0_isBoundLess : Cond.instanceMethod yX0_isBoundLess ∈ wsC := wsC_of (List.mem_append_right _ (List.mem_of_getElem? (i := 385) rfl)) rfl
theorem kX0_isBoundLess : Cond.code yX0_isBoundLess cX0_isBoundLess 6 (some .boolean) ∈ wsC := wsC_of (List.mem_append_right _ (List.mem_of_getElem? (i := 386) rfl)) rfl
theorem tX5_compareRows : Cond.static yX5_compareRows ∈ wsC := wsC_of (List.mem_append_right _ (List.mem_of_getElem? (i := 388) rfl)) rfl
theorem kX5_compareRows : Cond.code yX5_compareRows cX5_compareRows 4 (some .int) ∈ wsC := wsC_of (List.mem_append_right _ (List.mem_of_getElem? (i := 389) rfl)) rfl
theorem mX0_71 : Cond.methodLink RX0 71 yX0_promisesLess ∈ wsC := wsC_of (List.mem_append_right _ (List.mem_of_getElem? (i := 390) rfl)) rfl
theorem iX0_promisesLess : Cond.instanceMethod yX0_promisesLess ∈ wsC := wsC_of (List.mem_append_right _ (List.mem_of_getElem? (i := 392) rfl)) rfl
theorem kX0_promisesLess : Cond.code yX0_promisesLess cX0_promisesLess 4 (some .boolean) ∈ wsC := wsC_of (List.mem_append_right _ (List.mem_of_getElem? (i := 393) rfl)) rfl
theorem mX0_75 : Cond.methodLink RX0 75 yX0_writeVertex ∈ wsC := wsC_of (List.mem_append_right _ (List.mem_of_getElem? (i := 394) rfl)) rfl
theorem iX0_writeVertex : Cond.instanceMethod yX0_writeVertex ∈ wsC := wsC_of (List.mem_append_right _ (List.mem_of_getElem? (i := 396) rfl)) rfl
theorem kX0_writeVertex : Cond.code yX0_writeVertex cX0_writeVertex 7 (none) ∈ wsC := wsC_of (List.mem_append_right _ (List.mem_of_getElem? (i := 397) rfl)) rfl
theorem mX5_123 : Cond.methodLink RX5 123 yX1_formNumber ∈ wsC := wsC_of (List.mem_append_right _ (List.mem_of_getElem? (i := 398) rfl)) rfl
theorem iX1_formNumber : Cond.instanceMethod yX1_formNumber ∈ wsC := wsC_of (List.mem_append_right _ (List.mem_of_getElem? (i := 399) rfl)) rfl
theorem sX1_formNumber : Cond.selects yX1_formNumber.cls yX1_formNumber yX1_formNumber ∈ wsC := wsC_of (List.mem_append_right _ (List.mem_of_getElem? (i := 400) rfl)) rfl
theorem kX1_formNumber : Cond.code yX1_formNumber cX1_formNumber 4 (some .int) ∈ wsC := wsC_of (List.mem_append_right _ (List.mem_of_getElem? (i := 401) rfl)) rfl
theorem mL_70 : Cond.methodLink RL 70 yX5_compare ∈ wsC := wsC_of (List.mem_append_right _ (List.mem_of_getElem? (i := 402) rfl)) rfl
theorem iX5_compare : Cond.instanceMethod yX5_compare ∈ wsC := wsC_of (List.mem_append_right _ (List.mem_of_getElem? (i := 403) rfl)) rfl
theorem sX5_compare : Cond.selects yX5_compare.cls yX5_compare yX5_compare ∈ wsC := wsC_of (List.mem_append_right _ (List.mem_of_getElem? (i := 404) rfl)) rfl
theorem kX5_compare : Cond.code yX5_compare cX5_compare 2 (some .int) ∈ wsC := wsC_of (List.mem_append_right _ (List.mem_of_getElem? (i := 405) rfl)) rfl
theorem mX5_134 : Cond.methodLink RX5 134 yX5_compareRows ∈ wsC := wsC_of (List.mem_append_right _ (List.mem_of_getElem? (i := 406) rfl)) rfl
theorem mL_74 : Cond.methodLink RL 74 yX5_count ∈ wsC := wsC_of (List.mem_append_right _ (List.mem_of_getElem? (i := 407) rfl)) rfl
theorem iX5_count : Cond.instanceMethod yX5_count ∈ wsC := wsC_of (List.mem_append_right _ (List.mem_of_getElem? (i := 408) rfl)) rfl
theorem sX5_count : Cond.selects yX5_count.cls yX5_count yX5_count ∈ wsC := wsC_of (List.mem_append_right _ (List.mem_of_getElem? (i := 409) rfl)) rfl
theorem kX5_count : Cond.code yX5_count cX5_count 2 (some .int) ∈ wsC := wsC_of (List.mem_append_right _ (List.mem_of_getElem? (i := 410) rfl)) rfl
theorem mX5_138 : Cond.methodLink RX5 138 yX1_edges ∈ wsC := wsC_of (List.mem_append_right _ (List.mem_of_getElem? (i := 411) rfl)) rfl
theorem iX1_edges : Cond.instanceMethod yX1_edges ∈ wsC := wsC_of (List.mem_append_right _ (List.mem_of_getElem? (i := 412) rfl)) rfl
theorem sX1_edges : Cond.selects yX1_edges.cls yX1_edges yX1_edges ∈ wsC := wsC_of (List.mem_append_right _ (List.mem_of_getElem? (i := 413) rfl)) rfl
theorem kX1_edges : Cond.code yX1_edges cX1_edges 4 (some .int) ∈ wsC := wsC_of (List.mem_append_right _ (List.mem_of_getElem? (i := 414) rfl)) rfl
theorem mL_12 : Cond.methodLink RL 12 yX6_init ∈ wsC := wsC_of (List.mem_append_right _ (List.mem_of_getElem? (i := 417) rfl)) rfl
theorem iX6_init : Cond.instanceMethod yX6_init ∈ wsC := wsC_of (List.mem_append_right _ (List.mem_of_getElem? (i := 418) rfl)) rfl
theorem kX6_init : Cond.code yX6_init cX6_init 1 (none) ∈ wsC := wsC_of (List.mem_append_right _ (List.mem_of_getElem? (i := 419) rfl)) rfl
theorem mX6_1 : Cond.methodLink RX6 1 objectInit ∈ wsC := wsC_of (List.mem_append_right _ (List.mem_of_getElem? (i := 420) rfl)) rfl
theorem fX6_7 : Cond.fieldLink RX6 7 (TX6 0).1 (TX6 0).2.1 (TX6 0).2.2.1 ∈ wsC := wsC_of (List.mem_append_right _ (List.mem_of_getElem? (i := 421) rfl)) rfl
theorem fX6_13 : Cond.fieldLink RX6 13 (TX6 1).1 (TX6 1).2.1 (TX6 1).2.2.1 ∈ wsC := wsC_of (List.mem_append_right _ (List.mem_of_getElem? (i := 422) rfl)) rfl
theorem fX6_17 : Cond.fieldLink RX6 17 (TX6 2).1 (TX6 2).2.1 (TX6 2).2.2.1 ∈ wsC := wsC_of (List.mem_append_right _ (List.mem_of_getElem? (i := 423) rfl)) rfl
theorem fX6_45 : Cond.fieldLink RX6 45 (TX6 3).1 (TX6 3).2.1 (TX6 3).2.2.1 ∈ wsC := wsC_of (List.mem_append_right _ (List.mem_of_getElem? (i := 424) rfl)) rfl
theorem fX6_20 : Cond.fieldLink RX6 20 (TX6 4).1 (TX6 4).2.1 (TX6 4).2.2.1 ∈ wsC := wsC_of (List.mem_append_right _ (List.mem_of_getElem? (i := 425) rfl)) rfl
theorem fX6_23 : Cond.fieldLink RX6 23 (TX6 5).1 (TX6 5).2.1 (TX6 5).2.2.1 ∈ wsC := wsC_of (List.mem_append_right _ (List.mem_of_getElem? (i := 426) rfl)) rfl
theorem fX6_26 : Cond.fieldLink RX6 26 (TX6 6).1 (TX6 6).2.1 (TX6 6).2.2.1 ∈ wsC := wsC_of (List.mem_append_right _ (List.mem_of_getElem? (i := 427) rfl)) rfl
theorem fX6_29 : Cond.fieldLink RX6 29 (TX6 7).1 (TX6 7).2.1 (TX6 7).2.2.1 ∈ wsC := wsC_of (List.mem_append_right _ (List.mem_of_getElem? (i := 428) rfl)) rfl
theorem fX6_33 : Cond.fieldLink RX6 33 (TX6 8).1 (TX6 8).2.1 (TX6 8).2.2.1 ∈ wsC := wsC_of (List.mem_append_right _ (List.mem_of_getElem? (i := 429) rfl)) rfl
theorem fX6_36 : Cond.fieldLink RX6 36 (TX6 9).1 (TX6 9).2.1 (TX6 9).2.2.1 ∈ wsC := wsC_of (List.mem_append_right _ (List.mem_of_getElem? (i := 430) rfl)) rfl
theorem fX6_49 : Cond.fieldLink RX6 49 (TX6 10).1 (TX6 10).2.1 (TX6 10).2.2.1 ∈ wsC := wsC_of (List.mem_append_right _ (List.mem_of_getElem? (i := 431) rfl)) rfl
theorem fX6_39 : Cond.fieldLink RX6 39 (TX6 11).1 (TX6 11).2.1 (TX6 11).2.2.1 ∈ wsC := wsC_of (List.mem_append_right _ (List.mem_of_getElem? (i := 432) rfl)) rfl
theorem fX6_42 : Cond.fieldLink RX6 42 (TX6 12).1 (TX6 12).2.1 (TX6 12).2.2.1 ∈ wsC := wsC_of (List.mem_append_right _ (List.mem_of_getElem? (i := 433) rfl)) rfl
theorem fX6_69 : Cond.fieldLink RX6 69 (TX6 13).1 (TX6 13).2.1 (TX6 13).2.2.1 ∈ wsC := wsC_of (List.mem_append_right _ (List.mem_of_getElem? (i := 434) rfl)) rfl
set_option maxRecDepth 10000 in
theorem mL_17 : Cond.methodLink RL 17 yX6_begin ∈ wsC := wsC_of (List.mem_append_right _ (List.mem_of_getElem? (i := 465) rfl)) rfl
set_option maxRecDepth 10000 in
theorem iX6_begin : Cond.instanceMethod yX6_begin ∈ wsC := wsC_of (List.mem_append_right _ (List.mem_of_getElem? (i := 466) rfl)) rfl
set_option maxRecDepth 10000 in
theorem sX6_begin : Cond.selects yX6_begin.cls yX6_begin yX6_begin ∈ wsC := wsC_of (List.mem_append_right _ (List.mem_of_getElem? (i := 467) rfl)) rfl
set_option maxRecDepth 10000 in
theorem kX6_begin : Cond.code yX6_begin cX6_begin 3 (some .int) ∈ wsC := wsC_of (List.mem_append_right _ (List.mem_of_getElem? (i := 468) rfl)) rfl
set_option maxRecDepth 10000 in
theorem mX6_52 : Cond.methodLink RX6 52 yX6_changed ∈ wsC := wsC_of (List.mem_append_right _ (List.mem_of_getElem? (i := 469) rfl)) rfl
set_option maxRecDepth 10000 in
theorem iX6_changed : Cond.instanceMethod yX6_changed ∈ wsC := wsC_of (List.mem_append_right _ (List.mem_of_getElem? (i := 471) rfl)) rfl
set_option maxRecDepth 10000 in
theorem kX6_changed : Cond.code yX6_changed cX6_changed 1 (none) ∈ wsC := wsC_of (List.mem_append_right _ (List.mem_of_getElem? (i := 472) rfl)) rfl
set_option maxRecDepth 10000 in
theorem mL_22 : Cond.methodLink RL 22 yX6_label ∈ wsC := wsC_of (List.mem_append_right _ (List.mem_of_getElem? (i := 473) rfl)) rfl
set_option maxRecDepth 10000 in
theorem iX6_label : Cond.instanceMethod yX6_label ∈ wsC := wsC_of (List.mem_append_right _ (List.mem_of_getElem? (i := 474) rfl)) rfl
set_option maxRecDepth 10000 in
theorem sX6_label : Cond.selects yX6_label.cls yX6_label yX6_label ∈ wsC := wsC_of (List.mem_append_right _ (List.mem_of_getElem? (i := 475) rfl)) rfl
set_option maxRecDepth 10000 in
theorem kX6_label : Cond.code yX6_label cX6_label 6 (some .int) ∈ wsC := wsC_of (List.mem_append_right _ (List.mem_of_getElem? (i := 476) rfl)) rfl
set_option maxRecDepth 10000 in
theorem mX6_55 : Cond.methodLink RX6 55 yX6_isGraph ∈ wsC := wsC_of (List.mem_append_right _ (List.mem_of_getElem? (i := 477) rfl)) rfl
set_option maxRecDepth 10000 in
theorem tX6_isGraph : Cond.static yX6_isGraph ∈ wsC := wsC_of (List.mem_append_right _ (List.mem_of_getElem? (i := 478) rfl)) rfl
set_option maxRecDepth 10000 in
theorem kX6_isGraph : Cond.code yX6_isGraph cX6_isGraph 1 (some .boolean) ∈ wsC := wsC_of (List.mem_append_right _ (List.mem_of_getElem? (i := 479) rfl)) rfl
set_option maxRecDepth 10000 in
theorem mX6_59 : Cond.methodLink RX6 59 yX6_isVertex ∈ wsC := wsC_of (List.mem_append_right _ (List.mem_of_getElem? (i := 480) rfl)) rfl
set_option maxRecDepth 10000 in
theorem iX6_isVertex : Cond.instanceMethod yX6_isVertex ∈ wsC := wsC_of (List.mem_append_right _ (List.mem_of_getElem? (i := 482) rfl)) rfl
set_option maxRecDepth 10000 in
theorem kX6_isVertex : Cond.code yX6_isVertex cX6_isVertex 2 (some .boolean) ∈ wsC := wsC_of (List.mem_append_right _ (List.mem_of_getElem? (i := 483) rfl)) rfl
set_option maxRecDepth 10000 in
theorem mX6_62 : Cond.methodLink RX6 62 yX6_labelOf ∈ wsC := wsC_of (List.mem_append_right _ (List.mem_of_getElem? (i := 484) rfl)) rfl
set_option maxRecDepth 10000 in
theorem iX6_labelOf : Cond.instanceMethod yX6_labelOf ∈ wsC := wsC_of (List.mem_append_right _ (List.mem_of_getElem? (i := 486) rfl)) rfl
set_option maxRecDepth 10000 in
theorem kX6_labelOf : Cond.code yX6_labelOf cX6_labelOf 4 (some .int) ∈ wsC := wsC_of (List.mem_append_right _ (List.mem_of_getElem? (i := 487) rfl)) rfl
set_option maxRecDepth 10000 in
theorem mL_27 : Cond.methodLink RL 27 yX6_tint ∈ wsC := wsC_of (List.mem_append_right _ (List.mem_of_getElem? (i := 488) rfl)) rfl
set_option maxRecDepth 10000 in
theorem iX6_tint : Cond.instanceMethod yX6_tint ∈ wsC := wsC_of (List.mem_append_right _ (List.mem_of_getElem? (i := 489) rfl)) rfl
set_option maxRecDepth 10000 in
theorem sX6_tint : Cond.selects yX6_tint.cls yX6_tint yX6_tint ∈ wsC := wsC_of (List.mem_append_right _ (List.mem_of_getElem? (i := 490) rfl)) rfl
set_option maxRecDepth 10000 in
theorem kX6_tint : Cond.code yX6_tint cX6_tint 5 (some .int) ∈ wsC := wsC_of (List.mem_append_right _ (List.mem_of_getElem? (i := 491) rfl)) rfl
set_option maxRecDepth 10000 in
theorem mL_31 : Cond.methodLink RL 31 yX6_exchange ∈ wsC := wsC_of (List.mem_append_right _ (List.mem_of_getElem? (i := 492) rfl)) rfl
set_option maxRecDepth 10000 in
theorem iX6_exchange : Cond.instanceMethod yX6_exchange ∈ wsC := wsC_of (List.mem_append_right _ (List.mem_of_getElem? (i := 493) rfl)) rfl
set_option maxRecDepth 10000 in
theorem sX6_exchange : Cond.selects yX6_exchange.cls yX6_exchange yX6_exchange ∈ wsC := wsC_of (List.mem_append_right _ (List.mem_of_getElem? (i := 494) rfl)) rfl
set_option maxRecDepth 10000 in
theorem kX6_exchange : Cond.code yX6_exchange cX6_exchange 6 (some .int) ∈ wsC := wsC_of (List.mem_append_right _ (List.mem_of_getElem? (i := 495) rfl)) rfl
set_option maxRecDepth 10000 in
theorem mX6_66 : Cond.methodLink RX6 66 yX6_other ∈ wsC := wsC_of (List.mem_append_right _ (List.mem_of_getElem? (i := 496) rfl)) rfl
set_option maxRecDepth 10000 in
theorem tX6_other : Cond.static yX6_other ∈ wsC := wsC_of (List.mem_append_right _ (List.mem_of_getElem? (i := 497) rfl)) rfl
set_option maxRecDepth 10000 in
theorem kX6_other : Cond.code yX6_other cX6_other 3 (some .int) ∈ wsC := wsC_of (List.mem_append_right _ (List.mem_of_getElem? (i := 498) rfl)) rfl
set_option maxRecDepth 10000 in
theorem mL_35 : Cond.methodLink RL 35 yX6_copy ∈ wsC := wsC_of (List.mem_append_right _ (List.mem_of_getElem? (i := 499) rfl)) rfl
set_option maxRecDepth 10000 in
theorem iX6_copy : Cond.instanceMethod yX6_copy ∈ wsC := wsC_of (List.mem_append_right _ (List.mem_of_getElem? (i := 500) rfl)) rfl
set_option maxRecDepth 10000 in
theorem sX6_copy : Cond.selects yX6_copy.cls yX6_copy yX6_copy ∈ wsC := wsC_of (List.mem_append_right _ (List.mem_of_getElem? (i := 501) rfl)) rfl
set_option maxRecDepth 10000 in
theorem kX6_copy : Cond.code yX6_copy cX6_copy 4 (some .int) ∈ wsC := wsC_of (List.mem_append_right _ (List.mem_of_getElem? (i := 502) rfl)) rfl
set_option maxRecDepth 10000 in
theorem mL_40 : Cond.methodLink RL 40 yX6_colours ∈ wsC := wsC_of (List.mem_append_right _ (List.mem_of_getElem? (i := 503) rfl)) rfl
set_option maxRecDepth 10000 in
theorem iX6_colours : Cond.instanceMethod yX6_colours ∈ wsC := wsC_of (List.mem_append_right _ (List.mem_of_getElem? (i := 504) rfl)) rfl
set_option maxRecDepth 10000 in
theorem sX6_colours : Cond.selects yX6_colours.cls yX6_colours yX6_colours ∈ wsC := wsC_of (List.mem_append_right _ (List.mem_of_getElem? (i := 505) rfl)) rfl
set_option maxRecDepth 10000 in
theorem kX6_colours : Cond.code yX6_colours cX6_colours 1 (some .int) ∈ wsC := wsC_of (List.mem_append_right _ (List.mem_of_getElem? (i := 506) rfl)) rfl
set_option maxRecDepth 10000 in
theorem mX6_83 : Cond.methodLink RX6 83 yX6_paint ∈ wsC := wsC_of (List.mem_append_right _ (List.mem_of_getElem? (i := 507) rfl)) rfl
set_option maxRecDepth 10000 in
theorem iX6_paint : Cond.instanceMethod yX6_paint ∈ wsC := wsC_of (List.mem_append_right _ (List.mem_of_getElem? (i := 509) rfl)) rfl
set_option maxRecDepth 10000 in
theorem kX6_paint : Cond.code yX6_paint cX6_paint 9 (none) ∈ wsC := wsC_of (List.mem_append_right _ (List.mem_of_getElem? (i := 510) rfl)) rfl
set_option maxRecDepth 10000 in
theorem mX6_76 : Cond.methodLink RX6 76 yX6_isThere ∈ wsC := wsC_of (List.mem_append_right _ (List.mem_of_getElem? (i := 511) rfl)) rfl
set_option maxRecDepth 10000 in
theorem iX6_isThere : Cond.instanceMethod yX6_isThere ∈ wsC := wsC_of (List.mem_append_right _ (List.mem_of_getElem? (i := 513) rfl)) rfl
set_option maxRecDepth 10000 in
theorem kX6_isThere : Cond.code yX6_isThere cX6_isThere 2 (some .boolean) ∈ wsC := wsC_of (List.mem_append_right _ (List.mem_of_getElem? (i := 514) rfl)) rfl
set_option maxRecDepth 10000 in
theorem mX6_79 : Cond.methodLink RX6 79 yX6_order ∈ wsC := wsC_of (List.mem_append_right _ (List.mem_of_getElem? (i := 515) rfl)) rfl
set_option maxRecDepth 10000 in
theorem iX6_order : Cond.instanceMethod yX6_order ∈ wsC := wsC_of (List.mem_append_right _ (List.mem_of_getElem? (i := 517) rfl)) rfl
set_option maxRecDepth 10000 in
theorem kX6_order : Cond.code yX6_order cX6_order 7 (some .int) ∈ wsC := wsC_of (List.mem_append_right _ (List.mem_of_getElem? (i := 518) rfl)) rfl
set_option maxRecDepth 10000 in
theorem mX6_72 : Cond.methodLink RX6 72 yX6_many ∈ wsC := wsC_of (List.mem_append_right _ (List.mem_of_getElem? (i := 519) rfl)) rfl
set_option maxRecDepth 10000 in
theorem iX6_many : Cond.instanceMethod yX6_many ∈ wsC := wsC_of (List.mem_append_right _ (List.mem_of_getElem? (i := 521) rfl)) rfl
set_option maxRecDepth 10000 in
theorem kX6_many : Cond.code yX6_many cX6_many 7 (some .int) ∈ wsC := wsC_of (List.mem_append_right _ (List.mem_of_getElem? (i := 522) rfl)) rfl
set_option maxRecDepth 10000 in
theorem mL_45 : Cond.methodLink RL 45 yX6_colour ∈ wsC := wsC_of (List.mem_append_right _ (List.mem_of_getElem? (i := 523) rfl)) rfl
set_option maxRecDepth 10000 in
theorem iX6_colour : Cond.instanceMethod yX6_colour ∈ wsC := wsC_of (List.mem_append_right _ (List.mem_of_getElem? (i := 524) rfl)) rfl
set_option maxRecDepth 10000 in
theorem sX6_colour : Cond.selects yX6_colour.cls yX6_colour yX6_colour ∈ wsC := wsC_of (List.mem_append_right _ (List.mem_of_getElem? (i := 525) rfl)) rfl
set_option maxRecDepth 10000 in
theorem kX6_colour : Cond.code yX6_colour cX6_colour 3 (some .int) ∈ wsC := wsC_of (List.mem_append_right _ (List.mem_of_getElem? (i := 526) rfl)) rfl
set_option maxRecDepth 10000 in
theorem mL_49 : Cond.methodLink RL 49 yX6_twins ∈ wsC := wsC_of (List.mem_append_right _ (List.mem_of_getElem? (i := 527) rfl)) rfl
set_option maxRecDepth 10000 in
theorem iX6_twins : Cond.instanceMethod yX6_twins ∈ wsC := wsC_of (List.mem_append_right _ (List.mem_of_getElem? (i := 528) rfl)) rfl
set_option maxRecDepth 10000 in
theorem sX6_twins : Cond.selects yX6_twins.cls yX6_twins yX6_twins ∈ wsC := wsC_of (List.mem_append_right _ (List.mem_of_getElem? (i := 529) rfl)) rfl
set_option maxRecDepth 10000 in
theorem kX6_twins : Cond.code yX6_twins cX6_twins 1 (some .int) ∈ wsC := wsC_of (List.mem_append_right _ (List.mem_of_getElem? (i := 530) rfl)) rfl
set_option maxRecDepth 10000 in
theorem mX6_90 : Cond.methodLink RX6 90 yX6_free ∈ wsC := wsC_of (List.mem_append_right _ (List.mem_of_getElem? (i := 531) rfl)) rfl
set_option maxRecDepth 10000 in
theorem iX6_free : Cond.instanceMethod yX6_free ∈ wsC := wsC_of (List.mem_append_right _ (List.mem_of_getElem? (i := 533) rfl)) rfl
set_option maxRecDepth 10000 in
theorem kX6_free : Cond.code yX6_free cX6_free 2 (none) ∈ wsC := wsC_of (List.mem_append_right _ (List.mem_of_getElem? (i := 534) rfl)) rfl
set_option maxRecDepth 10000 in
theorem mX6_93 : Cond.methodLink RX6 93 yX6_search ∈ wsC := wsC_of (List.mem_append_right _ (List.mem_of_getElem? (i := 535) rfl)) rfl
set_option maxRecDepth 10000 in
theorem iX6_search : Cond.instanceMethod yX6_search ∈ wsC := wsC_of (List.mem_append_right _ (List.mem_of_getElem? (i := 537) rfl)) rfl
set_option maxRecDepth 10000 in
theorem kX6_search : Cond.code yX6_search cX6_search 5 (some .boolean) ∈ wsC := wsC_of (List.mem_append_right _ (List.mem_of_getElem? (i := 538) rfl)) rfl
set_option maxRecDepth 10000 in
theorem mX6_86 : Cond.methodLink RX6 86 yX6_fits ∈ wsC := wsC_of (List.mem_append_right _ (List.mem_of_getElem? (i := 539) rfl)) rfl
set_option maxRecDepth 10000 in
theorem iX6_fits : Cond.instanceMethod yX6_fits ∈ wsC := wsC_of (List.mem_append_right _ (List.mem_of_getElem? (i := 541) rfl)) rfl
set_option maxRecDepth 10000 in
theorem kX6_fits : Cond.code yX6_fits cX6_fits 6 (some .boolean) ∈ wsC := wsC_of (List.mem_append_right _ (List.mem_of_getElem? (i := 542) rfl)) rfl
set_option maxRecDepth 10000 in
theorem mX6_97 : Cond.methodLink RX6 97 yX6_keep ∈ wsC := wsC_of (List.mem_append_right _ (List.mem_of_getElem? (i := 543) rfl)) rfl
set_option maxRecDepth 10000 in
theorem iX6_keep : Cond.instanceMethod yX6_keep ∈ wsC := wsC_of (List.mem_append_right _ (List.mem_of_getElem? (i := 545) rfl)) rfl
set_option maxRecDepth 10000 in
theorem kX6_keep : Cond.code yX6_keep cX6_keep 2 (none) ∈ wsC := wsC_of (List.mem_append_right _ (List.mem_of_getElem? (i := 546) rfl)) rfl
set_option maxRecDepth 10000 in
theorem mL_53 : Cond.methodLink RL 53 yX6_image ∈ wsC := wsC_of (List.mem_append_right _ (List.mem_of_getElem? (i := 547) rfl)) rfl
set_option maxRecDepth 10000 in
theorem iX6_image : Cond.instanceMethod yX6_image ∈ wsC := wsC_of (List.mem_append_right _ (List.mem_of_getElem? (i := 548) rfl)) rfl
set_option maxRecDepth 10000 in
theorem sX6_image : Cond.selects yX6_image.cls yX6_image yX6_image ∈ wsC := wsC_of (List.mem_append_right _ (List.mem_of_getElem? (i := 549) rfl)) rfl
set_option maxRecDepth 10000 in
theorem kX6_image : Cond.code yX6_image cX6_image 2 (some .int) ∈ wsC := wsC_of (List.mem_append_right _ (List.mem_of_getElem? (i := 550) rfl)) rfl
set_option maxRecDepth 10000 in
theorem mL_57 : Cond.methodLink RL 57 yX6_next ∈ wsC := wsC_of (List.mem_append_right _ (List.mem_of_getElem? (i := 551) rfl)) rfl
set_option maxRecDepth 10000 in
theorem iX6_next : Cond.instanceMethod yX6_next ∈ wsC := wsC_of (List.mem_append_right _ (List.mem_of_getElem? (i := 552) rfl)) rfl
set_option maxRecDepth 10000 in
theorem sX6_next : Cond.selects yX6_next.cls yX6_next yX6_next ∈ wsC := wsC_of (List.mem_append_right _ (List.mem_of_getElem? (i := 553) rfl)) rfl
set_option maxRecDepth 10000 in
theorem kX6_next : Cond.code yX6_next cX6_next 2 (some .int) ∈ wsC := wsC_of (List.mem_append_right _ (List.mem_of_getElem? (i := 554) rfl)) rfl
set_option maxRecDepth 10000 in
theorem mL_61 : Cond.methodLink RL 61 yX6_symmetries ∈ wsC := wsC_of (List.mem_append_right _ (List.mem_of_getElem? (i := 555) rfl)) rfl
set_option maxRecDepth 10000 in
theorem iX6_symmetries : Cond.instanceMethod yX6_symmetries ∈ wsC := wsC_of (List.mem_append_right _ (List.mem_of_getElem? (i := 556) rfl)) rfl
set_option maxRecDepth 10000 in
theorem sX6_symmetries : Cond.selects yX6_symmetries.cls yX6_symmetries yX6_symmetries ∈ wsC := wsC_of (List.mem_append_right _ (List.mem_of_getElem? (i := 557) rfl)) rfl
set_option maxRecDepth 10000 in
theorem kX6_symmetries : Cond.code yX6_symmetries cX6_symmetries 4 (some .int) ∈ wsC := wsC_of (List.mem_append_right _ (List.mem_of_getElem? (i := 558) rfl)) rfl
set_option maxRecDepth 10000 in
theorem mL_65 : Cond.methodLink RL 65 yX6_orbit ∈ wsC := wsC_of (List.mem_append_right _ (List.mem_of_getElem? (i := 559) rfl)) rfl
set_option maxRecDepth 10000 in
theorem iX6_orbit : Cond.instanceMethod yX6_orbit ∈ wsC := wsC_of (List.mem_append_right _ (List.mem_of_getElem? (i := 560) rfl)) rfl
set_option maxRecDepth 10000 in
theorem sX6_orbit : Cond.selects yX6_orbit.cls yX6_orbit yX6_orbit ∈ wsC := wsC_of (List.mem_append_right _ (List.mem_of_getElem? (i := 561) rfl)) rfl
set_option maxRecDepth 10000 in
theorem kX6_orbit : Cond.code yX6_orbit cX6_orbit 4 (some .int) ∈ wsC := wsC_of (List.mem_append_right _ (List.mem_of_getElem? (i := 562) rfl)) rfl
set_option maxRecDepth 10000 in
theorem mL_69 : Cond.methodLink RL 69 yX6_form ∈ wsC := wsC_of (List.mem_append_right _ (List.mem_of_getElem? (i := 563) rfl)) rfl
set_option maxRecDepth 10000 in
theorem iX6_form : Cond.instanceMethod yX6_form ∈ wsC := wsC_of (List.mem_append_right _ (List.mem_of_getElem? (i := 564) rfl)) rfl
set_option maxRecDepth 10000 in
theorem sX6_form : Cond.selects yX6_form.cls yX6_form yX6_form ∈ wsC := wsC_of (List.mem_append_right _ (List.mem_of_getElem? (i := 565) rfl)) rfl
set_option maxRecDepth 10000 in
theorem kX6_form : Cond.code yX6_form cX6_form 3 (some .int) ∈ wsC := wsC_of (List.mem_append_right _ (List.mem_of_getElem? (i := 566) rfl)) rfl
set_option maxRecDepth 10000 in
theorem mX6_114 : Cond.methodLink RX6 114 yX6_write ∈ wsC := wsC_of (List.mem_append_right _ (List.mem_of_getElem? (i := 567) rfl)) rfl
set_option maxRecDepth 10000 in
theorem iX6_write : Cond.instanceMethod yX6_write ∈ wsC := wsC_of (List.mem_append_right _ (List.mem_of_getElem? (i := 569) rfl)) rfl
set_option maxRecDepth 10000 in
theorem kX6_write : Cond.code yX6_write cX6_write 6 (none) ∈ wsC := wsC_of (List.mem_append_right _ (List.mem_of_getElem? (i := 570) rfl)) rfl
set_option maxRecDepth 10000 in
theorem mX6_100 : Cond.methodLink RX6 100 yX6_isUnused ∈ wsC := wsC_of (List.mem_append_right _ (List.mem_of_getElem? (i := 571) rfl)) rfl
set_option maxRecDepth 10000 in
theorem iX6_isUnused : Cond.instanceMethod yX6_isUnused ∈ wsC := wsC_of (List.mem_append_right _ (List.mem_of_getElem? (i := 573) rfl)) rfl
set_option maxRecDepth 10000 in
theorem kX6_isUnused : Cond.code yX6_isUnused cX6_isUnused 3 (some .boolean) ∈ wsC := wsC_of (List.mem_append_right _ (List.mem_of_getElem? (i := 574) rfl)) rfl
set_option maxRecDepth 10000 in
theorem mX6_103 : Cond.methodLink RX6 103 yX6_part ∈ wsC := wsC_of (List.mem_append_right _ (List.mem_of_getElem? (i := 575) rfl)) rfl
set_option maxRecDepth 10000 in
theorem iX6_part : Cond.instanceMethod yX6_part ∈ wsC := wsC_of (List.mem_append_right _ (List.mem_of_getElem? (i := 577) rfl)) rfl
set_option maxRecDepth 10000 in
theorem kX6_part : Cond.code yX6_part cX6_part 5 (none) ∈ wsC := wsC_of (List.mem_append_right _ (List.mem_of_getElem? (i := 578) rfl)) rfl
set_option maxRecDepth 10000 in
theorem mX6_107 : Cond.methodLink RX6 107 yX6_sizeOf ∈ wsC := wsC_of (List.mem_append_right _ (List.mem_of_getElem? (i := 579) rfl)) rfl
set_option maxRecDepth 10000 in
theorem tX6_sizeOf : Cond.static yX6_sizeOf ∈ wsC := wsC_of (List.mem_append_right _ (List.mem_of_getElem? (i := 580) rfl)) rfl
set_option maxRecDepth 10000 in
theorem kX6_sizeOf : Cond.code yX6_sizeOf cX6_sizeOf 1 (some .int) ∈ wsC := wsC_of (List.mem_append_right _ (List.mem_of_getElem? (i := 581) rfl)) rfl
set_option maxRecDepth 10000 in
theorem mX6_111 : Cond.methodLink RX6 111 yX6_compareRows ∈ wsC := wsC_of (List.mem_append_right _ (List.mem_of_getElem? (i := 582) rfl)) rfl
set_option maxRecDepth 10000 in
theorem iX6_compareRows : Cond.instanceMethod yX6_compareRows ∈ wsC := wsC_of (List.mem_append_right _ (List.mem_of_getElem? (i := 584) rfl)) rfl
set_option maxRecDepth 10000 in
theorem kX6_compareRows : Cond.code yX6_compareRows cX6_compareRows 4 (some .int) ∈ wsC := wsC_of (List.mem_append_right _ (List.mem_of_getElem? (i := 585) rfl)) rfl
set_option maxRecDepth 10000 in
theorem mL_73 : Cond.methodLink RL 73 yX6_compare ∈ wsC := wsC_of (List.mem_append_right _ (List.mem_of_getElem? (i := 586) rfl)) rfl
set_option maxRecDepth 10000 in
theorem iX6_compare : Cond.instanceMethod yX6_compare ∈ wsC := wsC_of (List.mem_append_right _ (List.mem_of_getElem? (i := 587) rfl)) rfl
set_option maxRecDepth 10000 in
theorem sX6_compare : Cond.selects yX6_compare.cls yX6_compare yX6_compare ∈ wsC := wsC_of (List.mem_append_right _ (List.mem_of_getElem? (i := 588) rfl)) rfl
set_option maxRecDepth 10000 in
theorem kX6_compare : Cond.code yX6_compare cX6_compare 5 (some .int) ∈ wsC := wsC_of (List.mem_append_right _ (List.mem_of_getElem? (i := 589) rfl)) rfl
set_option maxRecDepth 10000 in
theorem mL_77 : Cond.methodLink RL 77 yX6_count ∈ wsC := wsC_of (List.mem_append_right _ (List.mem_of_getElem? (i := 590) rfl)) rfl
set_option maxRecDepth 10000 in
theorem iX6_count : Cond.instanceMethod yX6_count ∈ wsC := wsC_of (List.mem_append_right _ (List.mem_of_getElem? (i := 591) rfl)) rfl
set_option maxRecDepth 10000 in
theorem sX6_count : Cond.selects yX6_count.cls yX6_count yX6_count ∈ wsC := wsC_of (List.mem_append_right _ (List.mem_of_getElem? (i := 592) rfl)) rfl
set_option maxRecDepth 10000 in
theorem kX6_count : Cond.code yX6_count cX6_count 2 (some .int) ∈ wsC := wsC_of (List.mem_append_right _ (List.mem_of_getElem? (i := 593) rfl)) rfl
set_option maxRecDepth 10000 in
theorem mX6_118 : Cond.methodLink RX6 118 yX6_edges ∈ wsC := wsC_of (List.mem_append_right _ (List.mem_of_getElem? (i := 594) rfl)) rfl
set_option maxRecDepth 10000 in
theorem iX6_edges : Cond.instanceMethod yX6_edges ∈ wsC := wsC_of (List.mem_append_right _ (List.mem_of_getElem? (i := 596) rfl)) rfl
set_option maxRecDepth 10000 in
theorem kX6_edges : Cond.code yX6_edges cX6_edges 5 (some .int) ∈ wsC := wsC_of (List.mem_append_right _ (List.mem_of_getElem? (i := 597) rfl)) rfl
theorem sX5_noteChange : Cond.selects yX5_noteChange.cls yX5_noteChange yX5_noteChange ∈ wsC := wsC_of (List.mem_append_left _ (List.mem_of_getElem? (i := 0) rfl)) rfl
theorem sX5_isVertex : Cond.selects yX5_isVertex.cls yX5_isVertex yX5_isVertex ∈ wsC := wsC_of (List.mem_append_left _ (List.mem_of_getElem? (i := 1) rfl)) rfl
theorem sX5_paintGraphs : Cond.selects yX5_paintGraphs.cls yX5_paintGraphs yX5_paintGraphs ∈ wsC := wsC_of (List.mem_append_left _ (List.mem_of_getElem? (i := 2) rfl)) rfl
theorem sX3_paintTints : Cond.selects yX3_paintTints.cls yX3_paintTints yX3_paintTints ∈ wsC := wsC_of (List.mem_append_left _ (List.mem_of_getElem? (i := 3) rfl)) rfl
theorem sX3_renumber : Cond.selects yX3_renumber.cls yX3_renumber yX3_renumber ∈ wsC := wsC_of (List.mem_append_left _ (List.mem_of_getElem? (i := 4) rfl)) rfl
theorem sX3_sortSpots : Cond.selects yX3_sortSpots.cls yX3_sortSpots yX3_sortSpots ∈ wsC := wsC_of (List.mem_append_left _ (List.mem_of_getElem? (i := 5) rfl)) rfl
theorem sX3_difference : Cond.selects yX3_difference.cls yX3_difference yX3_difference ∈ wsC := wsC_of (List.mem_append_left _ (List.mem_of_getElem? (i := 6) rfl)) rfl
theorem sX3_gatherKeys : Cond.selects yX3_gatherKeys.cls yX3_gatherKeys yX3_gatherKeys ∈ wsC := wsC_of (List.mem_append_left _ (List.mem_of_getElem? (i := 7) rfl)) rfl
theorem sX3_gatherKeysOf : Cond.selects yX3_gatherKeysOf.cls yX3_gatherKeysOf yX3_gatherKeysOf ∈ wsC := wsC_of (List.mem_append_left _ (List.mem_of_getElem? (i := 8) rfl)) rfl
theorem sX2_place : Cond.selects yX2_place.cls yX2_place yX2_place ∈ wsC := wsC_of (List.mem_append_left _ (List.mem_of_getElem? (i := 9) rfl)) rfl
theorem sX2_fits : Cond.selects yX2_fits.cls yX2_fits yX2_fits ∈ wsC := wsC_of (List.mem_append_left _ (List.mem_of_getElem? (i := 10) rfl)) rfl
theorem sX5_withSymmetries : Cond.selects yX5_withSymmetries.cls yX5_withSymmetries yX5_withSymmetries ∈ wsC := wsC_of (List.mem_append_left _ (List.mem_of_getElem? (i := 11) rfl)) rfl
theorem sX4_joinOrbits : Cond.selects yX4_joinOrbits.cls yX4_joinOrbits yX4_joinOrbits ∈ wsC := wsC_of (List.mem_append_left _ (List.mem_of_getElem? (i := 12) rfl)) rfl
theorem sX5_formLength : Cond.selects yX5_formLength.cls yX5_formLength yX5_formLength ∈ wsC := wsC_of (List.mem_append_left _ (List.mem_of_getElem? (i := 13) rfl)) rfl
theorem sX5_withForm : Cond.selects yX5_withForm.cls yX5_withForm yX5_withForm ∈ wsC := wsC_of (List.mem_append_left _ (List.mem_of_getElem? (i := 14) rfl)) rfl
theorem sX0_write : Cond.selects yX0_write.cls yX0_write yX0_write ∈ wsC := wsC_of (List.mem_append_left _ (List.mem_of_getElem? (i := 15) rfl)) rfl
theorem sX0_candidates : Cond.selects yX0_candidates.cls yX0_candidates yX0_candidates ∈ wsC := wsC_of (List.mem_append_left _ (List.mem_of_getElem? (i := 16) rfl)) rfl
theorem sX0_bound : Cond.selects yX0_bound.cls yX0_bound yX0_bound ∈ wsC := wsC_of (List.mem_append_left _ (List.mem_of_getElem? (i := 17) rfl)) rfl
theorem sX0_longerRow : Cond.selects yX0_longerRow.cls yX0_longerRow yX0_longerRow ∈ wsC := wsC_of (List.mem_append_left _ (List.mem_of_getElem? (i := 18) rfl)) rfl
theorem sX0_leastBounded : Cond.selects yX0_leastBounded.cls yX0_leastBounded yX0_leastBounded ∈ wsC := wsC_of (List.mem_append_left _ (List.mem_of_getElem? (i := 19) rfl)) rfl
theorem sX0_isBoundLess : Cond.selects yX0_isBoundLess.cls yX0_isBoundLess yX0_isBoundLess ∈ wsC := wsC_of (List.mem_append_left _ (List.mem_of_getElem? (i := 20) rfl)) rfl
theorem sX0_promisesLess : Cond.selects yX0_promisesLess.cls yX0_promisesLess yX0_promisesLess ∈ wsC := wsC_of (List.mem_append_left _ (List.mem_of_getElem? (i := 21) rfl)) rfl
theorem sX0_writeVertex : Cond.selects yX0_writeVertex.cls yX0_writeVertex yX0_writeVertex ∈ wsC := wsC_of (List.mem_append_left _ (List.mem_of_getElem? (i := 22) rfl)) rfl
theorem sX6_changed : Cond.selects yX6_changed.cls yX6_changed yX6_changed ∈ wsC := wsC_of (List.mem_append_left _ (List.mem_of_getElem? (i := 23) rfl)) rfl
theorem sX6_isVertex : Cond.selects yX6_isVertex.cls yX6_isVertex yX6_isVertex ∈ wsC := wsC_of (List.mem_append_left _ (List.mem_of_getElem? (i := 24) rfl)) rfl
theorem sX6_labelOf : Cond.selects yX6_labelOf.cls yX6_labelOf yX6_labelOf ∈ wsC := wsC_of (List.mem_append_left _ (List.mem_of_getElem? (i := 25) rfl)) rfl
theorem sX6_paint : Cond.selects yX6_paint.cls yX6_paint yX6_paint ∈ wsC := wsC_of (List.mem_append_left _ (List.mem_of_getElem? (i := 26) rfl)) rfl
theorem sX6_isThere : Cond.selects yX6_isThere.cls yX6_isThere yX6_isThere ∈ wsC := wsC_of (List.mem_append_left _ (List.mem_of_getElem? (i := 27) rfl)) rfl
theorem sX6_order : Cond.selects yX6_order.cls yX6_order yX6_order ∈ wsC := wsC_of (List.mem_append_left _ (List.mem_of_getElem? (i := 28) rfl)) rfl
theorem sX6_many : Cond.selects yX6_many.cls yX6_many yX6_many ∈ wsC := wsC_of (List.mem_append_left _ (List.mem_of_getElem? (i := 29) rfl)) rfl
theorem sX6_free : Cond.selects yX6_free.cls yX6_free yX6_free ∈ wsC := wsC_of (List.mem_append_left _ (List.mem_of_getElem? (i := 30) rfl)) rfl
theorem sX6_search : Cond.selects yX6_search.cls yX6_search yX6_search ∈ wsC := wsC_of (List.mem_append_left _ (List.mem_of_getElem? (i := 31) rfl)) rfl
theorem sX6_fits : Cond.selects yX6_fits.cls yX6_fits yX6_fits ∈ wsC := wsC_of (List.mem_append_left _ (List.mem_of_getElem? (i := 32) rfl)) rfl
theorem sX6_keep : Cond.selects yX6_keep.cls yX6_keep yX6_keep ∈ wsC := wsC_of (List.mem_append_left _ (List.mem_of_getElem? (i := 33) rfl)) rfl
theorem sX6_write : Cond.selects yX6_write.cls yX6_write yX6_write ∈ wsC := wsC_of (List.mem_append_left _ (List.mem_of_getElem? (i := 34) rfl)) rfl
theorem sX6_isUnused : Cond.selects yX6_isUnused.cls yX6_isUnused yX6_isUnused ∈ wsC := wsC_of (List.mem_append_left _ (List.mem_of_getElem? (i := 35) rfl)) rfl
theorem sX6_part : Cond.selects yX6_part.cls yX6_part yX6_part ∈ wsC := wsC_of (List.mem_append_left _ (List.mem_of_getElem? (i := 36) rfl)) rfl
theorem sX6_compareRows : Cond.selects yX6_compareRows.cls yX6_compareRows yX6_compareRows ∈ wsC := wsC_of (List.mem_append_left _ (List.mem_of_getElem? (i := 37) rfl)) rfl
theorem sX6_edges : Cond.selects yX6_edges.cls yX6_edges yX6_edges ∈ wsC := wsC_of (List.mem_append_left _ (List.mem_of_getElem? (i := 38) rfl)) rfl
theorem wX0_init : cW yX0_init cX0_init 1 (none) 0 := ⟨nRX0, kX0_init, by decide +kernel, by decide +kernel, by decide +kernel⟩
theorem wX0_find : cW yX0_find cX0_find 3 (none) 1 := ⟨nRX0, kX0_find, by decide +kernel, by decide +kernel, by decide +kernel⟩
theorem wX0_lesserLikes : cW yX0_lesserLikes cX0_lesserLikes 4 (some .int) 2 := ⟨nRX0, kX0_lesserLikes, by decide +kernel, by decide +kernel, by decide +kernel⟩
theorem wX0_write : cW yX0_write cX0_write 7 (none) 3 := ⟨nRX0, kX0_write, by decide +kernel, by decide +kernel, by decide +kernel⟩
theorem wX0_candidates : cW yX0_candidates cX0_candidates 8 (some .int) 3 := ⟨nRX0, kX0_candidates, by decide +kernel, by decide +kernel, by decide +kernel⟩
theorem wX0_bound : cW yX0_bound cX0_bound 11 (none) 4 := ⟨nRX0, kX0_bound, by decide +kernel, by decide +kernel, by decide +kernel⟩
theorem wX0_longerRow : cW yX0_longerRow cX0_longerRow 5 (some .long) 4 := ⟨nRX0, kX0_longerRow, by decide +kernel, by decide +kernel, by decide +kernel⟩
theorem wX0_leastBounded : cW yX0_leastBounded cX0_leastBounded 6 (some .int) 3 := ⟨nRX0, kX0_leastBounded, by decide +kernel, by decide +kernel, by decide +kernel⟩
theorem wX0_promisesLess : cW yX0_promisesLess cX0_promisesLess 4 (some .boolean) 3 := ⟨nRX0, kX0_promisesLess, by decide +kernel, by decide +kernel, by decide +kernel⟩
theorem wX0_isBoundLess : cW yX0_isBoundLess cX0_isBoundLess 6 (some .boolean) 4 := ⟨nRX0, kX0_isBoundLess, by decide +kernel, by decide +kernel, by decide +kernel⟩
theorem wX0_writeVertex : cW yX0_writeVertex cX0_writeVertex 7 (none) 4 := ⟨nRX0, kX0_writeVertex, by decide +kernel, by decide +kernel, by decide +kernel⟩
theorem wX1_init : cW yX1_init cX1_init 1 (none) 0 := ⟨nRX1, kX1_init, by decide +kernel, by decide +kernel, by decide +kernel⟩
theorem wX1_empty : cW yX1_empty cX1_empty 3 (none) 1 := ⟨nRX1, kX1_empty, by decide +kernel, by decide +kernel, by decide +kernel⟩
theorem wX1_become : cW yX1_become cX1_become 3 (none) 1 := ⟨nRX1, kX1_become, by decide +kernel, by decide +kernel, by decide +kernel⟩
theorem wX1_swap : cW yX1_swap cX1_swap 6 (none) 2 := ⟨nRX1, kX1_swap, by decide +kernel, by decide +kernel, by decide +kernel⟩
theorem wX1_edges : cW yX1_edges cX1_edges 4 (some .int) 0 := ⟨nRX1, kX1_edges, by decide +kernel, by decide +kernel, by decide +kernel⟩
theorem wX1_pair : cW yX1_pair cX1_pair 3 (some .int) 2 := ⟨nRX1, kX1_pair, by decide +kernel, by decide +kernel, by decide +kernel⟩
theorem wX1_isAlike : cW yX1_isAlike cX1_isAlike 4 (some .boolean) 2 := ⟨nRX1, kX1_isAlike, by decide +kernel, by decide +kernel, by decide +kernel⟩
theorem wX1_formNumber : cW yX1_formNumber cX1_formNumber 4 (some .int) 1 := ⟨nRX1, kX1_formNumber, by decide +kernel, by decide +kernel, by decide +kernel⟩
theorem wX2_init : cW yX2_init cX2_init 1 (none) 0 := ⟨nRX2, kX2_init, by decide +kernel, by decide +kernel, by decide +kernel⟩
theorem wX2_findFirst : cW yX2_findFirst cX2_findFirst 3 (some .boolean) 2 := ⟨nRX2, kX2_findFirst, by decide +kernel, by decide +kernel, by decide +kernel⟩
theorem wX2_findNext : cW yX2_findNext cX2_findNext 3 (some .boolean) 2 := ⟨nRX2, kX2_findNext, by decide +kernel, by decide +kernel, by decide +kernel⟩
theorem wX2_findSymmetry : cW yX2_findSymmetry cX2_findSymmetry 5 (some .boolean) 3 := ⟨nRX2, kX2_findSymmetry, by decide +kernel, by decide +kernel, by decide +kernel⟩
theorem wX2_place : cW yX2_place cX2_place 8 (some .boolean) 5 := ⟨nRX2, kX2_place, by decide +kernel, by decide +kernel, by decide +kernel⟩
theorem wX2_fits : cW yX2_fits cX2_fits 7 (some .boolean) 4 := ⟨nRX2, kX2_fits, by decide +kernel, by decide +kernel, by decide +kernel⟩
theorem wX3_init : cW yX3_init cX3_init 1 (none) 0 := ⟨nRX3, kX3_init, by decide +kernel, by decide +kernel, by decide +kernel⟩
theorem wX3_paint : cW yX3_paint cX3_paint 5 (none) 1 := ⟨nRX3, kX3_paint, by decide +kernel, by decide +kernel, by decide +kernel⟩
theorem wX3_paintsAlike : cW yX3_paintsAlike cX3_paintsAlike 3 (some .boolean) 1 := ⟨nRX3, kX3_paintsAlike, by decide +kernel, by decide +kernel, by decide +kernel⟩
theorem wX3_paintTints : cW yX3_paintTints cX3_paintTints 4 (none) 2 := ⟨nRX3, kX3_paintTints, by decide +kernel, by decide +kernel, by decide +kernel⟩
theorem wX3_gatherKeys : cW yX3_gatherKeys cX3_gatherKeys 4 (none) 2 := ⟨nRX3, kX3_gatherKeys, by decide +kernel, by decide +kernel, by decide +kernel⟩
theorem wX3_gatherKeysOf : cW yX3_gatherKeysOf cX3_gatherKeysOf 9 (none) 3 := ⟨nRX3, kX3_gatherKeysOf, by decide +kernel, by decide +kernel, by decide +kernel⟩
theorem wX3_renumber : cW yX3_renumber cX3_renumber 5 (none) 2 := ⟨nRX3, kX3_renumber, by decide +kernel, by decide +kernel, by decide +kernel⟩
theorem wX3_sortSpots : cW yX3_sortSpots cX3_sortSpots 6 (none) 2 := ⟨nRX3, kX3_sortSpots, by decide +kernel, by decide +kernel, by decide +kernel⟩
theorem wX3_difference : cW yX3_difference cX3_difference 5 (some .int) 3 := ⟨nRX3, kX3_difference, by decide +kernel, by decide +kernel, by decide +kernel⟩
theorem wX4_init : cW yX4_init cX4_init 1 (none) 0 := ⟨nRX4, kX4_init, by decide +kernel, by decide +kernel, by decide +kernel⟩
theorem wX4_find : cW yX4_find cX4_find 5 (none) 1 := ⟨nRX4, kX4_find, by decide +kernel, by decide +kernel, by decide +kernel⟩
theorem wX4_joinOrbits : cW yX4_joinOrbits cX4_joinOrbits 6 (none) 1 := ⟨nRX4, kX4_joinOrbits, by decide +kernel, by decide +kernel, by decide +kernel⟩
theorem wX4_replace : cW yX4_replace cX4_replace 5 (none) 4 := ⟨nRX4, kX4_replace, by decide +kernel, by decide +kernel, by decide +kernel⟩
theorem wX5_init : cW yX5_init cX5_init 1 (none) 0 := ⟨nRX5, kX5_init, by decide +kernel, by decide +kernel, by decide +kernel⟩
theorem wX5_begin : cW yX5_begin cX5_begin 2 (some .int) 1 := ⟨nRX5, kX5_begin, by decide +kernel, by decide +kernel, by decide +kernel⟩
theorem wX5_label : cW yX5_label cX5_label 7 (some .int) 4 := ⟨nRX5, kX5_label, by decide +kernel, by decide +kernel, by decide +kernel⟩
theorem wX5_tint : cW yX5_tint cX5_tint 6 (some .int) 3 := ⟨nRX5, kX5_tint, by decide +kernel, by decide +kernel, by decide +kernel⟩
theorem wX5_exchange : cW yX5_exchange cX5_exchange 4 (some .int) 3 := ⟨nRX5, kX5_exchange, by decide +kernel, by decide +kernel, by decide +kernel⟩
theorem wX5_copy : cW yX5_copy cX5_copy 2 (some .int) 1 := ⟨nRX5, kX5_copy, by decide +kernel, by decide +kernel, by decide +kernel⟩
theorem wX5_colours : cW yX5_colours cX5_colours 1 (some .int) 0 := ⟨nRX5, kX5_colours, by decide +kernel, by decide +kernel, by decide +kernel⟩
theorem wX5_colour : cW yX5_colour cX5_colour 3 (some .int) 2 := ⟨nRX5, kX5_colour, by decide +kernel, by decide +kernel, by decide +kernel⟩
theorem wX5_twins : cW yX5_twins cX5_twins 1 (some .int) 0 := ⟨nRX5, kX5_twins, by decide +kernel, by decide +kernel, by decide +kernel⟩
theorem wX5_image : cW yX5_image cX5_image 2 (some .int) 1 := ⟨nRX5, kX5_image, by decide +kernel, by decide +kernel, by decide +kernel⟩
theorem wX5_next : cW yX5_next cX5_next 1 (some .int) 0 := ⟨nRX5, kX5_next, by decide +kernel, by decide +kernel, by decide +kernel⟩
theorem wX5_symmetries : cW yX5_symmetries cX5_symmetries 2 (some .int) 1 := ⟨nRX5, kX5_symmetries, by decide +kernel, by decide +kernel, by decide +kernel⟩
theorem wX5_orbit : cW yX5_orbit cX5_orbit 3 (some .int) 2 := ⟨nRX5, kX5_orbit, by decide +kernel, by decide +kernel, by decide +kernel⟩
theorem wX5_form : cW yX5_form cX5_form 3 (some .int) 2 := ⟨nRX5, kX5_form, by decide +kernel, by decide +kernel, by decide +kernel⟩
theorem wX5_compare : cW yX5_compare cX5_compare 2 (some .int) 1 := ⟨nRX5, kX5_compare, by decide +kernel, by decide +kernel, by decide +kernel⟩
theorem wX5_count : cW yX5_count cX5_count 2 (some .int) 1 := ⟨nRX5, kX5_count, by decide +kernel, by decide +kernel, by decide +kernel⟩
theorem wX5_isGraph : cW yX5_isGraph cX5_isGraph 1 (some .boolean) 1 := ⟨nRX5, kX5_isGraph, by decide +kernel, by decide +kernel, by decide +kernel⟩
theorem wX5_isVertex : cW yX5_isVertex cX5_isVertex 3 (some .boolean) 2 := ⟨nRX5, kX5_isVertex, by decide +kernel, by decide +kernel, by decide +kernel⟩
theorem wX5_isMark : cW yX5_isMark cX5_isMark 1 (some .boolean) 1 := ⟨nRX5, kX5_isMark, by decide +kernel, by decide +kernel, by decide +kernel⟩
theorem wX5_formLength : cW yX5_formLength cX5_formLength 1 (some .int) 0 := ⟨nRX5, kX5_formLength, by decide +kernel, by decide +kernel, by decide +kernel⟩
theorem wX5_noteChange : cW yX5_noteChange cX5_noteChange 2 (none) 1 := ⟨nRX5, kX5_noteChange, by decide +kernel, by decide +kernel, by decide +kernel⟩
theorem wX5_paintGraphs : cW yX5_paintGraphs cX5_paintGraphs 1 (none) 0 := ⟨nRX5, kX5_paintGraphs, by decide +kernel, by decide +kernel, by decide +kernel⟩
theorem wX5_withSymmetries : cW yX5_withSymmetries cX5_withSymmetries 3 (some (.object "GraphTwins$Graph")) 1 := ⟨nRX5, kX5_withSymmetries, by decide +kernel, by decide +kernel, by decide +kernel⟩
theorem wX5_withForm : cW yX5_withForm cX5_withForm 3 (some (.object "GraphTwins$Graph")) 1 := ⟨nRX5, kX5_withForm, by decide +kernel, by decide +kernel, by decide +kernel⟩
theorem wX5_compareRows : cW yX5_compareRows cX5_compareRows 4 (some .int) 3 := ⟨nRX5, kX5_compareRows, by decide +kernel, by decide +kernel, by decide +kernel⟩
theorem wX6_init : cW yX6_init cX6_init 1 (none) 0 := ⟨nRX6, kX6_init, by decide +kernel, by decide +kernel, by decide +kernel⟩
theorem wX6_isGraph : cW yX6_isGraph cX6_isGraph 1 (some .boolean) 1 := ⟨nRX6, kX6_isGraph, by decide +kernel, by decide +kernel, by decide +kernel⟩
theorem wX6_isVertex : cW yX6_isVertex cX6_isVertex 2 (some .boolean) 1 := ⟨nRX6, kX6_isVertex, by decide +kernel, by decide +kernel, by decide +kernel⟩
theorem wX6_labelOf : cW yX6_labelOf cX6_labelOf 4 (some .int) 3 := ⟨nRX6, kX6_labelOf, by decide +kernel, by decide +kernel, by decide +kernel⟩
theorem wX6_changed : cW yX6_changed cX6_changed 1 (none) 0 := ⟨nRX6, kX6_changed, by decide +kernel, by decide +kernel, by decide +kernel⟩
theorem wX6_begin : cW yX6_begin cX6_begin 3 (some .int) 1 := ⟨nRX6, kX6_begin, by decide +kernel, by decide +kernel, by decide +kernel⟩
theorem wX6_label : cW yX6_label cX6_label 6 (some .int) 4 := ⟨nRX6, kX6_label, by decide +kernel, by decide +kernel, by decide +kernel⟩
theorem wX6_tint : cW yX6_tint cX6_tint 5 (some .int) 3 := ⟨nRX6, kX6_tint, by decide +kernel, by decide +kernel, by decide +kernel⟩
theorem wX6_other : cW yX6_other cX6_other 3 (some .int) 3 := ⟨nRX6, kX6_other, by decide +kernel, by decide +kernel, by decide +kernel⟩
theorem wX6_exchange : cW yX6_exchange cX6_exchange 6 (some .int) 3 := ⟨nRX6, kX6_exchange, by decide +kernel, by decide +kernel, by decide +kernel⟩
theorem wX6_copy : cW yX6_copy cX6_copy 4 (some .int) 1 := ⟨nRX6, kX6_copy, by decide +kernel, by decide +kernel, by decide +kernel⟩
theorem wX6_many : cW yX6_many cX6_many 7 (some .int) 4 := ⟨nRX6, kX6_many, by decide +kernel, by decide +kernel, by decide +kernel⟩
theorem wX6_order : cW yX6_order cX6_order 7 (some .int) 2 := ⟨nRX6, kX6_order, by decide +kernel, by decide +kernel, by decide +kernel⟩
theorem wX6_isThere : cW yX6_isThere cX6_isThere 2 (some .boolean) 1 := ⟨nRX6, kX6_isThere, by decide +kernel, by decide +kernel, by decide +kernel⟩
theorem wX6_paint : cW yX6_paint cX6_paint 9 (none) 0 := ⟨nRX6, kX6_paint, by decide +kernel, by decide +kernel, by decide +kernel⟩
theorem wX6_colours : cW yX6_colours cX6_colours 1 (some .int) 0 := ⟨nRX6, kX6_colours, by decide +kernel, by decide +kernel, by decide +kernel⟩
theorem wX6_colour : cW yX6_colour cX6_colour 3 (some .int) 2 := ⟨nRX6, kX6_colour, by decide +kernel, by decide +kernel, by decide +kernel⟩
theorem wX6_fits : cW yX6_fits cX6_fits 6 (some .boolean) 4 := ⟨nRX6, kX6_fits, by decide +kernel, by decide +kernel, by decide +kernel⟩
theorem wX6_search : cW yX6_search cX6_search 5 (some .boolean) 3 := ⟨nRX6, kX6_search, by decide +kernel, by decide +kernel, by decide +kernel⟩
theorem wX6_free : cW yX6_free cX6_free 2 (none) 0 := ⟨nRX6, kX6_free, by decide +kernel, by decide +kernel, by decide +kernel⟩
theorem wX6_twins : cW yX6_twins cX6_twins 1 (some .int) 0 := ⟨nRX6, kX6_twins, by decide +kernel, by decide +kernel, by decide +kernel⟩
theorem wX6_keep : cW yX6_keep cX6_keep 2 (none) 0 := ⟨nRX6, kX6_keep, by decide +kernel, by decide +kernel, by decide +kernel⟩
theorem wX6_image : cW yX6_image cX6_image 2 (some .int) 1 := ⟨nRX6, kX6_image, by decide +kernel, by decide +kernel, by decide +kernel⟩
theorem wX6_next : cW yX6_next cX6_next 2 (some .int) 0 := ⟨nRX6, kX6_next, by decide +kernel, by decide +kernel, by decide +kernel⟩
theorem wX6_symmetries : cW yX6_symmetries cX6_symmetries 4 (some .int) 1 := ⟨nRX6, kX6_symmetries, by decide +kernel, by decide +kernel, by decide +kernel⟩
theorem wX6_orbit : cW yX6_orbit cX6_orbit 4 (some .int) 2 := ⟨nRX6, kX6_orbit, by decide +kernel, by decide +kernel, by decide +kernel⟩
theorem wX6_sizeOf : cW yX6_sizeOf cX6_sizeOf 1 (some .int) 1 := ⟨nRX6, kX6_sizeOf, by decide +kernel, by decide +kernel, by decide +kernel⟩
theorem wX6_write : cW yX6_write cX6_write 6 (none) 1 := ⟨nRX6, kX6_write, by decide +kernel, by decide +kernel, by decide +kernel⟩
theorem wX6_isUnused : cW yX6_isUnused cX6_isUnused 3 (some .boolean) 1 := ⟨nRX6, kX6_isUnused, by decide +kernel, by decide +kernel, by decide +kernel⟩
theorem wX6_part : cW yX6_part cX6_part 5 (none) 2 := ⟨nRX6, kX6_part, by decide +kernel, by decide +kernel, by decide +kernel⟩
theorem wX6_compareRows : cW yX6_compareRows cX6_compareRows 4 (some .int) 2 := ⟨nRX6, kX6_compareRows, by decide +kernel, by decide +kernel, by decide +kernel⟩
theorem wX6_form : cW yX6_form cX6_form 3 (some .int) 2 := ⟨nRX6, kX6_form, by decide +kernel, by decide +kernel, by decide +kernel⟩
theorem wX6_compare : cW yX6_compare cX6_compare 5 (some .int) 1 := ⟨nRX6, kX6_compare, by decide +kernel, by decide +kernel, by decide +kernel⟩
theorem wX6_edges : cW yX6_edges cX6_edges 5 (some .int) 1 := ⟨nRX6, kX6_edges, by decide +kernel, by decide +kernel, by decide +kernel⟩
theorem wX6_count : cW yX6_count cX6_count 2 (some .int) 1 := ⟨nRX6, kX6_count, by decide +kernel, by decide +kernel, by decide +kernel⟩
theorem wJ9_max_7cf53 : cW yJ9_max_7cf53 cJ9_max_7cf53 2 (some .int) 2 := ⟨nRJ9, kJ9_max_7cf53, by decide +kernel, by decide +kernel, by decide +kernel⟩
theorem wJ9_min_7cf53 : cW yJ9_min_7cf53 cJ9_min_7cf53 2 (some .int) 2 := ⟨nRJ9, kJ9_min_7cf53, by decide +kernel, by decide +kernel, by decide +kernel⟩
theorem wJ7_fill_d0a16 : cW yJ7_fill_d0a16 cJ7_fill_d0a16 5 (none) 2 := ⟨nRJ7, kJ7_fill_d0a16, by decide +kernel, by decide +kernel, by decide +kernel⟩
theorem wJ7_fill_53178 : cW yJ7_fill_53178 cJ7_fill_53178 4 (none) 2 := ⟨nRJ7, kJ7_fill_53178, by decide +kernel, by decide +kernel, by decide +kernel⟩
theorem u0 : ∀ w ∈ u_ws RX0 TX0 4, w ∈ wsC := by decide +kernel
theorem u1 : ∀ w ∈ u_ws RX1 TX1 9, w ∈ wsC := by decide +kernel
theorem u2 : ∀ w ∈ u_ws RX2 TX2 1, w ∈ wsC := by decide +kernel
theorem u3 : ∀ w ∈ u_ws RX3 TX3 6, w ∈ wsC := by decide +kernel
theorem u4 : ∀ w ∈ u_ws RX4 TX4 1, w ∈ wsC := by decide +kernel
theorem u5 : ∀ w ∈ u_ws RX5 TX5 7, w ∈ wsC := by decide +kernel
theorem u6 : ∀ w ∈ u_ws RX6 TX6 14, w ∈ wsC := by decide +kernel
end
section
/-! ===== arraycopy, max, min, tableswitch over the one world ===== -/
theorem wl_setRI {ca : Nat → ClassId} {ad : Nat → Nat → Nat} {I : SI} {J : SJ} {i k r : Nat} {f : Nat → Int32} (hi : ks[i]? = some (k, r)) : (wl ca ad I J).set i (ad k r, SSr ca ad k r f (J k r)) = wl ca ad (sK I k (va_up (I k) r f)) J := by
  have e : (sK I k (va_up (I k) r f)) k r = f := by rw [sK_self, va_up_self]
  conv => lhs; rw [← e]
  refine wl_set hi (fun k' r' h => ?_) (fun _ _ _ => rfl)
  by_cases hk : k' = k
  · subst hk
    rw [sK_self, va_up_ne _ _ (fun q => h ⟨rfl, q⟩)]
  · rw [sK_ne hk]
theorem wl_setRJ {ca : Nat → ClassId} {ad : Nat → Nat → Nat} {I : SI} {J : SJ} {i k r : Nat} {g : Nat → Int64} (hi : ks[i]? = some (k, r)) : (wl ca ad I J).set i (ad k r, SSr ca ad k r (I k r) g) = wl ca ad I (sK J k (va_up (J k) r g)) := by
  have e : (sK J k (va_up (J k) r g)) k r = g := by rw [sK_self, va_up_self]
  conv => lhs; rw [← e]
  refine wl_set hi (fun _ _ _ => rfl) (fun k' r' h => ?_)
  by_cases hk : k' = k
  · subst hk
    rw [sK_self, va_up_ne _ _ (fun q => h ⟨rfl, q⟩)]
  · rw [sK_ne hk]
section GM
variable {X : Pk} {cc : ByteArray} {nL : Nat} {own : String} {Z : Zk} {fr lo : Nat} {Q : State → Prop} {I : SI} {J : SJ} {pc : Nat} {lv lv' : List (Nat × Value)} {st : List Value}
theorem g_copyi (C : Cx X cc nL own Z fr lo) {index : Nat} (hlink : Cond.methodLink own index arraycopyName ∈ wsC) (k r k2 r2 : Nat) (hk : k < 38) (hr : r < cnt k) (hk2 : k2 < 38) (hr2 : r2 < cnt k2) {n0 n1 : Nat} (hs : ∀ f g, SSr Z.2.1 Z.2.2.1 k r f g = .inl (Z.2.1 0, n0, .inl f)) (hs2 : ∀ f g, SSr Z.2.1 Z.2.2.1 k2 r2 f g = .inl (Z.2.1 0, n1, .inl f)) (sp dp n : Nat) (h0 : sp + n ≤ n0) (h1 : dp + n ≤ n1) (hn0 : Nat.ble n0 1000 = true) (hn1 : Nat.ble n1 1000 = true) (hfr : Nat.ble 1 fr = true) (hlo : Nat.ble ((st.map fun v => v.category).sum + (nativeFrameWords "java/lang/System" "arraycopy" 5 + 11)) lo = true) (d : decode cc pc = .ok (.invokestatic index, 3))
    (kk : G X nL Z Q (sK I k2 (va_up (I k2) r2 (va_cpy (I k r) (I k2 r2) sp dp n))) J (pc + 3) lv st) : G X nL Z Q I J pc lv (.int (nI n) :: .int (nI dp) :: .ref (Z.2.2.1 k2 r2) :: .int (nI sp) :: .ref (Z.2.2.1 k r) :: st) := by
  intro H locs ls hP hS hl
  obtain ⟨q, hq⟩ := wl_get hk hr
  obtain ⟨q2, hq2⟩ := wl_get hk2 hr2
  have b0 := Nat.ble_eq.mp hn0
  have b1 := Nat.ble_eq.mp hn1
  have ha := wl_at (ca := Z.2.1) (ad := Z.2.2.1) (I := I) (J := J) hq
  have ha2 := wl_at (ca := Z.2.1) (ad := Z.2.2.1) (I := I) (J := J) hq2
  dsimp only at ha ha2
  rw [hs] at ha
  rw [hs2] at ha2
  have hts := C.2.2.2.2.1
  have c1 := nI_clamp (show sp < 2 ^ 31 by omega)
  have c2 := nI_clamp (show dp < 2 ^ 31 by omega)
  have c3 := nI_clamp (show n < 2 ^ 31 by omega)
  refine va_copyi C.1 C.2.1 (C.2.2.1.trans hl.1.symm) C.2.2.2.1 (hts _ hlink) (hts _ narraycopy) (hts _ tarraycopy) (hts _ nRJ10) C.2.2.2.2.2.1.1 hP (C.2.2.2.2.2.2.1.toD _ _ _) hS q q2 0 0 (ty := .int) ha ha2 rfl rfl rfl (nI_pos (by omega)) (nI_pos (by omega)) (nI_pos (by omega)) (by rw [c1, c3]; exact h0) (by rw [c2, c3]; exact h1) (fun _ _ => rfl) (by rw [C.2.2.2.2.2.2.2.2.2.1]; exact Nat.ble_eq.mp hfr) (by rw [C.2.2.2.2.2.2.2.2.2.2]; exact Nat.ble_eq.mp hlo) d (fun H1 locs1 hP1 _ hS1 => ?_)
  rw [c1, c2, c3] at hP1
  exact kk H1 locs1 ls (by rw [← wl_setRI hq2, hs2]; exact hP1) hS1 hl
theorem g_copyl (C : Cx X cc nL own Z fr lo) {index : Nat} (hlink : Cond.methodLink own index arraycopyName ∈ wsC) (k r k2 r2 : Nat) (hk : k < 38) (hr : r < cnt k) (hk2 : k2 < 38) (hr2 : r2 < cnt k2) {n0 n1 : Nat} (hs : ∀ f g, SSr Z.2.1 Z.2.2.1 k r f g = .inl (Z.2.1 1, n0, .inr (.inl g))) (hs2 : ∀ f g, SSr Z.2.1 Z.2.2.1 k2 r2 f g = .inl (Z.2.1 1, n1, .inr (.inl g))) (sp dp n : Nat) (h0 : sp + n ≤ n0) (h1 : dp + n ≤ n1) (hn0 : Nat.ble n0 1000 = true) (hn1 : Nat.ble n1 1000 = true) (hfr : Nat.ble 1 fr = true) (hlo : Nat.ble ((st.map fun v => v.category).sum + (nativeFrameWords "java/lang/System" "arraycopy" 5 + 11)) lo = true) (d : decode cc pc = .ok (.invokestatic index, 3))
    (kk : G X nL Z Q I (sK J k2 (va_up (J k2) r2 (va_cpy (J k r) (J k2 r2) sp dp n))) (pc + 3) lv st) : G X nL Z Q I J pc lv (.int (nI n) :: .int (nI dp) :: .ref (Z.2.2.1 k2 r2) :: .int (nI sp) :: .ref (Z.2.2.1 k r) :: st) := by
  intro H locs ls hP hS hl
  obtain ⟨q, hq⟩ := wl_get hk hr
  obtain ⟨q2, hq2⟩ := wl_get hk2 hr2
  have b0 := Nat.ble_eq.mp hn0
  have b1 := Nat.ble_eq.mp hn1
  have ha := wl_at (ca := Z.2.1) (ad := Z.2.2.1) (I := I) (J := J) hq
  have ha2 := wl_at (ca := Z.2.1) (ad := Z.2.2.1) (I := I) (J := J) hq2
  dsimp only at ha ha2
  rw [hs] at ha
  rw [hs2] at ha2
  have hts := C.2.2.2.2.1
  have c1 := nI_clamp (show sp < 2 ^ 31 by omega)
  have c2 := nI_clamp (show dp < 2 ^ 31 by omega)
  have c3 := nI_clamp (show n < 2 ^ 31 by omega)
  refine va_copyl C.1 C.2.1 (C.2.2.1.trans hl.1.symm) C.2.2.2.1 (hts _ hlink) (hts _ narraycopy) (hts _ tarraycopy) (hts _ nRJ10) C.2.2.2.2.2.1.1 hP (C.2.2.2.2.2.2.1.toD _ _ _) hS q q2 1 1 (ty := .long) ha ha2 rfl rfl rfl (nI_pos (by omega)) (nI_pos (by omega)) (nI_pos (by omega)) (by rw [c1, c3]; exact h0) (by rw [c2, c3]; exact h1) (fun _ _ => rfl) (by rw [C.2.2.2.2.2.2.2.2.2.1]; exact Nat.ble_eq.mp hfr) (by rw [C.2.2.2.2.2.2.2.2.2.2]; exact Nat.ble_eq.mp hlo) d (fun H1 locs1 hP1 _ hS1 => ?_)
  rw [c1, c2, c3] at hP1
  exact kk H1 locs1 ls (by rw [← wl_setRJ hq2, hs2]; exact hP1) hS1 hl
theorem n_max (C : Cx X cc nL own Z fr lo) {index : Nat} (hlink : Cond.methodLink own index yJ9_max_7cf53 ∈ wsC) {a b : Nat} (ha : a < 2 ^ 31) (hb : b < 2 ^ 31) (hfr : Nat.ble 1 fr = true) (hlo : Nat.ble ((st.map fun v => v.category).sum + 13) lo = true) (d : decode cc pc = .ok (.invokestatic index, 3)) (kk : G X nL Z Q I J (pc + 3) lv (.int (nI (max a b)) :: st)) : G X nL Z Q I J pc lv (.int (nI b) :: .int (nI a) :: st) := by
  intro H locs ls hP hS hl
  have hts := C.2.2.2.2.1
  refine va_mmax C.1 C.2.1 (C.2.2.1.trans hl.1.symm) C.2.2.2.1 (hts _ hlink) (hts _ tJ9_max_7cf53) (hts _ nRJ9) (hts _ kJ9_max_7cf53) (by rw [C.2.2.2.2.2.2.2.2.2.1]; exact Nat.ble_eq.mp hfr) (by rw [C.2.2.2.2.2.2.2.2.2.2]; exact Nat.ble_eq.mp hlo) (Nat.zero_le _) (Nat.zero_le _) d ?_
  have e : (if nI a < nI b then nI b else nI a) = nI (max a b) := by
    by_cases h : a < b
    · rw [if_pos ((nI_ltI ha hb).mpr h), Nat.max_eq_right (Nat.le_of_lt h)]
    · rw [if_neg (fun q => h ((nI_ltI ha hb).mp q)), Nat.max_eq_left (Nat.le_of_not_lt h)]
  rw [e]
  exact kk H locs ls hP hS hl
theorem n_min (C : Cx X cc nL own Z fr lo) {index : Nat} (hlink : Cond.methodLink own index yJ9_min_7cf53 ∈ wsC) {a b : Nat} (ha : a < 2 ^ 31) (hb : b < 2 ^ 31) (hfr : Nat.ble 1 fr = true) (hlo : Nat.ble ((st.map fun v => v.category).sum + 13) lo = true) (d : decode cc pc = .ok (.invokestatic index, 3)) (kk : G X nL Z Q I J (pc + 3) lv (.int (nI (min a b)) :: st)) : G X nL Z Q I J pc lv (.int (nI b) :: .int (nI a) :: st) := by
  intro H locs ls hP hS hl
  have hts := C.2.2.2.2.1
  refine va_mmin C.1 C.2.1 (C.2.2.1.trans hl.1.symm) C.2.2.2.1 (hts _ hlink) (hts _ tJ9_min_7cf53) (hts _ nRJ9) (hts _ kJ9_min_7cf53) (by rw [C.2.2.2.2.2.2.2.2.2.1]; exact Nat.ble_eq.mp hfr) (by rw [C.2.2.2.2.2.2.2.2.2.2]; exact Nat.ble_eq.mp hlo) (Nat.zero_le _) (Nat.zero_le _) d ?_
  have e : (if nI b < nI a then nI b else nI a) = nI (min a b) := by
    by_cases h : b < a
    · rw [if_pos ((nI_ltI hb ha).mpr h), Nat.min_eq_right (Nat.le_of_lt h)]
    · rw [if_neg (fun q => h ((nI_ltI hb ha).mp q)), Nat.min_eq_left (Nat.le_of_not_lt h)]
  rw [e]
  exact kk H locs ls hP hS hl
theorem g_tabOut (C : Cx X cc nL own Z fr lo) {dflt lw hg : Int} {offs : Array Int} {len : Nat} {x : Int32} {tgt : Nat} (d : decode cc pc = .ok (.tableswitch dflt lw hg offs, len)) (h : x.toInt < lw ∨ hg < x.toInt) (ht : (pc : Int) + dflt = (tgt : Int)) (k : G X nL Z Q I J tgt lv st) : G X nL Z Q I J pc lv (.int x :: st) :=
  fun H locs ls hP hS hl => lv_tableOut C.1 C.2.1 d h ht (k H locs ls hP hS hl)
theorem g_tabIn (C : Cx X cc nL own Z fr lo) {dflt lw hg : Int} {offs : Array Int} {len : Nat} {x : Int32} {off : Int} {tgt : Nat} (d : decode cc pc = .ok (.tableswitch dflt lw hg offs, len)) (h1 : ¬ x.toInt < lw) (h2 : ¬ hg < x.toInt) (ho : offs[(x.toInt - lw).toNat]? = some off) (ht : (pc : Int) + off = (tgt : Int)) (k : G X nL Z Q I J tgt lv st) : G X nL Z Q I J pc lv (.int x :: st) :=
  fun H locs ls hP hS hl => lv_tableIn C.1 C.2.1 d h1 h2 ho ht (k H locs ls hP hS hl)
end GM
end
section
/-! ===== small numbers; what the class's cells say ===== -/
theorem inc1 (a : Nat) : nI a + Int32.ofInt 1 = nI (a + 1) := nI_1 a
theorem dec1 {a : Nat} (h : 0 < a) : nI a + Int32.ofInt (-1) = nI (a - 1) := sb_m1 h
theorem nar_b (p : Bool) : narrow .boolean (.int (bI p)) = .int (bI p) := by cases p <;> decide
theorem fit_b (p : Bool) : fits .boolean (.int (bI p)) = true := by cases p <;> decide
/-- how many i < n have p -/
def ct (p : Nat → Bool) : Nat → Nat
  | 0 => 0
  | n + 1 => ct p n + (if p n then 1 else 0)
/-- the sum of f i for i < n -/
def sm (f : Nat → Nat) : Nat → Nat
  | 0 => 0
  | n + 1 => sm f n + f n
theorem ct_le (p : Nat → Bool) : ∀ n, ct p n ≤ n
  | 0 => Nat.le_refl 0
  | n + 1 => by
    have h := ct_le p n
    show ct p n + (if p n then 1 else 0) ≤ n + 1
    split <;> omega
theorem sm_le {f : Nat → Nat} {b : Nat} (h : ∀ i, f i ≤ b) : ∀ n, sm f n ≤ b * n
  | 0 => Nat.le_refl 0
  | n + 1 => by
    have h1 := sm_le h n
    have h2 := h n
    show sm f n + f n ≤ b * (n + 1)
    rw [Nat.mul_add]
    omega
/-- the graphs in the class's cells: n vertices, tints T g v, labels L g u v -/
def CV (I : SI) (n : Nat) (T : Nat → Nat → Nat) (L : Nat → Nat → Nat → Nat) : Prop :=
  (1 ≤ n ∧ n ≤ 9) ∧ ∀ g, g < 2 → I 2 g 0 = nI n ∧ (∀ v, v < n → I 3 g v = nI (T g v) ∧ T g v < 4) ∧ ∀ u v, u < n → v < n → I 5 (9 * g + u) v = nI (L g u v) ∧ L g u v < 4
theorem CV.sz {I : SI} {n : Nat} {T : Nat → Nat → Nat} {L : Nat → Nat → Nat → Nat} (h : CV I n T L) {g : Nat} (hg : g < 2) : I 2 g 0 = nI n := (h.2 g hg).1
theorem CV.t {I : SI} {n : Nat} {T : Nat → Nat → Nat} {L : Nat → Nat → Nat → Nat} (h : CV I n T L) {g v : Nat} (hg : g < 2) (hv : v < n) : I 3 g v = nI (T g v) := ((h.2 g hg).2.1 v hv).1
theorem CV.t4 {I : SI} {n : Nat} {T : Nat → Nat → Nat} {L : Nat → Nat → Nat → Nat} (h : CV I n T L) {g v : Nat} (hg : g < 2) (hv : v < n) : T g v < 4 := ((h.2 g hg).2.1 v hv).2
theorem CV.l {I : SI} {n : Nat} {T : Nat → Nat → Nat} {L : Nat → Nat → Nat → Nat} (h : CV I n T L) {g u v : Nat} (hg : g < 2) (hu : u < n) (hv : v < n) : I 5 (9 * g + u) v = nI (L g u v) := ((h.2 g hg).2.2 u v hu hv).1
theorem CV.l4 {I : SI} {n : Nat} {T : Nat → Nat → Nat} {L : Nat → Nat → Nat → Nat} (h : CV I n T L) {g u v : Nat} (hg : g < 2) (hu : u < n) (hv : v < n) : L g u v < 4 := ((h.2 g hg).2.2 u v hu hv).2
/-- both labels between two vertices in one number -/
def pr (L : Nat → Nat → Nat → Nat) (g u v : Nat) : Nat := 4 * L g u v + L g v u
/-- the number of edges -/
def ed (n : Nat) (L : Nat → Nat → Nat → Nat) (g : Nat) : Nat := sm (fun u => ct (fun v => decide (0 < L g u v)) n) n
def isG (g : Int32) : Bool := decide (g = 0 ∨ g = 1)
def isM (x : Int32) : Bool := decide (0 ≤ x ∧ x ≤ 3)
def isV (n : Nat) (g v : Int32) : Bool := isG g && decide (0 ≤ v ∧ v < nI n)
theorem isG_t {g : Int32} (h : isG g = true) : ∃ k : Nat, k < 2 ∧ g = nI k := by
  rcases of_decide_eq_true h with e | e
  · exact ⟨0, by decide, e⟩
  · exact ⟨1, by decide, e⟩
theorem ge0_of {x : Int32} (h : 0 ≤ x) : ∃ j : Nat, j < 2 ^ 31 ∧ x = nI j := nI_of (Int32.not_lt.mpr h)
theorem isM_t {x : Int32} (h : isM x = true) : ∃ k : Nat, k < 4 ∧ x = nI k := by
  obtain ⟨h1, h2⟩ := of_decide_eq_true h
  obtain ⟨j, hj, rfl⟩ := ge0_of h1
  exact ⟨j, Nat.lt_succ_of_le ((nI_leI (b := 3) hj (by decide)).mp h2), rfl⟩
theorem isV_t {n : Nat} {g v : Int32} (hn : n < 2 ^ 31) (h : isV n g v = true) : ∃ a b : Nat, a < 2 ∧ b < n ∧ g = nI a ∧ v = nI b := by
  obtain ⟨h1, h2⟩ := Bool.and_eq_true_iff.mp h
  obtain ⟨a, ha, rfl⟩ := isG_t h1
  obtain ⟨h3, h4⟩ := of_decide_eq_true h2
  obtain ⟨b, hb, rfl⟩ := ge0_of h3
  exact ⟨a, b, ha, (nI_ltI hb hn).mp h4, rfl, rfl⟩
theorem ret1 {p : Bool} (h : p = true) : some (Value.int (nI 1)) = some (.int (bI p)) := by rw [h]; rfl
theorem ret0 {p : Bool} (h : p = false) : some (Value.int (nI 0)) = some (.int (bI p)) := by rw [h]; rfl
end
section
set_option maxRecDepth 100000 in
set_option maxHeartbeats 4000000 in
theorem c_X5_isGraph {l : Launch} {Y : Yk} (hA : AJ Y.2.2) {I : SI} {J : SJ} (g : Int32) : MX l Y yX5_isGraph cX5_isGraph 1 (some .boolean) 0 0 [.int g] I J (fun v I' J' => v = some (.int (bI (isG g))) ∧ I' = I ∧ J' = J) := by
  refine MX.of hA (by decide) (own := RX5) rfl rfl rfl ?_
  intro X Z hl hY1 hY2 hY3 C hr
  obtain ⟨D0, ca0, ad0⟩ := Y
  dsimp only at hA hY1 hY2 hY3
  subst hY1; subst hY2; subst hY3; subst hl
  show G X 1 Z (QG X Z _) I J 0 [(0, .int g)] []
  refine g_ildn C dX5_isGraph_0 rfl ?_
  refine g_if_eq (tgt := 9) C dX5_isGraph_1 rfl (fun c_1 => ?_) (fun c_1 => ?_)
  · refine g_iconst C ((nI 1)) dX5_isGraph_9 (by decide) ?_
    refine g_goto (tgt := 14) C dX5_isGraph_10 rfl ?_
    exact g_zreturn C hr (by decide) dX5_isGraph_14 ⟨ret1 (decide_eq_true (by first | exact Or.inl (by assumption) | exact Or.inr (by assumption))), rfl, rfl⟩
  · refine g_ildn C dX5_isGraph_4 rfl ?_
    refine g_iconst C ((nI 1)) dX5_isGraph_5 (by decide) ?_
    refine g_icmp_ne (tgt := 13) C dX5_isGraph_6 rfl (fun c_2 => ?_) (fun c_2 => ?_)
    · refine g_iconst C ((nI 0)) dX5_isGraph_13 (by decide) ?_
      exact g_zreturn C hr (by decide) dX5_isGraph_14 ⟨ret0 (decide_eq_false (fun h => h.elim (by assumption) (by assumption))), rfl, rfl⟩
    · refine g_iconst C ((nI 1)) dX5_isGraph_9 (by decide) ?_
      refine g_goto (tgt := 14) C dX5_isGraph_10 rfl ?_
      exact g_zreturn C hr (by decide) dX5_isGraph_14 ⟨ret1 (decide_eq_true (by first | exact Or.inl (by assumption) | exact Or.inr (by assumption))), rfl, rfl⟩

set_option maxRecDepth 100000 in
set_option maxHeartbeats 4000000 in
theorem c_X6_isGraph {l : Launch} {Y : Yk} (hA : AJ Y.2.2) {I : SI} {J : SJ} (g : Int32) : MX l Y yX6_isGraph cX6_isGraph 1 (some .boolean) 0 0 [.int g] I J (fun v I' J' => v = some (.int (bI (isG g))) ∧ I' = I ∧ J' = J) := by
  refine MX.of hA (by decide) (own := RX6) rfl rfl rfl ?_
  intro X Z hl hY1 hY2 hY3 C hr
  obtain ⟨D0, ca0, ad0⟩ := Y
  dsimp only at hA hY1 hY2 hY3
  subst hY1; subst hY2; subst hY3; subst hl
  show G X 1 Z (QG X Z _) I J 0 [(0, .int g)] []
  refine g_ildn C dX6_isGraph_0 rfl ?_
  refine g_if_eq (tgt := 9) C dX6_isGraph_1 rfl (fun c_1 => ?_) (fun c_1 => ?_)
  · refine g_iconst C ((nI 1)) dX6_isGraph_9 (by decide) ?_
    refine g_goto (tgt := 14) C dX6_isGraph_10 rfl ?_
    exact g_zreturn C hr (by decide) dX6_isGraph_14 ⟨ret1 (decide_eq_true (by first | exact Or.inl (by assumption) | exact Or.inr (by assumption))), rfl, rfl⟩
  · refine g_ildn C dX6_isGraph_4 rfl ?_
    refine g_iconst C ((nI 1)) dX6_isGraph_5 (by decide) ?_
    refine g_icmp_ne (tgt := 13) C dX6_isGraph_6 rfl (fun c_2 => ?_) (fun c_2 => ?_)
    · refine g_iconst C ((nI 0)) dX6_isGraph_13 (by decide) ?_
      exact g_zreturn C hr (by decide) dX6_isGraph_14 ⟨ret0 (decide_eq_false (fun h => h.elim (by assumption) (by assumption))), rfl, rfl⟩
    · refine g_iconst C ((nI 1)) dX6_isGraph_9 (by decide) ?_
      refine g_goto (tgt := 14) C dX6_isGraph_10 rfl ?_
      exact g_zreturn C hr (by decide) dX6_isGraph_14 ⟨ret1 (decide_eq_true (by first | exact Or.inl (by assumption) | exact Or.inr (by assumption))), rfl, rfl⟩

set_option maxRecDepth 100000 in
set_option maxHeartbeats 4000000 in
theorem c_X5_isMark {l : Launch} {Y : Yk} (hA : AJ Y.2.2) {I : SI} {J : SJ} (x : Int32) : MX l Y yX5_isMark cX5_isMark 1 (some .boolean) 0 0 [.int x] I J (fun v I' J' => v = some (.int (bI (isM x))) ∧ I' = I ∧ J' = J) := by
  refine MX.of hA (by decide) (own := RX5) rfl rfl rfl ?_
  intro X Z hl hY1 hY2 hY3 C hr
  obtain ⟨D0, ca0, ad0⟩ := Y
  dsimp only at hA hY1 hY2 hY3
  subst hY1; subst hY2; subst hY3; subst hl
  show G X 1 Z (QG X Z _) I J 0 [(0, .int x)] []
  refine g_ildn C dX5_isMark_0 rfl ?_
  refine g_if_lt (tgt := 13) C dX5_isMark_1 rfl (fun c_1 => ?_) (fun c_1 => ?_)
  · refine g_iconst C ((nI 0)) dX5_isMark_13 (by decide) ?_
    exact g_zreturn C hr (by decide) dX5_isMark_14 ⟨ret0 (decide_eq_false (fun h => by first | exact absurd h.1 (Int32.not_le.mpr c_1) | exact absurd h.2 (Int32.not_le.mpr c_2))), rfl, rfl⟩
  · refine g_ildn C dX5_isMark_4 rfl ?_
    refine g_iconst C ((nI 3)) dX5_isMark_5 (by decide) ?_
    refine g_icmp_gt (tgt := 13) C dX5_isMark_6 rfl (fun c_2 => ?_) (fun c_2 => ?_)
    · refine g_iconst C ((nI 0)) dX5_isMark_13 (by decide) ?_
      exact g_zreturn C hr (by decide) dX5_isMark_14 ⟨ret0 (decide_eq_false (fun h => by first | exact absurd h.1 (Int32.not_le.mpr c_1) | exact absurd h.2 (Int32.not_le.mpr c_2))), rfl, rfl⟩
    · refine g_iconst C ((nI 1)) dX5_isMark_9 (by decide) ?_
      refine g_goto (tgt := 14) C dX5_isMark_10 rfl ?_
      exact g_zreturn C hr (by decide) dX5_isMark_14 ⟨ret1 (decide_eq_true ⟨Int32.not_lt.mp c_1, Int32.not_lt.mp c_2⟩), rfl, rfl⟩

set_option maxRecDepth 100000 in
set_option maxHeartbeats 4000000 in
theorem c_X1_pair {l : Launch} {Y : Yk} (hA : AJ Y.2.2) {I : SI} {J : SJ} {n : Nat} {T : Nat → Nat → Nat} {L : Nat → Nat → Nat → Nat} (hv : CV I n T L) {g u v : Nat} (hg : g < 2) (hu : u < n) (hw : v < n) : MX l Y yX1_pair cX1_pair 3 (some .int) 0 0 [.ref (Y.2.2 2 g), .int (nI u), .int (nI v)] I J (fun v' I' J' => v' = some (.int (nI (pr L g u v))) ∧ I' = I ∧ J' = J) := by
  refine MX.of hA (by decide) (own := RX1) rfl rfl rfl ?_
  intro X Z hl hY1 hY2 hY3 C hr
  obtain ⟨D0, ca0, ad0⟩ := Y
  dsimp only at hA hY1 hY2 hY3
  subst hY1; subst hY2; subst hY3; subst hl
  show G X 3 Z (QG X Z _) I J 0 [(0, .ref (Z.2.2.1 2 g)), (1, .int (nI u)), (2, .int (nI v))] []
  obtain ⟨⟨hn1, hn9⟩, -⟩ := id hv
  refine g_iconst C ((nI 4)) dX1_pair_0 (by decide) ?_
  refine g_aldn C dX1_pair_1 rfl ?_
  refine g_get C 2 g (by decide) (show g < 2 by omega) u1 rfl 2 rfl fX1_21 rfl rfl dX1_pair_2 ?_
  refine g_ildn C dX1_pair_5 rfl ?_
  refine g_aald C 4 g 3 (by decide) (show g < 2 by omega) (fun _ _ => rfl) rfl rfl u (show u < 9 by omega) rfl dX1_pair_6 ?_
  refine g_ildn C dX1_pair_7 rfl ?_
  refine g_iald C 5 (9 * g + u) (by decide) (show 9 * g + u < 18 by omega) (fun _ _ => rfl) v (show v < 9 by omega) rfl dX1_pair_8 (v := (nI (L g u v))) (hv.l (by omega) (by omega) (by omega)) ?_
  refine g_imul (v := (nI (4 * (L g u v)))) C dX1_pair_9 (pk_mul _ _) ?_
  refine g_aldn C dX1_pair_10 rfl ?_
  refine g_get C 2 g (by decide) (show g < 2 by omega) u1 rfl 2 rfl fX1_21 rfl rfl dX1_pair_11 ?_
  refine g_ildn C dX1_pair_14 rfl ?_
  refine g_aald C 4 g 3 (by decide) (show g < 2 by omega) (fun _ _ => rfl) rfl rfl v (show v < 9 by omega) rfl dX1_pair_15 ?_
  refine g_ildn C dX1_pair_16 rfl ?_
  refine g_iald C 5 (9 * g + v) (by decide) (show 9 * g + v < 18 by omega) (fun _ _ => rfl) u (show u < 9 by omega) rfl dX1_pair_17 (v := (nI (L g v u))) (hv.l (by omega) (by omega) (by omega)) ?_
  refine g_iadd (v := (nI (4 * (L g u v) + L g v u))) C dX1_pair_18 (nI_add _ _) ?_
  exact g_ireturn C hr dX1_pair_19 ⟨rfl, rfl, rfl⟩

set_option maxRecDepth 100000 in
set_option maxHeartbeats 4000000 in
theorem l_X1_edges_14 {X : Pk} {Z : Zk} {fr lo : Nat} {Q : State → Prop} {I : SI} {J : SJ} (C : Cx X cX1_edges 4 RX1 Z fr lo) {n : Nat} {T : Nat → Nat → Nat} {L : Nat → Nat → Nat → Nat} (hv : CV I n T L) {g : Nat} (hg : g < 2) {u e0 : Nat} (hu : u < n) (he : e0 < 1000) (hex : G X 4 Z Q I J 42 [(0, .ref (Z.2.2.1 2 g)), (1, .int (nI (e0 + ct (fun w => decide (0 < L g u w)) n))), (2, .int (nI u)), (3, .int (nI n))] []) : ∀ k v, n - v < k → v ≤ n → G X 4 Z Q I J 14 [(0, .ref (Z.2.2.1 2 g)), (1, .int (nI (e0 + ct (fun w => decide (0 < L g u w)) v))), (2, .int (nI u)), (3, .int (nI v))] [] := by
  obtain ⟨⟨hn1, hn9⟩, -⟩ := id hv
  intro k
  induction k with
  | zero => intro v h; exact absurd h (by omega)
  | succ k ih =>
    intro v hk hvn
    have hct := ct_le (fun w => decide (0 < L g u w)) v
    have h4 : v < n → L g u v < 4 := fun h => hv.l4 hg hu h
    refine g_ildn C dX1_edges_14 rfl ?_
    refine g_aldn C dX1_edges_15 rfl ?_
    refine g_get C 2 g (by decide) (show g < 2 by omega) u1 rfl 0 rfl fX1_9 rfl rfl dX1_edges_16 ?_
    refine g_top (y := (nI n)) (hv.sz (by omega)) ?_
    refine n_icmp_ge (tgt := 42) C dX1_edges_19 rfl (by omega) (by omega) (fun c_1 => ?_) (fun c_1 => ?_)
    · have e : v = n := by omega
      subst e
      refine g_lv [0, 1, 2, 3] rfl ?_
      exact hex
    · refine g_aldn C dX1_edges_22 rfl ?_
      refine g_get C 2 g (by decide) (show g < 2 by omega) u1 rfl 2 rfl fX1_21 rfl rfl dX1_edges_23 ?_
      refine g_ildn C dX1_edges_26 rfl ?_
      refine g_aald C 4 g 3 (by decide) (show g < 2 by omega) (fun _ _ => rfl) rfl rfl u (show u < 9 by omega) rfl dX1_edges_27 ?_
      refine g_ildn C dX1_edges_28 rfl ?_
      refine g_iald C 5 (9 * g + u) (by decide) (show 9 * g + u < 18 by omega) (fun _ _ => rfl) v (show v < 9 by omega) rfl dX1_edges_29 (v := (nI (L g u v))) (hv.l (by omega) (by omega) (by omega)) ?_
      refine n_if_le (tgt := 36) C dX1_edges_30 rfl (by omega) (fun c_2 => ?_) (fun c_2 => ?_)
      · refine g_iinc (lv' := [(3, .int (nI (v + 1))), (0, .ref (Z.2.2.1 2 g)), (1, .int (nI (e0 + ct (fun w => decide (0 < L g u w)) v))), (2, .int (nI u))]) C ((nI (v + 1))) dX1_edges_36 rfl (inc1 _) rfl rfl ?_
        refine g_goto (tgt := 14) C dX1_edges_39 rfl ?_
        refine g_lv (lv1 := [(0, .ref (Z.2.2.1 2 g)), (1, .int (nI (e0 + ct (fun w => decide (0 < L g u w)) (v + 1)))), (2, .int (nI u)), (3, .int (nI (v + 1)))]) [1, 2, 3, 0] (by rw [show e0 + ct (fun w => decide (0 < L g u w)) (v + 1) = e0 + ct (fun w => decide (0 < L g u w)) v by simp only [ct]; rw [if_neg (by simp; omega)]; rfl]; rfl) ?_
        exact ih (v + 1) (by omega) (by omega)
      · refine g_iinc (lv' := [(1, .int (nI (e0 + ct (fun w => decide (0 < L g u w)) v + 1))), (0, .ref (Z.2.2.1 2 g)), (2, .int (nI u)), (3, .int (nI v))]) C ((nI (e0 + ct (fun w => decide (0 < L g u w)) v + 1))) dX1_edges_33 rfl (inc1 _) rfl rfl ?_
        refine g_iinc (lv' := [(3, .int (nI (v + 1))), (1, .int (nI (e0 + ct (fun w => decide (0 < L g u w)) v + 1))), (0, .ref (Z.2.2.1 2 g)), (2, .int (nI u))]) C ((nI (v + 1))) dX1_edges_36 rfl (inc1 _) rfl rfl ?_
        refine g_goto (tgt := 14) C dX1_edges_39 rfl ?_
        refine g_lv (lv1 := [(0, .ref (Z.2.2.1 2 g)), (1, .int (nI (e0 + ct (fun w => decide (0 < L g u w)) (v + 1)))), (2, .int (nI u)), (3, .int (nI (v + 1)))]) [2, 1, 3, 0] (by rw [show e0 + ct (fun w => decide (0 < L g u w)) (v + 1) = e0 + ct (fun w => decide (0 < L g u w)) v + 1 by simp only [ct]; rw [if_pos (decide_eq_true (by omega))]; omega]; rfl) ?_
        exact ih (v + 1) (by omega) (by omega)

set_option maxRecDepth 100000 in
set_option maxHeartbeats 4000000 in
theorem l_X1_edges_4 {X : Pk} {Z : Zk} {fr lo : Nat} {I : SI} {J : SJ} (hr : (xE X).sig.returnType = some .int) (C : Cx X cX1_edges 4 RX1 Z fr lo) {n : Nat} {T : Nat → Nat → Nat} {L : Nat → Nat → Nat → Nat} (hv : CV I n T L) {g : Nat} (hg : g < 2) : ∀ k u, n - u < k → u ≤ n → G X 4 Z (QG X Z (fun v' I' J' => v' = some (.int (nI (ed n L g))) ∧ I' = I ∧ J' = J)) I J 4 [(0, .ref (Z.2.2.1 2 g)), (1, .int (nI (sm (fun u => ct (fun w => decide (0 < L g u w)) n) u))), (2, .int (nI u))] [] := by
  obtain ⟨⟨hn1, hn9⟩, -⟩ := id hv
  intro k
  induction k with
  | zero => intro v h; exact absurd h (by omega)
  | succ k ih =>
    intro u hk hun
    have hsm := sm_le (f := (fun u => ct (fun w => decide (0 < L g u w)) n)) (b := n) (fun i => ct_le _ n) u
    have hsm2 : n * u ≤ 9 * 9 := Nat.mul_le_mul hn9 (by omega)
    refine g_ildn C dX1_edges_4 rfl ?_
    refine g_aldn C dX1_edges_5 rfl ?_
    refine g_get C 2 g (by decide) (show g < 2 by omega) u1 rfl 0 rfl fX1_9 rfl rfl dX1_edges_6 ?_
    refine g_top (y := (nI n)) (hv.sz (by omega)) ?_
    refine n_icmp_ge (tgt := 48) C dX1_edges_9 rfl (by omega) (by omega) (fun c_1 => ?_) (fun c_1 => ?_)
    · refine g_ildn C dX1_edges_48 rfl ?_
      exact g_ireturn C hr dX1_edges_49 ⟨by rw [show u = n by omega]; rfl, rfl, rfl⟩
    · refine g_iconst C ((nI 0)) dX1_edges_12 (by decide) ?_
      refine g_istn (lv' := [(3, .int (nI 0)), (0, .ref (Z.2.2.1 2 g)), (1, .int (nI (sm (fun u => ct (fun w => decide (0 < L g u w)) n) u))), (2, .int (nI u))]) C dX1_edges_13 rfl rfl ?_
      refine g_lv [1, 2, 3, 0] rfl ?_
      refine l_X1_edges_14 (e0 := sm (fun u => ct (fun w => decide (0 < L g u w)) n) u) C hv hg (u := u) (by omega) (by omega) ?_ (n + 1) 0 (by omega) (by omega)
      show G X 4 Z _ I J 42 [(0, .ref (Z.2.2.1 2 g)), (1, .int (nI (sm (fun u => ct (fun w => decide (0 < L g u w)) n) (u + 1)))), (2, .int (nI u)), (3, .int (nI n))] []
      refine g_iinc (lv' := [(2, .int (nI (u + 1))), (0, .ref (Z.2.2.1 2 g)), (1, .int (nI (sm (fun u => ct (fun w => decide (0 < L g u w)) n) (u + 1)))), (3, .int (nI n))]) C ((nI (u + 1))) dX1_edges_42 rfl (inc1 _) rfl rfl ?_
      refine g_goto (tgt := 4) C dX1_edges_45 rfl ?_
      refine g_lv [1, 2, 0] rfl ?_
      exact ih (u + 1) (by omega) (by omega)

set_option maxRecDepth 100000 in
set_option maxHeartbeats 4000000 in
theorem c_X1_edges {l : Launch} {Y : Yk} (hA : AJ Y.2.2) {I : SI} {J : SJ} {n : Nat} {T : Nat → Nat → Nat} {L : Nat → Nat → Nat → Nat} (hv : CV I n T L) {g : Nat} (hg : g < 2) : MX l Y yX1_edges cX1_edges 4 (some .int) 0 0 [.ref (Y.2.2 2 g)] I J (fun v' I' J' => v' = some (.int (nI (ed n L g))) ∧ I' = I ∧ J' = J) := by
  refine MX.of hA (by decide) (own := RX1) rfl rfl rfl ?_
  intro X Z hl hY1 hY2 hY3 C hr
  obtain ⟨D0, ca0, ad0⟩ := Y
  dsimp only at hA hY1 hY2 hY3
  subst hY1; subst hY2; subst hY3; subst hl
  show G X 4 Z (QG X Z _) I J 0 [(0, .ref (Z.2.2.1 2 g))] []
  refine g_iconst C ((nI 0)) dX1_edges_0 (by decide) ?_
  refine g_istn (lv' := [(1, .int (nI 0)), (0, .ref (Z.2.2.1 2 g))]) C dX1_edges_1 rfl rfl ?_
  refine g_iconst C ((nI 0)) dX1_edges_2 (by decide) ?_
  refine g_istn (lv' := [(2, .int (nI 0)), (1, .int (nI 0)), (0, .ref (Z.2.2.1 2 g))]) C dX1_edges_3 rfl rfl ?_
  refine g_lv [2, 1, 0] rfl ?_
  exact l_X1_edges_4 hr C hv hg (n + 1) 0 (by omega) (by omega)
end
section
/-! ===== Arrays.fill over the one world ===== -/
/-- the first n places are x -/
def fl {α : Type} (f : Nat → α) (n : Nat) (x : α) : Nat → α := fun i => if i < n then x else f i
theorem fl_lt {α : Type} {f : Nat → α} {n i : Nat} {x : α} (h : i < n) : fl f n x i = x := if_pos h
theorem fl_0 {α : Type} (f : Nat → α) (x : α) : fl f 0 x = f := rfl
theorem fl_s {α : Type} (f : Nat → α) (n : Nat) (x : α) : va_up (fl f n x) n x = fl f (n + 1) x := by
  funext i
  by_cases h : i = n
  · subst h; rw [va_up_self, fl_lt (by omega)]
  · rw [va_up_ne _ _ h]
    unfold fl
    by_cases h2 : i < n
    · rw [if_pos h2, if_pos (by omega)]
    · rw [if_neg h2, if_neg (by omega)]
theorem up2_row_self {α : Type} (F : Nat → Nat → α) (r i : Nat) (x : α) (f : Nat → α) : up2 (va_up F r f) r i x = va_up F r (va_up f i x) := by
  unfold up2
  rw [va_up_self, bx_uu]
theorem va_up_id {α : Type} (F : Nat → α) (r : Nat) : va_up F r (F r) = F := by
  funext i
  by_cases h : i = r
  · subst h; rw [va_up_self]
  · rw [va_up_ne _ _ h]
set_option maxRecDepth 100000 in
set_option maxHeartbeats 4000000 in
theorem l_fillI {X : Pk} {Z : Zk} {fr lo : Nat} {I : SI} {J : SJ} (C : Cx X cJ7_fill_53178 4 RJ7 Z fr lo) (hr : (xE X).sig.returnType = none) {k r n : Nat} {x : Int32} (hk : k < 38) (hrr : r < cnt k) (hs : ∀ f g, SSr Z.2.1 Z.2.2.1 k r f g = .inl (Z.2.1 0, n, .inl f)) (hn : n ≤ 1000) :
    ∀ m j, n - j < m → j ≤ n → G X 4 Z (QG X Z (fun v I' J' => v = none ∧ I' = sK I k (va_up (I k) r (fl (I k r) n x)) ∧ J' = J)) (sK I k (va_up (I k) r (fl (I k r) j x))) J 5 [(0, .ref (Z.2.2.1 k r)), (1, .int x), (2, .int (nI j)), (3, .int (nI n))] [] := by
  have hble : Nat.ble n 1000 = true := Nat.ble_eq.mpr hn
  intro m
  induction m with
  | zero => intro j h; exact absurd h (by omega)
  | succ m ih =>
    intro j hm hj
    refine g_ildn C dJ7_fill_53178_5 rfl ?_
    refine g_ildn C dJ7_fill_53178_6 rfl ?_
    refine n_icmp_ge (tgt := 20) C dJ7_fill_53178_7 rfl (by omega) (by omega) (fun c => ?_) (fun c => ?_)
    · have e : j = n := by omega
      subst e
      exact g_return C hr dJ7_fill_53178_20 ⟨rfl, rfl, rfl⟩
    · refine g_aldn C dJ7_fill_53178_10 rfl ?_
      refine g_ildn C dJ7_fill_53178_11 rfl ?_
      refine g_ildn C dJ7_fill_53178_12 rfl ?_
      refine g_iast C k r hk hrr hs j c hble dJ7_fill_53178_13 ?_
      refine g_I (I1 := sK I k (va_up (I k) r (fl (I k r) (j + 1) x))) (by rw [sK_self, sK_sK, up2_row_self, fl_s]) ?_
      refine g_iinc (lv' := [(2, .int (nI (j + 1))), (0, .ref (Z.2.2.1 k r)), (1, .int x), (3, .int (nI n))]) C (nI (j + 1)) dJ7_fill_53178_14 rfl (inc1 _) rfl rfl ?_
      refine g_goto (tgt := 5) C dJ7_fill_53178_17 rfl ?_
      refine g_lv [1, 2, 0, 3] rfl ?_
      exact ih (j + 1) (by omega) (by omega)
section GL
variable {X : Pk} {cc : ByteArray} {nL : Nat} {own : String} {Z : Zk} {fr lo : Nat} {Q : State → Prop} {I : SI} {J : SJ} {pc : Nat} {lv lv' : List (Nat × Value)} {st : List Value}
theorem g_alenI (C : Cx X cc nL own Z fr lo) (k r : Nat) (hk : k < 38) (hr : r < cnt k) {n : Nat} (hs : ∀ f g, SSr Z.2.1 Z.2.2.1 k r f g = .inl (Z.2.1 0, n, .inl f)) (d : decode cc pc = .ok (.arraylength, 1)) (kk : G X nL Z Q I J (pc + 1) lv (.int (nI n) :: st)) : G X nL Z Q I J pc lv (.ref (Z.2.2.1 k r) :: st) := by
  intro H locs ls hP hS hl
  obtain ⟨q, hq⟩ := wl_get hk hr
  have ha := wl_at (ca := Z.2.1) (ad := Z.2.2.1) (I := I) (J := J) hq
  dsimp only at ha
  rw [hs] at ha
  exact va_alen C.1 C.2.1 C.2.2.2.2.2.1.1 hP q 0 ha (ty := .int) rfl rfl d (kk H locs ls hP hS hl)
theorem g_alenJ (C : Cx X cc nL own Z fr lo) (k r : Nat) (hk : k < 38) (hr : r < cnt k) {n : Nat} (hs : ∀ f g, SSr Z.2.1 Z.2.2.1 k r f g = .inl (Z.2.1 1, n, .inr (.inl g))) (d : decode cc pc = .ok (.arraylength, 1)) (kk : G X nL Z Q I J (pc + 1) lv (.int (nI n) :: st)) : G X nL Z Q I J pc lv (.ref (Z.2.2.1 k r) :: st) := by
  intro H locs ls hP hS hl
  obtain ⟨q, hq⟩ := wl_get hk hr
  have ha := wl_at (ca := Z.2.1) (ad := Z.2.2.1) (I := I) (J := J) hq
  dsimp only at ha
  rw [hs] at ha
  exact va_alen C.1 C.2.1 C.2.2.2.2.2.1.1 hP q 1 ha (ty := .long) rfl rfl d (kk H locs ls hP hS hl)
end GL
set_option maxRecDepth 100000 in
set_option maxHeartbeats 4000000 in
/-- Arrays.fill(int[], int) -/
theorem c_fillI {l : Launch} {Y : Yk} (hA : AJ Y.2.2) {I : SI} {J : SJ} {k r n : Nat} {x : Int32} (hk : k < 38) (hrr : r < cnt k) (hs : ∀ f g, SSr Y.2.1 Y.2.2 k r f g = .inl (Y.2.1 0, n, .inl f)) (hn : n ≤ 1000) : MX l Y yJ7_fill_53178 cJ7_fill_53178 4 none 0 0 [.ref (Y.2.2 k r), .int x] I J (fun v I' J' => v = none ∧ I' = sK I k (va_up (I k) r (fl (I k r) n x)) ∧ J' = J) := by
  refine MX.of hA (by decide) (own := RJ7) rfl rfl rfl ?_
  intro X Z hl hY1 hY2 hY3 C hr
  obtain ⟨D0, ca0, ad0⟩ := Y
  dsimp only at hA hY1 hY2 hY3 hs
  subst hY1; subst hY2; subst hY3; subst hl
  show G X 4 Z (QG X Z _) I J 0 [(0, .ref (Z.2.2.1 k r)), (1, .int x)] []
  refine g_iconst C (nI 0) dJ7_fill_53178_0 (by decide) ?_
  refine g_istn (lv' := [(2, .int (nI 0)), (0, .ref (Z.2.2.1 k r)), (1, .int x)]) C dJ7_fill_53178_1 rfl rfl ?_
  refine g_aldn C dJ7_fill_53178_2 rfl ?_
  refine g_alenI C k r hk hrr hs dJ7_fill_53178_3 ?_
  refine g_istn (lv' := [(3, .int (nI n)), (2, .int (nI 0)), (0, .ref (Z.2.2.1 k r)), (1, .int x)]) C dJ7_fill_53178_4 rfl rfl ?_
  refine g_lv [2, 3, 1, 0] rfl ?_
  refine g_I (I1 := sK I k (va_up (I k) r (fl (I k r) 0 x))) (by rw [fl_0, va_up_id, sK_id]) ?_
  exact l_fillI C hr hk hrr hs hn (n + 1) 0 (by omega) (by omega)
set_option maxRecDepth 100000 in
set_option maxHeartbeats 4000000 in
theorem l_fillJ {X : Pk} {Z : Zk} {fr lo : Nat} {I : SI} {J : SJ} (C : Cx X cJ7_fill_d0a16 5 RJ7 Z fr lo) (hr : (xE X).sig.returnType = none) {k r n : Nat} {x : Int64} (hk : k < 38) (hrr : r < cnt k) (hs : ∀ f g, SSr Z.2.1 Z.2.2.1 k r f g = .inl (Z.2.1 1, n, .inr (.inl g))) (hn : n ≤ 1000) :
    ∀ m j, n - j < m → j ≤ n → G X 5 Z (QG X Z (fun v I' J' => v = none ∧ I' = I ∧ J' = sK J k (va_up (J k) r (fl (J k r) n x)))) I (sK J k (va_up (J k) r (fl (J k r) j x))) 6 [(0, .ref (Z.2.2.1 k r)), (1, .long x), (3, .int (nI j)), (4, .int (nI n))] [] := by
  have hble : Nat.ble n 1000 = true := Nat.ble_eq.mpr hn
  intro m
  induction m with
  | zero => intro j h; exact absurd h (by omega)
  | succ m ih =>
    intro j hm hj
    refine g_ildn C dJ7_fill_d0a16_6 rfl ?_
    refine g_ild C dJ7_fill_d0a16_7 rfl ?_
    refine n_icmp_ge (tgt := 22) C dJ7_fill_d0a16_9 rfl (by omega) (by omega) (fun c => ?_) (fun c => ?_)
    · have e : j = n := by omega
      subst e
      exact g_return C hr dJ7_fill_d0a16_22 ⟨rfl, rfl, rfl⟩
    · refine g_aldn C dJ7_fill_d0a16_12 rfl ?_
      refine g_ildn C dJ7_fill_d0a16_13 rfl ?_
      refine g_lldn C dJ7_fill_d0a16_14 rfl ?_
      refine g_last C k r hk hrr hs j c hble dJ7_fill_d0a16_15 ?_
      refine g_J (J1 := sK J k (va_up (J k) r (fl (J k r) (j + 1) x))) (by rw [sK_self, sK_sK, up2_row_self, fl_s]) ?_
      refine g_iinc (lv' := [(3, .int (nI (j + 1))), (0, .ref (Z.2.2.1 k r)), (1, .long x), (4, .int (nI n))]) C (nI (j + 1)) dJ7_fill_d0a16_16 rfl (inc1 _) rfl rfl ?_
      refine g_goto (tgt := 6) C dJ7_fill_d0a16_19 rfl ?_
      refine g_lv [1, 2, 0, 3] rfl ?_
      exact ih (j + 1) (by omega) (by omega)
set_option maxRecDepth 100000 in
set_option maxHeartbeats 4000000 in
/-- Arrays.fill(long[], long) -/
theorem c_fillJ {l : Launch} {Y : Yk} (hA : AJ Y.2.2) {I : SI} {J : SJ} {k r n : Nat} {x : Int64} (hk : k < 38) (hrr : r < cnt k) (hs : ∀ f g, SSr Y.2.1 Y.2.2 k r f g = .inl (Y.2.1 1, n, .inr (.inl g))) (hn : n ≤ 1000) : MX l Y yJ7_fill_d0a16 cJ7_fill_d0a16 5 none 0 0 [.ref (Y.2.2 k r), .long x] I J (fun v I' J' => v = none ∧ I' = I ∧ J' = sK J k (va_up (J k) r (fl (J k r) n x))) := by
  refine MX.of hA (by decide) (own := RJ7) rfl rfl rfl ?_
  intro X Z hl hY1 hY2 hY3 C hr
  obtain ⟨D0, ca0, ad0⟩ := Y
  dsimp only at hA hY1 hY2 hY3 hs
  subst hY1; subst hY2; subst hY3; subst hl
  show G X 5 Z (QG X Z _) I J 0 [(0, .ref (Z.2.2.1 k r)), (1, .long x)] []
  refine g_iconst C (nI 0) dJ7_fill_d0a16_0 (by decide) ?_
  refine g_istn (lv' := [(3, .int (nI 0)), (0, .ref (Z.2.2.1 k r)), (1, .long x)]) C dJ7_fill_d0a16_1 rfl rfl ?_
  refine g_aldn C dJ7_fill_d0a16_2 rfl ?_
  refine g_alenJ C k r hk hrr hs dJ7_fill_d0a16_3 ?_
  refine g_ist (lv' := [(4, .int (nI n)), (3, .int (nI 0)), (0, .ref (Z.2.2.1 k r)), (1, .long x)]) C dJ7_fill_d0a16_4 rfl rfl ?_
  refine g_lv [2, 3, 1, 0] rfl ?_
  refine g_J (J1 := sK J k (va_up (J k) r (fl (J k r) 0 x))) (by rw [fl_0, va_up_id, sK_id]) ?_
  exact l_fillJ C hr hk hrr hs hn (n + 1) 0 (by omega) (by omega)
end
section
/-! ===== bits (families of the kit's BITS text), and rows of our own on them ===== -/
theorem nx_and (a b : Nat) : nI a &&& nI b = nI (a &&& b) := by
  apply Int32.toBitVec_inj.1
  show BitVec.ofNat 32 a &&& BitVec.ofNat 32 b = BitVec.ofNat 32 (a &&& b)
  apply BitVec.eq_of_getLsbD_eq
  intro i hi
  simp [hi]
theorem wb_tb (n : Nat) : (lN n).toBitVec = BitVec.ofNat 64 n := rfl
theorem wb_inj {a b : Int64} (h : a.toBitVec = b.toBitVec) : a = b := Int64.toBitVec_inj.mp h
theorem wb_tn {n : Nat} (h : n < 2 ^ 64) : (lN n).toBitVec.toNat = n := by rw [wb_tb, BitVec.toNat_ofNat, Nat.mod_eq_of_lt h]
theorem wb_c : ∀ k, k < 64 → ((nI k).toInt64 &&& 63) = lN k := by decide +kernel
theorem wb_sm : ∀ k, k < 64 → (BitVec.ofNat 64 k).smod 64 = BitVec.ofNat 64 k := by decide +kernel
theorem wb_pw {a b : Nat} (h : a ≤ b) : 2 ^ b = 2 ^ a * 2 ^ (b - a) := by rw [← Nat.pow_add]; congr 1; omega
theorem wb_lt2 {a b : Nat} (h : a < b) : 2 ^ a < 2 ^ b := Nat.pow_lt_pow_right (by decide) h
theorem wb_shl (n : Nat) {k : Nat} (hk : k < 64) : lN n <<< ((nI k).toInt64 &&& 63) = lN (n * 2 ^ k) := by
  rw [wb_c k hk]
  apply wb_inj
  rw [Int64.toBitVec_shiftLeft, wb_tb, wb_tb, wb_tb, wb_sm k hk]
  apply BitVec.eq_of_toNat_eq
  rw [BitVec.shiftLeft_eq', BitVec.toNat_shiftLeft, BitVec.toNat_ofNat, BitVec.toNat_ofNat, BitVec.toNat_ofNat, Nat.mod_eq_of_lt (show k < 2 ^ 64 by omega), Nat.shiftLeft_eq, Nat.mul_mod, Nat.mod_mod, ← Nat.mul_mod]
theorem wb_or {a b : Nat} (ha : a < 2 ^ 64) (hb : b < 2 ^ 64) : lN a ||| lN b = lN (a ||| b) := by
  apply wb_inj
  rw [Int64.toBitVec_or, wb_tb, wb_tb, wb_tb]
  apply BitVec.eq_of_toNat_eq
  rw [BitVec.toNat_or, BitVec.toNat_ofNat, BitVec.toNat_ofNat, BitVec.toNat_ofNat, Nat.mod_eq_of_lt ha, Nat.mod_eq_of_lt hb, Nat.mod_eq_of_lt (Nat.or_lt_two_pow ha hb)]
theorem pf_lI {a : Nat} (h : a < 2 ^ 63) : (lN a).toInt = (a : Int) := lg_ofNat_toInt h
theorem pf_shr {a d : Nat} {D : Int64} (hD : (D.toBitVec.smod 64).toNat = d) (h : a < 2 ^ 62) : lN a >>> D = lN (a / 2 ^ d) := by
  have hd : a / 2 ^ d ≤ a := Nat.div_le_self _ _
  apply Int64.toInt_inj.mp
  have e : (lN a >>> D).toInt = (lN a).toInt >>> d := by
    rw [← hD]
    exact BitVec.toInt_sshiftRight ..
  rw [e, Int.shiftRight_eq_div_pow, pf_lI (by omega), pf_lI (by omega)]
  rfl
theorem u_tn {n : Nat} (h : n < 2 ^ 64) : (UInt64.ofNat n).toNat = n := Nat.mod_eq_of_lt h
theorem g_or {k p a b : Nat} (hp : 2 ^ k = p) (ha : a < p) (h : b * p + a < 2 ^ 64) : lN (b * p) ||| lN a = lN (b * p + a) := by
  subst hp
  have h1 : b * 2 ^ k ||| a = b * 2 ^ k + a := by rw [← Nat.shiftLeft_eq, Nat.shiftLeft_add_eq_or_of_lt ha]
  have h3 : UInt64.ofNat (b * 2 ^ k) ||| UInt64.ofNat a = UInt64.ofNat (b * 2 ^ k + a) := UInt64.toNat_inj.mp (by rw [UInt64.toNat_or, u_tn (by omega), u_tn (by omega), u_tn h, h1])
  have h2 := congrArg UInt64.toInt64 h3
  exact h2
theorem s_l : ∀ n, n < 32 → ((nI n &&& 31).toBitVec.smod 32).toNat = n := by decide +kernel
theorem wb_cn : ∀ k, k < 64 → ((lN k).toBitVec.smod 64).toNat = k := by decide +kernel
theorem lshrN {a d : Nat} (ha : a < 2 ^ 62) (hd : d < 64) : lN a >>> ((nI d).toInt64 &&& 63) = lN (a / 2 ^ d) := by
  rw [wb_c d hd]
  exact pf_shr (wb_cn d hd) ha
theorem and3 (n : Nat) : nI n &&& nI 3 = nI (n % 4) := by
  rw [pk_and (nI n) (m := nI 3) 2 (by decide)]
  congr 1
  show (BitVec.ofNat 32 n).toNat % 4 = n % 4
  rw [BitVec.toNat_ofNat]
  omega
theorem and1 (n : Nat) : nI n &&& nI 1 = nI (n % 2) := by
  rw [pk_and (nI n) (m := nI 1) 1 (by decide)]
  congr 1
  show (BitVec.ofNat 32 n).toNat % 2 = n % 2
  rw [BitVec.toNat_ofNat]
  omega
theorem orI (a b : Nat) : nI a ||| nI b = nI (a ||| b) := by
  apply Int32.toBitVec_inj.1
  show BitVec.ofNat 32 a ||| BitVec.ofNat 32 b = BitVec.ofNat 32 (a ||| b)
  apply BitVec.eq_of_getLsbD_eq
  intro i hi
  simp [hi]
theorem shl1 : ∀ w, w < 16 → nI 1 <<< (nI w &&& 31) = nI (2 ^ w) := by decide +kernel
theorem shrI {a d : Nat} (ha : a < 2 ^ 31) (hd : d < 32) : nI a >>> (nI d &&& 31) = nI (a / 2 ^ d) := pk_shrN ha _ d (s_l d hd)
/-- a without the bits of b -/
def wo (a b : Nat) : Nat := a ^^^ (a &&& b)
theorem wo_bit (a b i : Nat) : (wo a b).testBit i = (a.testBit i && !b.testBit i) := by
  unfold wo
  rw [Nat.testBit_xor, Nat.testBit_and]
  cases a.testBit i <;> cases b.testBit i <;> rfl
theorem notI (b : Nat) (a : Nat) : nI a &&& (nI b ^^^ (-1)) = nI (wo a b) := by
  apply Int32.toBitVec_inj.1
  show BitVec.ofNat 32 a &&& (BitVec.ofNat 32 b ^^^ (-1 : Int32).toBitVec) = BitVec.ofNat 32 (wo a b)
  rw [show (-1 : Int32).toBitVec = BitVec.allOnes 32 by decide]
  apply BitVec.eq_of_getLsbD_eq
  intro i hi
  simp only [BitVec.getLsbD_and, BitVec.getLsbD_xor, BitVec.getLsbD_allOnes, BitVec.getLsbD_ofNat, hi, decide_true, Bool.true_and, wo_bit]
  cases a.testBit i <;> cases b.testBit i <;> rfl
theorem bit_t {a i : Nat} (h : a / 2 ^ i % 2 = 1) : a.testBit i = true := by rw [Nat.testBit_eq_decide_div_mod_eq]; exact decide_eq_true h
theorem bit_f {a i : Nat} (h : a / 2 ^ i % 2 ≠ 1) : a.testBit i = false := by rw [Nat.testBit_eq_decide_div_mod_eq]; exact decide_eq_false h
end
section
/-! ===== Graph: isAlike, formNumber, empty, become, swap ===== -/
/-- nothing changes if only u and v are exchanged -/
def alk (n : Nat) (T : Nat → Nat → Nat) (L : Nat → Nat → Nat → Nat) (g u v : Nat) : Prop := T g u = T g v ∧ L g u v = L g v u ∧ ∀ w, w < n → w ≠ u → w ≠ v → pr L g u w = pr L g v w
set_option maxRecDepth 100000 in
set_option maxHeartbeats 4000000 in
theorem l_X1_isAlike_38 {X : Pk} {Z : Zk} {I : SI} {J : SJ} (hA : AJ Z.2.2.1) (C : Cx X cX1_isAlike 4 RX1 Z 1 40) (hr : (xE X).sig.returnType = some .boolean) {n : Nat} {T : Nat → Nat → Nat} {L : Nat → Nat → Nat → Nat} (hv : CV I n T L) {g u v : Nat} (hg : g < 2) (hu : u < n) (hw : v < n) (e1 : T g u = T g v) (e2 : L g u v = L g v u) : ∀ k w, n - w < k → w ≤ n → (∀ a, a < w → a ≠ u → a ≠ v → pr L g u a = pr L g v a) → G X 4 Z (QG X Z (fun v' I' J' => ∃ b : Bool, v' = some (.int (bI b)) ∧ (b = true ↔ alk n T L g u v) ∧ I' = I ∧ J' = J)) I J 38 [(0, .ref (Z.2.2.1 2 g)), (1, .int (nI u)), (2, .int (nI v)), (3, .int (nI w))] [] := by
  obtain ⟨⟨hn1, hn9⟩, -⟩ := id hv
  have hp : ∀ a b, a < n → b < n → pr L g a b < 20 := fun a b h1 h2 => by have := hv.l4 hg h1 h2; have := hv.l4 hg h2 h1; unfold pr; omega
  intro k
  induction k with
  | zero => intro v h; exact absurd h (by omega)
  | succ k ih =>
    intro w hk hwn hin
    have hq1 : w < n → pr L g u w < 20 := fun h => hp _ _ hu h
    have hq2 : w < n → pr L g v w < 20 := fun h => hp _ _ hw h
    refine g_ildn C dX1_isAlike_38 rfl ?_
    refine g_aldn C dX1_isAlike_39 rfl ?_
    refine g_get C 2 g (by decide) (show g < 2 by omega) u1 rfl 0 rfl fX1_9 rfl rfl dX1_isAlike_40 ?_
    refine g_top (y := (nI n)) (hv.sz (by omega)) ?_
    refine n_icmp_ge (tgt := 79) C dX1_isAlike_43 rfl (by omega) (by omega) (fun c_1 => ?_) (fun c_1 => ?_)
    · refine g_iconst C ((nI 1)) dX1_isAlike_79 (by decide) ?_
      exact g_zreturn C hr (by decide) dX1_isAlike_80 ⟨true, rfl, ⟨fun _ => ⟨e1, e2, fun w h => hin w (by omega)⟩, fun _ => rfl⟩, rfl, rfl⟩
    · refine g_ildn C dX1_isAlike_46 rfl ?_
      refine g_ildn C dX1_isAlike_47 rfl ?_
      refine n_icmp_eq (tgt := 73) C dX1_isAlike_48 rfl (by omega) (by omega) (fun c_2 => ?_) (fun c_2 => ?_)
      · refine g_iinc (lv' := [(3, .int (nI (w + 1))), (0, .ref (Z.2.2.1 2 g)), (1, .int (nI u)), (2, .int (nI v))]) C ((nI (w + 1))) dX1_isAlike_73 rfl (inc1 _) rfl rfl ?_
        refine g_goto (tgt := 38) C dX1_isAlike_76 rfl ?_
        refine g_lv [1, 2, 3, 0] rfl ?_
        exact ih (w + 1) (by omega) (by omega) (fun a ha h1 h2 => (Nat.lt_or_eq_of_le (Nat.le_of_lt_succ ha)).elim (fun h => hin a h h1 h2) (fun h => by subst h; first | exact absurd rfl h1 | exact absurd rfl h2 | (exfalso; omega) | assumption))
      · refine g_ildn C dX1_isAlike_51 rfl ?_
        refine g_ildn C dX1_isAlike_52 rfl ?_
        refine n_icmp_eq (tgt := 73) C dX1_isAlike_53 rfl (by omega) (by omega) (fun c_3 => ?_) (fun c_3 => ?_)
        · refine g_iinc (lv' := [(3, .int (nI (w + 1))), (0, .ref (Z.2.2.1 2 g)), (1, .int (nI u)), (2, .int (nI v))]) C ((nI (w + 1))) dX1_isAlike_73 rfl (inc1 _) rfl rfl ?_
          refine g_goto (tgt := 38) C dX1_isAlike_76 rfl ?_
          refine g_lv [1, 2, 3, 0] rfl ?_
          exact ih (w + 1) (by omega) (by omega) (fun a ha h1 h2 => (Nat.lt_or_eq_of_le (Nat.le_of_lt_succ ha)).elim (fun h => hin a h h1 h2) (fun h => by subst h; first | exact absurd rfl h1 | exact absurd rfl h2 | (exfalso; omega) | assumption))
        · refine g_aldn C dX1_isAlike_56 rfl ?_
          refine g_ildn C dX1_isAlike_57 rfl ?_
          refine g_ildn C dX1_isAlike_58 rfl ?_
          refine g_callV (As := [.int (nI u), .int (nI w)]) (st := []) C (c_X1_pair hA hv hg (show u < n by omega) (show w < n by omega)) wX1_pair iX1_pair sX1_pair mX1_46 2 g (by decide) (show g < 2 by omega) rfl rfl rfl rfl rfl rfl rfl rfl dX1_isAlike_59 ?_
          rintro v9 I9 J9 ⟨h91, h92, h93⟩
          rw [h91, h92, h93]
          clear h91 h92 h93 v9 I9 J9
          show G X _ Z _ I J 62 [(0, .ref (Z.2.2.1 2 g)), (1, .int (nI u)), (2, .int (nI v)), (3, .int (nI w))] [.int (nI (pr L g u w))]
          refine g_aldn C dX1_isAlike_62 rfl ?_
          refine g_ildn C dX1_isAlike_63 rfl ?_
          refine g_ildn C dX1_isAlike_64 rfl ?_
          refine g_callV (As := [.int (nI v), .int (nI w)]) (st := [.int (nI (pr L g u w))]) C (c_X1_pair hA hv hg (show v < n by omega) (show w < n by omega)) wX1_pair iX1_pair sX1_pair mX1_46 2 g (by decide) (show g < 2 by omega) rfl rfl rfl rfl rfl rfl rfl rfl dX1_isAlike_65 ?_
          rintro v9 I9 J9 ⟨h91, h92, h93⟩
          rw [h91, h92, h93]
          clear h91 h92 h93 v9 I9 J9
          show G X _ Z _ I J 68 [(0, .ref (Z.2.2.1 2 g)), (1, .int (nI u)), (2, .int (nI v)), (3, .int (nI w))] [.int (nI (pr L g v w)), .int (nI (pr L g u w))]
          refine n_icmp_eq (tgt := 73) C dX1_isAlike_68 rfl (by omega) (by omega) (fun c_4 => ?_) (fun c_4 => ?_)
          · refine g_iinc (lv' := [(3, .int (nI (w + 1))), (0, .ref (Z.2.2.1 2 g)), (1, .int (nI u)), (2, .int (nI v))]) C ((nI (w + 1))) dX1_isAlike_73 rfl (inc1 _) rfl rfl ?_
            refine g_goto (tgt := 38) C dX1_isAlike_76 rfl ?_
            refine g_lv [1, 2, 3, 0] rfl ?_
            exact ih (w + 1) (by omega) (by omega) (fun a ha h1 h2 => (Nat.lt_or_eq_of_le (Nat.le_of_lt_succ ha)).elim (fun h => hin a h h1 h2) (fun h => by subst h; first | exact absurd rfl h1 | exact absurd rfl h2 | (exfalso; omega) | assumption))
          · refine g_iconst C ((nI 0)) dX1_isAlike_71 (by decide) ?_
            exact g_zreturn C hr (by decide) dX1_isAlike_72 ⟨false, rfl, ⟨fun h => absurd h (by decide), fun h => absurd (h.2.2 w (by omega) (by assumption) (by assumption)) (by assumption)⟩, rfl, rfl⟩

set_option maxRecDepth 100000 in
set_option maxHeartbeats 4000000 in
/-- isAlike -/
theorem c_X1_isAlike {l : Launch} {Y : Yk} (hA : AJ Y.2.2) {I : SI} {J : SJ} {n : Nat} {T : Nat → Nat → Nat} {L : Nat → Nat → Nat → Nat} (hv : CV I n T L) {g u v : Nat} (hg : g < 2) (hu : u < n) (hw : v < n) : MX l Y yX1_isAlike cX1_isAlike 4 (some .boolean) 1 40 [.ref (Y.2.2 2 g), .int (nI u), .int (nI v)] I J (fun v' I' J' => ∃ b : Bool, v' = some (.int (bI b)) ∧ (b = true ↔ alk n T L g u v) ∧ I' = I ∧ J' = J) := by
  refine MX.of hA (by decide) (own := RX1) rfl rfl rfl ?_
  intro X Z hl hY1 hY2 hY3 C hr
  obtain ⟨D0, ca0, ad0⟩ := Y
  dsimp only at hA hY1 hY2 hY3
  subst hY1; subst hY2; subst hY3; subst hl
  show G X 4 Z (QG X Z _) I J 0 [(0, .ref (Z.2.2.1 2 g)), (1, .int (nI u)), (2, .int (nI v))] []
  obtain ⟨⟨hn1, hn9⟩, -⟩ := id hv
  have q1 := hv.t4 hg hu
  have q2 := hv.t4 hg hw
  have q3 := hv.l4 hg hu hw
  have q4 := hv.l4 hg hw hu
  refine g_aldn C dX1_isAlike_0 rfl ?_
  refine g_get C 2 g (by decide) (show g < 2 by omega) u1 rfl 1 rfl fX1_15 rfl rfl dX1_isAlike_1 ?_
  refine g_ildn C dX1_isAlike_4 rfl ?_
  refine g_iald C 3 g (by decide) (show g < 2 by omega) (fun _ _ => rfl) u (show u < 9 by omega) rfl dX1_isAlike_5 (v := (nI (T g u))) (hv.t (by omega) (by omega)) ?_
  refine g_aldn C dX1_isAlike_6 rfl ?_
  refine g_get C 2 g (by decide) (show g < 2 by omega) u1 rfl 1 rfl fX1_15 rfl rfl dX1_isAlike_7 ?_
  refine g_ildn C dX1_isAlike_10 rfl ?_
  refine g_iald C 3 g (by decide) (show g < 2 by omega) (fun _ _ => rfl) v (show v < 9 by omega) rfl dX1_isAlike_11 (v := (nI (T g v))) (hv.t (by omega) (by omega)) ?_
  refine n_icmp_ne (tgt := 34) C dX1_isAlike_12 rfl (by omega) (by omega) (fun c_1 => ?_) (fun c_1 => ?_)
  · refine g_iconst C ((nI 0)) dX1_isAlike_34 (by decide) ?_
    exact g_zreturn C hr (by decide) dX1_isAlike_35 ⟨false, rfl, ⟨fun h => absurd h (by decide), fun h => by first | exact absurd h.1 c_1 | exact absurd h.2.1 c_2⟩, rfl, rfl⟩
  · refine g_aldn C dX1_isAlike_15 rfl ?_
    refine g_get C 2 g (by decide) (show g < 2 by omega) u1 rfl 2 rfl fX1_21 rfl rfl dX1_isAlike_16 ?_
    refine g_ildn C dX1_isAlike_19 rfl ?_
    refine g_aald C 4 g 3 (by decide) (show g < 2 by omega) (fun _ _ => rfl) rfl rfl u (show u < 9 by omega) rfl dX1_isAlike_20 ?_
    refine g_ildn C dX1_isAlike_21 rfl ?_
    refine g_iald C 5 (9 * g + u) (by decide) (show 9 * g + u < 18 by omega) (fun _ _ => rfl) v (show v < 9 by omega) rfl dX1_isAlike_22 (v := (nI (L g u v))) (hv.l (by omega) (by omega) (by omega)) ?_
    refine g_aldn C dX1_isAlike_23 rfl ?_
    refine g_get C 2 g (by decide) (show g < 2 by omega) u1 rfl 2 rfl fX1_21 rfl rfl dX1_isAlike_24 ?_
    refine g_ildn C dX1_isAlike_27 rfl ?_
    refine g_aald C 4 g 3 (by decide) (show g < 2 by omega) (fun _ _ => rfl) rfl rfl v (show v < 9 by omega) rfl dX1_isAlike_28 ?_
    refine g_ildn C dX1_isAlike_29 rfl ?_
    refine g_iald C 5 (9 * g + v) (by decide) (show 9 * g + v < 18 by omega) (fun _ _ => rfl) u (show u < 9 by omega) rfl dX1_isAlike_30 (v := (nI (L g v u))) (hv.l (by omega) (by omega) (by omega)) ?_
    refine n_icmp_eq (tgt := 36) C dX1_isAlike_31 rfl (by omega) (by omega) (fun c_2 => ?_) (fun c_2 => ?_)
    · refine g_iconst C ((nI 0)) dX1_isAlike_36 (by decide) ?_
      refine g_istn (lv' := [(3, .int (nI 0)), (0, .ref (Z.2.2.1 2 g)), (1, .int (nI u)), (2, .int (nI v))]) C dX1_isAlike_37 rfl rfl ?_
      refine g_lv [1, 2, 3, 0] rfl ?_
      exact l_X1_isAlike_38 hA C hr hv hg hu hw c_1 c_2 (n + 1) 0 (by omega) (by omega) (fun a h => absurd h (by omega))
    · refine g_iconst C ((nI 0)) dX1_isAlike_34 (by decide) ?_
      exact g_zreturn C hr (by decide) dX1_isAlike_35 ⟨false, rfl, ⟨fun h => absurd h (by decide), fun h => by first | exact absurd h.1 c_1 | exact absurd h.2.1 c_2⟩, rfl, rfl⟩

set_option maxRecDepth 100000 in
set_option maxHeartbeats 4000000 in
theorem l_X1_formNumber_2 {X : Pk} {Z : Zk} {fr lo : Nat} {I : SI} {J : SJ} (C : Cx X cX1_formNumber 4 RX1 Z fr lo) (hr : (xE X).sig.returnType = some .int) {n : Nat} {T : Nat → Nat → Nat} {L : Nat → Nat → Nat → Nat} (hv : CV I n T L) {g : Nat} (hg : g < 2) {F : Nat → Nat} (hF : ∀ r, r < n → J 9 g r = lN (F r) ∧ F r < 2 ^ 40) {i : Nat} (hi : i < n * n) : ∀ k row, n - row < k → row < n → row * row ≤ i → G X 4 Z (QG X Z (fun v' I' J' => (∃ row, row < n ∧ row * row ≤ i ∧ i < (row + 1) * (row + 1) ∧ v' = some (.int (nI (F row / 2 ^ (2 * (row * row + 2 * row - i)) % 4)))) ∧ I' = I ∧ J' = J)) I J 2 [(0, .ref (Z.2.2.1 2 g)), (1, .int (nI i)), (2, .int (nI row))] [] := by
  obtain ⟨⟨hn1, hn9⟩, -⟩ := id hv
  have hnn : n * n ≤ 9 * 9 := Nat.mul_le_mul hn9 hn9
  intro k
  induction k with
  | zero => intro v h; exact absurd h (by omega)
  | succ k ih =>
    intro row hk hrow h1
    have hrr : (row + 1) * (row + 1) ≤ 9 * 9 := Nat.mul_le_mul (by omega) (by omega)
    have hrr2 : row * row ≤ 8 * 8 := Nat.mul_le_mul (by omega) (by omega)
    refine g_ildn C dX1_formNumber_2 rfl ?_
    refine g_aldn C dX1_formNumber_3 rfl ?_
    refine g_get C 2 g (by decide) (show g < 2 by omega) u1 rfl 0 rfl fX1_9 rfl rfl dX1_formNumber_4 ?_
    refine g_top (y := (nI n)) (hv.sz (by omega)) ?_
    refine g_iconst C ((nI 1)) dX1_formNumber_7 (by decide) ?_
    refine g_isub (v := (nI (n - 1))) C dX1_formNumber_8 (pk_sub (by omega)) ?_
    refine n_icmp_ge (tgt := 29) C dX1_formNumber_9 rfl (by omega) (by omega) (fun c_1 => ?_) (fun c_1 => ?_)
    · have hlt : i < (row + 1) * (row + 1) := by first | assumption | (have : row + 1 = n := (by omega); rw [this]; assumption)
      have h40 := (hF row (by omega)).2
      have hexp : i - row * row ≤ 2 * row := by have : (row + 1) * (row + 1) = row * row + 2 * row + 1 := (by rw [Nat.add_mul, Nat.mul_add]; omega); omega
      refine g_ildn C dX1_formNumber_29 rfl ?_
      refine g_ildn C dX1_formNumber_30 rfl ?_
      refine g_imul (v := (nI (row * row))) C dX1_formNumber_31 (pk_mul _ _) ?_
      refine g_iconst C ((nI 2)) dX1_formNumber_32 (by decide) ?_
      refine g_ildn C dX1_formNumber_33 rfl ?_
      refine g_imul (v := (nI (2 * row))) C dX1_formNumber_34 (pk_mul _ _) ?_
      refine g_iadd (v := (nI (row * row + 2 * row))) C dX1_formNumber_35 (nI_add _ _) ?_
      refine g_ildn C dX1_formNumber_36 rfl ?_
      refine g_isub (v := (nI (row * row + 2 * row - i))) C dX1_formNumber_37 (pk_sub (by omega)) ?_
      refine g_istn (lv' := [(3, .int (nI (row * row + 2 * row - i))), (0, .ref (Z.2.2.1 2 g)), (1, .int (nI i)), (2, .int (nI row))]) C dX1_formNumber_38 rfl rfl ?_
      refine g_aldn C dX1_formNumber_39 rfl ?_
      refine g_get C 2 g (by decide) (show g < 2 by omega) u1 rfl 7 rfl fX1_30 rfl rfl dX1_formNumber_40 ?_
      refine g_ildn C dX1_formNumber_43 rfl ?_
      refine g_lald C 9 g (by decide) (show g < 2 by omega) (fun _ _ => rfl) row (show row < 9 by omega) rfl dX1_formNumber_44 (v := (lN (F row))) (hF row (by omega)).1 ?_
      refine g_iconst C ((nI 2)) dX1_formNumber_45 (by decide) ?_
      refine g_ildn C dX1_formNumber_46 rfl ?_
      refine g_imul (v := (nI (2 * (row * row + 2 * row - i)))) C dX1_formNumber_47 (pk_mul _ _) ?_
      refine g_lshr (v := (lN (F row / 2 ^ (2 * (row * row + 2 * row - i))))) C dX1_formNumber_48 (lshrN (by omega) (by omega)) ?_
      refine g_l2i (v := (nI (F row / 2 ^ (2 * (row * row + 2 * row - i))))) C dX1_formNumber_49 (lN_i _) ?_
      refine g_iconst C ((nI 3)) dX1_formNumber_50 (by decide) ?_
      refine g_iand (v := (nI (F row / 2 ^ (2 * (row * row + 2 * row - i)) % 4))) C dX1_formNumber_51 (and3 _) ?_
      exact g_ireturn C hr dX1_formNumber_52 ⟨⟨row, by omega, h1, hlt, rfl⟩, rfl, rfl⟩
    · refine g_ildn C dX1_formNumber_12 rfl ?_
      refine g_iconst C ((nI 1)) dX1_formNumber_13 (by decide) ?_
      refine g_iadd (v := (nI (row + 1))) C dX1_formNumber_14 (nI_add _ _) ?_
      refine g_ildn C dX1_formNumber_15 rfl ?_
      refine g_iconst C ((nI 1)) dX1_formNumber_16 (by decide) ?_
      refine g_iadd (v := (nI (row + 1))) C dX1_formNumber_17 (nI_add _ _) ?_
      refine g_imul (v := (nI ((row + 1) * (row + 1)))) C dX1_formNumber_18 (pk_mul _ _) ?_
      refine g_ildn C dX1_formNumber_19 rfl ?_
      refine n_icmp_gt (tgt := 29) C dX1_formNumber_20 rfl (by omega) (by omega) (fun c_2 => ?_) (fun c_2 => ?_)
      · have hlt : i < (row + 1) * (row + 1) := by first | assumption | (have : row + 1 = n := (by omega); rw [this]; assumption)
        have h40 := (hF row (by omega)).2
        have hexp : i - row * row ≤ 2 * row := by have : (row + 1) * (row + 1) = row * row + 2 * row + 1 := (by rw [Nat.add_mul, Nat.mul_add]; omega); omega
        refine g_ildn C dX1_formNumber_29 rfl ?_
        refine g_ildn C dX1_formNumber_30 rfl ?_
        refine g_imul (v := (nI (row * row))) C dX1_formNumber_31 (pk_mul _ _) ?_
        refine g_iconst C ((nI 2)) dX1_formNumber_32 (by decide) ?_
        refine g_ildn C dX1_formNumber_33 rfl ?_
        refine g_imul (v := (nI (2 * row))) C dX1_formNumber_34 (pk_mul _ _) ?_
        refine g_iadd (v := (nI (row * row + 2 * row))) C dX1_formNumber_35 (nI_add _ _) ?_
        refine g_ildn C dX1_formNumber_36 rfl ?_
        refine g_isub (v := (nI (row * row + 2 * row - i))) C dX1_formNumber_37 (pk_sub (by omega)) ?_
        refine g_istn (lv' := [(3, .int (nI (row * row + 2 * row - i))), (0, .ref (Z.2.2.1 2 g)), (1, .int (nI i)), (2, .int (nI row))]) C dX1_formNumber_38 rfl rfl ?_
        refine g_aldn C dX1_formNumber_39 rfl ?_
        refine g_get C 2 g (by decide) (show g < 2 by omega) u1 rfl 7 rfl fX1_30 rfl rfl dX1_formNumber_40 ?_
        refine g_ildn C dX1_formNumber_43 rfl ?_
        refine g_lald C 9 g (by decide) (show g < 2 by omega) (fun _ _ => rfl) row (show row < 9 by omega) rfl dX1_formNumber_44 (v := (lN (F row))) (hF row (by omega)).1 ?_
        refine g_iconst C ((nI 2)) dX1_formNumber_45 (by decide) ?_
        refine g_ildn C dX1_formNumber_46 rfl ?_
        refine g_imul (v := (nI (2 * (row * row + 2 * row - i)))) C dX1_formNumber_47 (pk_mul _ _) ?_
        refine g_lshr (v := (lN (F row / 2 ^ (2 * (row * row + 2 * row - i))))) C dX1_formNumber_48 (lshrN (by omega) (by omega)) ?_
        refine g_l2i (v := (nI (F row / 2 ^ (2 * (row * row + 2 * row - i))))) C dX1_formNumber_49 (lN_i _) ?_
        refine g_iconst C ((nI 3)) dX1_formNumber_50 (by decide) ?_
        refine g_iand (v := (nI (F row / 2 ^ (2 * (row * row + 2 * row - i)) % 4))) C dX1_formNumber_51 (and3 _) ?_
        exact g_ireturn C hr dX1_formNumber_52 ⟨⟨row, by omega, h1, hlt, rfl⟩, rfl, rfl⟩
      · refine g_iinc (lv' := [(2, .int (nI (row + 1))), (0, .ref (Z.2.2.1 2 g)), (1, .int (nI i))]) C ((nI (row + 1))) dX1_formNumber_23 rfl (inc1 _) rfl rfl ?_
        refine g_goto (tgt := 2) C dX1_formNumber_26 rfl ?_
        refine g_lv [1, 2, 0] rfl ?_
        exact ih (row + 1) (by omega) (by omega) (by omega)

set_option maxRecDepth 100000 in
set_option maxHeartbeats 4000000 in
/-- formNumber -/
theorem c_X1_formNumber {l : Launch} {Y : Yk} (hA : AJ Y.2.2) {I : SI} {J : SJ} {n : Nat} {T : Nat → Nat → Nat} {L : Nat → Nat → Nat → Nat} (hv : CV I n T L) {g : Nat} (hg : g < 2) {F : Nat → Nat} (hF : ∀ r, r < n → J 9 g r = lN (F r) ∧ F r < 2 ^ 40) {i : Nat} (hi : i < n * n) : MX l Y yX1_formNumber cX1_formNumber 4 (some .int) 0 0 [.ref (Y.2.2 2 g), .int (nI i)] I J (fun v' I' J' => (∃ row, row < n ∧ row * row ≤ i ∧ i < (row + 1) * (row + 1) ∧ v' = some (.int (nI (F row / 2 ^ (2 * (row * row + 2 * row - i)) % 4)))) ∧ I' = I ∧ J' = J) := by
  refine MX.of hA (by decide) (own := RX1) rfl rfl rfl ?_
  intro X Z hl hY1 hY2 hY3 C hr
  obtain ⟨D0, ca0, ad0⟩ := Y
  dsimp only at hA hY1 hY2 hY3
  subst hY1; subst hY2; subst hY3; subst hl
  show G X 4 Z (QG X Z _) I J 0 [(0, .ref (Z.2.2.1 2 g)), (1, .int (nI i))] []
  obtain ⟨⟨hn1, hn9⟩, -⟩ := id hv
  refine g_iconst C ((nI 0)) dX1_formNumber_0 (by decide) ?_
  refine g_istn (lv' := [(2, .int (nI 0)), (0, .ref (Z.2.2.1 2 g)), (1, .int (nI i))]) C dX1_formNumber_1 rfl rfl ?_
  refine g_lv [1, 2, 0] rfl ?_
  exact l_X1_formNumber_2 C hr hv hg hF hi (n + 1) 0 (by omega) (by omega) (by omega)
end
section
/-! ===== Graph: empty, become, swap ===== -/
/-- rows 9 g .. 9 g + w - 1 are emptied -/
def flr (F : Nat → Nat → Int32) (g w : Nat) : Nat → Nat → Int32 := fun r => if 9 * g ≤ r ∧ r < 9 * g + w then fl (F r) 9 (nI 0) else F r
theorem flr_0 (F : Nat → Nat → Int32) (g : Nat) : flr F g 0 = F := by
  funext r
  unfold flr
  rw [if_neg (by omega)]
theorem flr_s (F : Nat → Nat → Int32) (g w : Nat) : va_up (flr F g w) (9 * g + w) (fl (flr F g w (9 * g + w)) 9 (nI 0)) = flr F g (w + 1) := by
  funext r
  by_cases h : r = 9 * g + w
  · subst h
    rw [va_up_self]
    unfold flr
    rw [if_neg (by omega), if_pos (by omega)]
  · rw [va_up_ne _ _ h]
    unfold flr
    by_cases h2 : 9 * g ≤ r ∧ r < 9 * g + w
    · rw [if_pos h2, if_pos (by omega)]
    · rw [if_neg h2, if_neg (by omega)]
/-- rows 9 g .. 9 g + w - 1 become those of h -/
def cpr (F : Nat → Nat → Int32) (h g w : Nat) : Nat → Nat → Int32 := fun r => if 9 * g ≤ r ∧ r < 9 * g + w then va_cpy (F (9 * h + (r - 9 * g))) (F r) 0 0 9 else F r
theorem cpr_0 (F : Nat → Nat → Int32) (h g : Nat) : cpr F h g 0 = F := by
  funext r
  unfold cpr
  rw [if_neg (by omega)]
theorem cpr_s (F : Nat → Nat → Int32) {h g w : Nat} (hne : h ≠ g) (hw : w < 9) : va_up (cpr F h g w) (9 * g + w) (va_cpy (cpr F h g w (9 * h + w)) (cpr F h g w (9 * g + w)) 0 0 9) = cpr F h g (w + 1) := by
  have e : cpr F h g w (9 * h + w) = F (9 * h + w) := by unfold cpr; rw [if_neg (by omega)]
  have e2 : cpr F h g w (9 * g + w) = F (9 * g + w) := by unfold cpr; rw [if_neg (by omega)]
  rw [e, e2]
  funext r
  by_cases h1 : r = 9 * g + w
  · subst h1
    rw [va_up_self]
    unfold cpr
    rw [if_pos (by omega), show 9 * h + (9 * g + w - 9 * g) = 9 * h + w by omega]
  · rw [va_up_ne _ _ h1]
    unfold cpr
    by_cases h2 : 9 * g ≤ r ∧ r < 9 * g + w
    · rw [if_pos h2, if_pos (by omega)]
    · rw [if_neg h2, if_neg (by omega)]
/-- rows a and b are exchanged in their first w places -/
def sw1 (F : Nat → Nat → Int32) (a b w : Nat) : Nat → Nat → Int32 := fun r y => if y < w then F (if r = a then b else if r = b then a else r) y else F r y
theorem sw1_0 (F : Nat → Nat → Int32) (a b : Nat) : sw1 F a b 0 = F := rfl
theorem sw1_s (F : Nat → Nat → Int32) (a b w : Nat) : up2 (up2 (sw1 F a b w) a w (sw1 F a b w b w)) b w (sw1 F a b w a w) = sw1 F a b (w + 1) := by
  funext r y
  rw [up2_at, up2_at]
  unfold sw1
  rw [if_neg (Nat.lt_irrefl w), if_neg (Nat.lt_irrefl w)]
  by_cases hy : y = w
  · subst hy
    rw [if_pos (Nat.lt_succ_self y), if_neg (Nat.lt_irrefl y)]
    by_cases h1 : r = a
    · subst h1
      by_cases h2 : r = b
      · subst h2; simp
      · simp [h2]
    · by_cases h2 : r = b
      · subst h2; simp [h1]
      · simp [h1, h2]
  · rw [if_neg (fun q => hy q.2), if_neg (fun q => hy q.2)]
    by_cases h : y < w
    · rw [if_pos h, if_pos (show y < w + 1 by omega)]
    · rw [if_neg h, if_neg (show ¬ y < w + 1 by omega)]
/-- places u and v are exchanged in rows 9 g .. 9 g + w - 1 -/
def sw2 (F : Nat → Nat → Int32) (g u v w : Nat) : Nat → Nat → Int32 := fun r y => if 9 * g ≤ r ∧ r < 9 * g + w then F r (if y = u then v else if y = v then u else y) else F r y
theorem sw2_0 (F : Nat → Nat → Int32) (g u v : Nat) : sw2 F g u v 0 = F := by
  funext r y
  unfold sw2
  rw [if_neg (by omega)]
theorem sw2_s (F : Nat → Nat → Int32) (g u v w : Nat) : up2 (up2 (sw2 F g u v w) (9 * g + w) u (sw2 F g u v w (9 * g + w) v)) (9 * g + w) v (sw2 F g u v w (9 * g + w) u) = sw2 F g u v (w + 1) := by
  funext r y
  rw [up2_at, up2_at]
  unfold sw2
  rw [if_neg (show ¬ (9 * g ≤ 9 * g + w ∧ 9 * g + w < 9 * g + w) by omega), if_neg (show ¬ (9 * g ≤ 9 * g + w ∧ 9 * g + w < 9 * g + w) by omega)]
  by_cases hr : r = 9 * g + w
  · subst hr
    rw [if_pos (show 9 * g ≤ 9 * g + w ∧ 9 * g + w < 9 * g + (w + 1) by omega), if_neg (show ¬ (9 * g ≤ 9 * g + w ∧ 9 * g + w < 9 * g + w) by omega)]
    by_cases h1 : y = u
    · subst h1
      by_cases h2 : y = v
      · subst h2; simp
      · simp [h2]
    · by_cases h2 : y = v
      · subst h2; simp [h1]
      · simp [h1, h2]
  · rw [if_neg (fun q => hr q.1), if_neg (fun q => hr q.1)]
    by_cases h : 9 * g ≤ r ∧ r < 9 * g + w
    · rw [if_pos h, if_pos (show 9 * g ≤ r ∧ r < 9 * g + (w + 1) by omega)]
    · rw [if_neg h, if_neg (show ¬ (9 * g ≤ r ∧ r < 9 * g + (w + 1)) by omega)]
set_option maxRecDepth 100000 in
set_option maxHeartbeats 4000000 in
theorem l_X1_empty_15 {X : Pk} {Z : Zk} {I : SI} {J : SJ} (hA : AJ Z.2.2.1) (C : Cx X cX1_empty 3 RX1 Z 1 40) (hr : (xE X).sig.returnType = none) {g m : Nat} (hg : g < 2) : ∀ k w, 9 - w < k → w ≤ 9 → G X 3 Z (QG X Z (fun v' I' J' => v' = none ∧ I' = sK (sK (sK I 2 (up2 (I 2) g 0 (nI m))) 3 (va_up (I 3) g (fl (I 3 g) 9 (nI 0)))) 5 (flr (I 5) g 9) ∧ J' = J)) (sK (sK (sK I 2 (up2 (I 2) g 0 (nI m))) 3 (va_up (I 3) g (fl (I 3 g) 9 (nI 0)))) 5 (flr (I 5) g w)) J 15 [(0, .ref (Z.2.2.1 2 g)), (1, .int (nI m)), (2, .int (nI w))] [] := by
  intro k
  induction k with
  | zero => intro v h; exact absurd h (by omega)
  | succ k ih =>
    intro w hk hw
    refine g_ildn C dX1_empty_15 rfl ?_
    refine g_bipush C ((nI 9)) dX1_empty_16 (by decide) ?_
    refine n_icmp_ge (tgt := 37) C dX1_empty_18 rfl (by omega) (by omega) (fun c_1 => ?_) (fun c_1 => ?_)
    · exact g_return C hr dX1_empty_37 ⟨rfl, by rw [show w = 9 by omega], rfl⟩
    · refine g_aldn C dX1_empty_21 rfl ?_
      refine g_get C 2 g (by decide) (show g < 2 by omega) u1 rfl 2 rfl fX1_21 rfl rfl dX1_empty_22 ?_
      refine g_ildn C dX1_empty_25 rfl ?_
      refine g_aald C 4 g 3 (by decide) (show g < 2 by omega) (fun _ _ => rfl) rfl rfl w (show w < 9 by omega) rfl dX1_empty_26 ?_
      refine g_iconst C ((nI 0)) dX1_empty_27 (by decide) ?_
      refine g_callS (As := [.ref (Z.2.2.1 5 (9 * g + w)), .int (nI 0)]) (st := []) C (c_fillI hA (k := 5) (r := 9 * g + w) (n := 9) (by decide) (show 9 * g + w < 18 by omega) (fun _ _ => rfl) (by decide)) wJ7_fill_53178 tJ7_fill_53178 mX1_34 rfl rfl rfl rfl dX1_empty_28 ?_
      rintro v9 I9 J9 ⟨h91, h92, h93⟩
      rw [h91, h92, h93, sK_self, sK_sK, flr_s]
      clear h91 h92 h93 v9 I9 J9
      show G X _ Z _ (sK (sK (sK I 2 (up2 (I 2) g 0 (nI m))) 3 (va_up (I 3) g (fl (I 3 g) 9 (nI 0)))) 5 (flr (I 5) g (w + 1))) J 31 [(0, .ref (Z.2.2.1 2 g)), (1, .int (nI m)), (2, .int (nI w))] []
      refine g_iinc (lv' := [(2, .int (nI (w + 1))), (0, .ref (Z.2.2.1 2 g)), (1, .int (nI m))]) C ((nI (w + 1))) dX1_empty_31 rfl (inc1 _) rfl rfl ?_
      refine g_goto (tgt := 15) C dX1_empty_34 rfl ?_
      refine g_lv [1, 2, 0] rfl ?_
      exact ih (w + 1) (by omega) (by omega)

set_option maxRecDepth 100000 in
set_option maxHeartbeats 4000000 in
/-- empty -/
theorem c_X1_empty {l : Launch} {Y : Yk} (hA : AJ Y.2.2) {I : SI} {J : SJ} {g m : Nat} (hg : g < 2) : MX l Y yX1_empty cX1_empty 3 (none) 1 40 [.ref (Y.2.2 2 g), .int (nI m)] I J (fun v' I' J' => v' = none ∧ I' = sK (sK (sK I 2 (up2 (I 2) g 0 (nI m))) 3 (va_up (I 3) g (fl (I 3 g) 9 (nI 0)))) 5 (flr (I 5) g 9) ∧ J' = J) := by
  refine MX.of hA (by decide) (own := RX1) rfl rfl rfl ?_
  intro X Z hl hY1 hY2 hY3 C hr
  obtain ⟨D0, ca0, ad0⟩ := Y
  dsimp only at hA hY1 hY2 hY3
  subst hY1; subst hY2; subst hY3; subst hl
  show G X 3 Z (QG X Z _) I J 0 [(0, .ref (Z.2.2.1 2 g)), (1, .int (nI m))] []
  refine g_aldn C dX1_empty_0 rfl ?_
  refine g_ildn C dX1_empty_1 rfl ?_
  refine g_put C 2 g (by decide) (show g < 2 by omega) tyX1 tyX1_ok nmX1 u1 rfl 0 rfl fX1_9 rfl (fun _ _ => rfl) (by simp [va_up]) rfl rfl rfl dX1_empty_2 ?_
  refine g_I (I1 := sK I 2 (up2 (I 2) g 0 (nI m))) rfl ?_
  refine g_aldn C dX1_empty_5 rfl ?_
  refine g_get C 2 g (by decide) (show g < 2 by omega) u1 rfl 1 rfl fX1_15 rfl rfl dX1_empty_6 ?_
  refine g_iconst C ((nI 0)) dX1_empty_9 (by decide) ?_
  refine g_callS (As := [.ref (Z.2.2.1 3 g), .int (nI 0)]) (st := []) C (c_fillI hA (k := 3) (r := g) (n := 9) (by decide) (show g < 2 by omega) (fun _ _ => rfl) (by decide)) wJ7_fill_53178 tJ7_fill_53178 mX1_34 rfl rfl rfl rfl dX1_empty_10 ?_
  rintro v9 I9 J9 ⟨h91, h92, h93⟩
  rw [h91, h92, h93]
  clear h91 h92 h93 v9 I9 J9
  show G X _ Z _ (sK (sK I 2 (up2 (I 2) g 0 (nI m))) 3 (va_up (I 3) g (fl (I 3 g) 9 (nI 0)))) J 13 [(0, .ref (Z.2.2.1 2 g)), (1, .int (nI m))] []
  refine g_iconst C ((nI 0)) dX1_empty_13 (by decide) ?_
  refine g_istn (lv' := [(2, .int (nI 0)), (0, .ref (Z.2.2.1 2 g)), (1, .int (nI m))]) C dX1_empty_14 rfl rfl ?_
  refine g_lv [1, 2, 0] rfl ?_
  refine g_I (I1 := sK (sK (sK I 2 (up2 (I 2) g 0 (nI m))) 3 (va_up (I 3) g (fl (I 3 g) 9 (nI 0)))) 5 (flr (I 5) g 0)) (by rw [flr_0]; exact (sK_id _ 5).symm) ?_
  exact l_X1_empty_15 hA C hr hg 10 0 (by omega) (by omega)

set_option maxRecDepth 100000 in
set_option maxHeartbeats 4000000 in
theorem l_X1_become_17 {X : Pk} {Z : Zk} {I : SI} {J : SJ} (C : Cx X cX1_become 3 RX1 Z 1 40) (hr : (xE X).sig.returnType = none) {g h : Nat} (hg : g < 2) (hh : h < 2) (hne : h ≠ g) : ∀ k w, 9 - w < k → w ≤ 9 → G X 3 Z (QG X Z (fun v' I' J' => v' = none ∧ I' = sK (sK I 3 (va_up (I 3) g (va_cpy (I 3 h) (I 3 g) 0 0 9))) 5 (cpr (I 5) h g 9) ∧ J' = J)) (sK (sK I 3 (va_up (I 3) g (va_cpy (I 3 h) (I 3 g) 0 0 9))) 5 (cpr (I 5) h g w)) J 17 [(0, .ref (Z.2.2.1 2 g)), (1, .ref (Z.2.2.1 2 h)), (2, .int (nI w))] [] := by
  intro k
  induction k with
  | zero => intro v h; exact absurd h (by omega)
  | succ k ih =>
    intro w hk hw
    refine g_ildn C dX1_become_17 rfl ?_
    refine g_bipush C ((nI 9)) dX1_become_18 (by decide) ?_
    refine n_icmp_ge (tgt := 48) C dX1_become_20 rfl (by omega) (by omega) (fun c_1 => ?_) (fun c_1 => ?_)
    · exact g_return C hr dX1_become_48 ⟨rfl, by rw [show w = 9 by omega], rfl⟩
    · refine g_aldn C dX1_become_23 rfl ?_
      refine g_get C 2 h (by decide) (show h < 2 by omega) u1 rfl 2 rfl fX1_21 rfl rfl dX1_become_24 ?_
      refine g_ildn C dX1_become_27 rfl ?_
      refine g_aald C 4 h 3 (by decide) (show h < 2 by omega) (fun _ _ => rfl) rfl rfl w (show w < 9 by omega) rfl dX1_become_28 ?_
      refine g_iconst C ((nI 0)) dX1_become_29 (by decide) ?_
      refine g_aldn C dX1_become_30 rfl ?_
      refine g_get C 2 g (by decide) (show g < 2 by omega) u1 rfl 2 rfl fX1_21 rfl rfl dX1_become_31 ?_
      refine g_ildn C dX1_become_34 rfl ?_
      refine g_aald C 4 g 3 (by decide) (show g < 2 by omega) (fun _ _ => rfl) rfl rfl w (show w < 9 by omega) rfl dX1_become_35 ?_
      refine g_iconst C ((nI 0)) dX1_become_36 (by decide) ?_
      refine g_bipush C ((nI 9)) dX1_become_37 (by decide) ?_
      refine g_copyi C mX1_40 5 (9 * h + w) 5 (9 * g + w) (by decide) (show 9 * h + w < 18 by omega) (by decide) (show 9 * g + w < 18 by omega) (fun _ _ => rfl) (fun _ _ => rfl) 0 0 9 (by decide) (by decide) rfl rfl rfl rfl dX1_become_39 ?_
      refine g_I (I1 := sK (sK I 3 (va_up (I 3) g (va_cpy (I 3 h) (I 3 g) 0 0 9))) 5 (cpr (I 5) h g (w + 1))) (by rw [sK_self, sK_sK, cpr_s _ hne (by omega)]) ?_
      refine g_iinc (lv' := [(2, .int (nI (w + 1))), (0, .ref (Z.2.2.1 2 g)), (1, .ref (Z.2.2.1 2 h))]) C ((nI (w + 1))) dX1_become_42 rfl (inc1 _) rfl rfl ?_
      refine g_goto (tgt := 17) C dX1_become_45 rfl ?_
      refine g_lv [1, 2, 0] rfl ?_
      exact ih (w + 1) (by omega) (by omega)

set_option maxRecDepth 100000 in
set_option maxHeartbeats 4000000 in
/-- become -/
theorem c_X1_become {l : Launch} {Y : Yk} (hA : AJ Y.2.2) {I : SI} {J : SJ} {g h : Nat} (hg : g < 2) (hh : h < 2) (hne : h ≠ g) : MX l Y yX1_become cX1_become 3 (none) 1 40 [.ref (Y.2.2 2 g), .ref (Y.2.2 2 h)] I J (fun v' I' J' => v' = none ∧ I' = sK (sK I 3 (va_up (I 3) g (va_cpy (I 3 h) (I 3 g) 0 0 9))) 5 (cpr (I 5) h g 9) ∧ J' = J) := by
  refine MX.of hA (by decide) (own := RX1) rfl rfl rfl ?_
  intro X Z hl hY1 hY2 hY3 C hr
  obtain ⟨D0, ca0, ad0⟩ := Y
  dsimp only at hA hY1 hY2 hY3
  subst hY1; subst hY2; subst hY3; subst hl
  show G X 3 Z (QG X Z _) I J 0 [(0, .ref (Z.2.2.1 2 g)), (1, .ref (Z.2.2.1 2 h))] []
  refine g_aldn C dX1_become_0 rfl ?_
  refine g_get C 2 h (by decide) (show h < 2 by omega) u1 rfl 1 rfl fX1_15 rfl rfl dX1_become_1 ?_
  refine g_iconst C ((nI 0)) dX1_become_4 (by decide) ?_
  refine g_aldn C dX1_become_5 rfl ?_
  refine g_get C 2 g (by decide) (show g < 2 by omega) u1 rfl 1 rfl fX1_15 rfl rfl dX1_become_6 ?_
  refine g_iconst C ((nI 0)) dX1_become_9 (by decide) ?_
  refine g_bipush C ((nI 9)) dX1_become_10 (by decide) ?_
  refine g_copyi C mX1_40 3 h 3 g (by decide) (show h < 2 by omega) (by decide) (show g < 2 by omega) (fun _ _ => rfl) (fun _ _ => rfl) 0 0 9 (by decide) (by decide) rfl rfl rfl rfl dX1_become_12 ?_
  refine g_I (I1 := sK I 3 (va_up (I 3) g (va_cpy (I 3 h) (I 3 g) 0 0 9))) rfl ?_
  refine g_iconst C ((nI 0)) dX1_become_15 (by decide) ?_
  refine g_istn (lv' := [(2, .int (nI 0)), (0, .ref (Z.2.2.1 2 g)), (1, .ref (Z.2.2.1 2 h))]) C dX1_become_16 rfl rfl ?_
  refine g_lv [1, 2, 0] rfl ?_
  refine g_I (I1 := sK (sK I 3 (va_up (I 3) g (va_cpy (I 3 h) (I 3 g) 0 0 9))) 5 (cpr (I 5) h g 0)) (by rw [cpr_0]; exact (sK_id _ 5).symm) ?_
  exact l_X1_become_17 C hr hg hh hne 10 0 (by omega) (by omega)

set_option maxRecDepth 100000 in
set_option maxHeartbeats 4000000 in
theorem l_X1_swap_29 {X : Pk} {Z : Zk} {fr lo : Nat} {Q : State → Prop} {I : SI} {J : SJ} (C : Cx X cX1_swap 6 RX1 Z fr lo) {n : Nat} (hn : n ≤ 9) {g u v : Nat} (hg : g < 2) (hsz : I 2 g 0 = nI n) (hu : u < n) (hw : v < n) {t : Int32} (hex : G X 6 Z Q (sK (sK I 3 (up2 (up2 (I 3) g u (I 3 g v)) g v (I 3 g u))) 5 (sw1 (I 5) (9 * g + u) (9 * g + v) n)) J 84 [(0, .ref (Z.2.2.1 2 g)), (1, .int (nI u)), (2, .int (nI v)), (3, .int t), (4, .int (nI n))] []) : ∀ k w, n - w < k → w ≤ n → G X 6 Z Q (sK (sK I 3 (up2 (up2 (I 3) g u (I 3 g v)) g v (I 3 g u))) 5 (sw1 (I 5) (9 * g + u) (9 * g + v) w)) J 29 [(0, .ref (Z.2.2.1 2 g)), (1, .int (nI u)), (2, .int (nI v)), (3, .int t), (4, .int (nI w))] [] := by
  intro k
  induction k with
  | zero => intro v h; exact absurd h (by omega)
  | succ k ih =>
    intro w hk hwn
    refine g_ild C dX1_swap_29 rfl ?_
    refine g_aldn C dX1_swap_31 rfl ?_
    refine g_get C 2 g (by decide) (show g < 2 by omega) u1 rfl 0 rfl fX1_9 rfl rfl dX1_swap_32 ?_
    refine g_top (y := (nI n)) hsz ?_
    refine n_icmp_ge (tgt := 84) C dX1_swap_35 rfl (by omega) (by omega) (fun c_1 => ?_) (fun c_1 => ?_)
    · have e : w = n := by omega
      subst e
      refine g_lv [0, 1, 2, 3, 4] rfl ?_
      exact hex
    · refine g_aldn C dX1_swap_38 rfl ?_
      refine g_get C 2 g (by decide) (show g < 2 by omega) u1 rfl 2 rfl fX1_21 rfl rfl dX1_swap_39 ?_
      refine g_ildn C dX1_swap_42 rfl ?_
      refine g_aald C 4 g 3 (by decide) (show g < 2 by omega) (fun _ _ => rfl) rfl rfl u (show u < 9 by omega) rfl dX1_swap_43 ?_
      refine g_ild C dX1_swap_44 rfl ?_
      refine g_iald C 5 (9 * g + u) (by decide) (show 9 * g + u < 18 by omega) (fun _ _ => rfl) w (show w < 9 by omega) rfl dX1_swap_46 (v := ((sw1 (I 5) (9 * g + u) (9 * g + v) w) (9 * g + u) w)) rfl ?_
      refine g_ist (lv' := [(5, .int ((sw1 (I 5) (9 * g + u) (9 * g + v) w) (9 * g + u) w)), (0, .ref (Z.2.2.1 2 g)), (1, .int (nI u)), (2, .int (nI v)), (3, .int t), (4, .int (nI w))]) C dX1_swap_47 rfl rfl ?_
      refine g_aldn C dX1_swap_49 rfl ?_
      refine g_get C 2 g (by decide) (show g < 2 by omega) u1 rfl 2 rfl fX1_21 rfl rfl dX1_swap_50 ?_
      refine g_ildn C dX1_swap_53 rfl ?_
      refine g_aald C 4 g 3 (by decide) (show g < 2 by omega) (fun _ _ => rfl) rfl rfl u (show u < 9 by omega) rfl dX1_swap_54 ?_
      refine g_ild C dX1_swap_55 rfl ?_
      refine g_aldn C dX1_swap_57 rfl ?_
      refine g_get C 2 g (by decide) (show g < 2 by omega) u1 rfl 2 rfl fX1_21 rfl rfl dX1_swap_58 ?_
      refine g_ildn C dX1_swap_61 rfl ?_
      refine g_aald C 4 g 3 (by decide) (show g < 2 by omega) (fun _ _ => rfl) rfl rfl v (show v < 9 by omega) rfl dX1_swap_62 ?_
      refine g_ild C dX1_swap_63 rfl ?_
      refine g_iald C 5 (9 * g + v) (by decide) (show 9 * g + v < 18 by omega) (fun _ _ => rfl) w (show w < 9 by omega) rfl dX1_swap_65 (v := ((sw1 (I 5) (9 * g + u) (9 * g + v) w) (9 * g + v) w)) rfl ?_
      refine g_iast C 5 (9 * g + u) (by decide) (show 9 * g + u < 18 by omega) (fun _ _ => rfl) w (show w < 9 by omega) rfl dX1_swap_66 ?_
      refine g_I (I1 := sK (sK I 3 (up2 (up2 (I 3) g u (I 3 g v)) g v (I 3 g u))) 5 (up2 (sw1 (I 5) (9 * g + u) (9 * g + v) w) (9 * g + u) w (((sw1 (I 5) (9 * g + u) (9 * g + v) w) (9 * g + v) w)))) (by rw [sK_self, sK_sK]) ?_
      refine g_aldn C dX1_swap_67 rfl ?_
      refine g_get C 2 g (by decide) (show g < 2 by omega) u1 rfl 2 rfl fX1_21 rfl rfl dX1_swap_68 ?_
      refine g_ildn C dX1_swap_71 rfl ?_
      refine g_aald C 4 g 3 (by decide) (show g < 2 by omega) (fun _ _ => rfl) rfl rfl v (show v < 9 by omega) rfl dX1_swap_72 ?_
      refine g_ild C dX1_swap_73 rfl ?_
      refine g_ild C dX1_swap_75 rfl ?_
      refine g_iast C 5 (9 * g + v) (by decide) (show 9 * g + v < 18 by omega) (fun _ _ => rfl) w (show w < 9 by omega) rfl dX1_swap_77 ?_
      refine g_I (I1 := sK (sK I 3 (up2 (up2 (I 3) g u (I 3 g v)) g v (I 3 g u))) 5 (up2 (up2 (sw1 (I 5) (9 * g + u) (9 * g + v) w) (9 * g + u) w (((sw1 (I 5) (9 * g + u) (9 * g + v) w) (9 * g + v) w))) (9 * g + v) w (((sw1 (I 5) (9 * g + u) (9 * g + v) w) (9 * g + u) w)))) (by rw [sK_self, sK_sK]) ?_
      refine g_iinc (lv' := [(4, .int (nI (w + 1))), (5, .int ((sw1 (I 5) (9 * g + u) (9 * g + v) w) (9 * g + u) w)), (0, .ref (Z.2.2.1 2 g)), (1, .int (nI u)), (2, .int (nI v)), (3, .int t)]) C ((nI (w + 1))) dX1_swap_78 rfl (inc1 _) rfl rfl ?_
      refine g_goto (tgt := 29) C dX1_swap_81 rfl ?_
      refine g_lv [2, 3, 4, 5, 0] rfl ?_
      refine g_I (I1 := sK (sK I 3 (up2 (up2 (I 3) g u (I 3 g v)) g v (I 3 g u))) 5 (sw1 (I 5) (9 * g + u) (9 * g + v) (w + 1))) (by rw [← sw1_s]) ?_
      exact ih (w + 1) (by omega) (by omega)

set_option maxRecDepth 100000 in
set_option maxHeartbeats 4000000 in
theorem l_X1_swap_87 {X : Pk} {Z : Zk} {fr lo : Nat} {I : SI} {J : SJ} (hr : (xE X).sig.returnType = none) (C : Cx X cX1_swap 6 RX1 Z fr lo) {n : Nat} (hn : n ≤ 9) {g u v : Nat} (hg : g < 2) (hsz : I 2 g 0 = nI n) (hu : u < n) (hw : v < n) {t : Int32} : ∀ k w, n - w < k → w ≤ n → G X 6 Z (QG X Z (fun v' I' J' => v' = none ∧ I' = sK (sK I 3 (up2 (up2 (I 3) g u (I 3 g v)) g v (I 3 g u))) 5 (sw2 (sw1 (I 5) (9 * g + u) (9 * g + v) n) g u v n) ∧ J' = J)) (sK (sK I 3 (up2 (up2 (I 3) g u (I 3 g v)) g v (I 3 g u))) 5 (sw2 (sw1 (I 5) (9 * g + u) (9 * g + v) n) g u v w)) J 87 [(0, .ref (Z.2.2.1 2 g)), (1, .int (nI u)), (2, .int (nI v)), (3, .int t), (4, .int (nI w))] [] := by
  intro k
  induction k with
  | zero => intro v h; exact absurd h (by omega)
  | succ k ih =>
    intro w hk hwn
    refine g_ild C dX1_swap_87 rfl ?_
    refine g_aldn C dX1_swap_89 rfl ?_
    refine g_get C 2 g (by decide) (show g < 2 by omega) u1 rfl 0 rfl fX1_9 rfl rfl dX1_swap_90 ?_
    refine g_top (y := (nI n)) hsz ?_
    refine n_icmp_ge (tgt := 142) C dX1_swap_93 rfl (by omega) (by omega) (fun c_1 => ?_) (fun c_1 => ?_)
    · exact g_return C hr dX1_swap_142 ⟨rfl, by rw [show w = n by omega], rfl⟩
    · refine g_aldn C dX1_swap_96 rfl ?_
      refine g_get C 2 g (by decide) (show g < 2 by omega) u1 rfl 2 rfl fX1_21 rfl rfl dX1_swap_97 ?_
      refine g_ild C dX1_swap_100 rfl ?_
      refine g_aald C 4 g 3 (by decide) (show g < 2 by omega) (fun _ _ => rfl) rfl rfl w (show w < 9 by omega) rfl dX1_swap_102 ?_
      refine g_ildn C dX1_swap_103 rfl ?_
      refine g_iald C 5 (9 * g + w) (by decide) (show 9 * g + w < 18 by omega) (fun _ _ => rfl) u (show u < 9 by omega) rfl dX1_swap_104 (v := ((sw2 (sw1 (I 5) (9 * g + u) (9 * g + v) n) g u v w) (9 * g + w) u)) rfl ?_
      refine g_ist (lv' := [(5, .int ((sw2 (sw1 (I 5) (9 * g + u) (9 * g + v) n) g u v w) (9 * g + w) u)), (0, .ref (Z.2.2.1 2 g)), (1, .int (nI u)), (2, .int (nI v)), (3, .int t), (4, .int (nI w))]) C dX1_swap_105 rfl rfl ?_
      refine g_aldn C dX1_swap_107 rfl ?_
      refine g_get C 2 g (by decide) (show g < 2 by omega) u1 rfl 2 rfl fX1_21 rfl rfl dX1_swap_108 ?_
      refine g_ild C dX1_swap_111 rfl ?_
      refine g_aald C 4 g 3 (by decide) (show g < 2 by omega) (fun _ _ => rfl) rfl rfl w (show w < 9 by omega) rfl dX1_swap_113 ?_
      refine g_ildn C dX1_swap_114 rfl ?_
      refine g_aldn C dX1_swap_115 rfl ?_
      refine g_get C 2 g (by decide) (show g < 2 by omega) u1 rfl 2 rfl fX1_21 rfl rfl dX1_swap_116 ?_
      refine g_ild C dX1_swap_119 rfl ?_
      refine g_aald C 4 g 3 (by decide) (show g < 2 by omega) (fun _ _ => rfl) rfl rfl w (show w < 9 by omega) rfl dX1_swap_121 ?_
      refine g_ildn C dX1_swap_122 rfl ?_
      refine g_iald C 5 (9 * g + w) (by decide) (show 9 * g + w < 18 by omega) (fun _ _ => rfl) v (show v < 9 by omega) rfl dX1_swap_123 (v := ((sw2 (sw1 (I 5) (9 * g + u) (9 * g + v) n) g u v w) (9 * g + w) v)) rfl ?_
      refine g_iast C 5 (9 * g + w) (by decide) (show 9 * g + w < 18 by omega) (fun _ _ => rfl) u (show u < 9 by omega) rfl dX1_swap_124 ?_
      refine g_I (I1 := sK (sK I 3 (up2 (up2 (I 3) g u (I 3 g v)) g v (I 3 g u))) 5 (up2 (sw2 (sw1 (I 5) (9 * g + u) (9 * g + v) n) g u v w) (9 * g + w) u (((sw2 (sw1 (I 5) (9 * g + u) (9 * g + v) n) g u v w) (9 * g + w) v)))) (by rw [sK_self, sK_sK]) ?_
      refine g_aldn C dX1_swap_125 rfl ?_
      refine g_get C 2 g (by decide) (show g < 2 by omega) u1 rfl 2 rfl fX1_21 rfl rfl dX1_swap_126 ?_
      refine g_ild C dX1_swap_129 rfl ?_
      refine g_aald C 4 g 3 (by decide) (show g < 2 by omega) (fun _ _ => rfl) rfl rfl w (show w < 9 by omega) rfl dX1_swap_131 ?_
      refine g_ildn C dX1_swap_132 rfl ?_
      refine g_ild C dX1_swap_133 rfl ?_
      refine g_iast C 5 (9 * g + w) (by decide) (show 9 * g + w < 18 by omega) (fun _ _ => rfl) v (show v < 9 by omega) rfl dX1_swap_135 ?_
      refine g_I (I1 := sK (sK I 3 (up2 (up2 (I 3) g u (I 3 g v)) g v (I 3 g u))) 5 (up2 (up2 (sw2 (sw1 (I 5) (9 * g + u) (9 * g + v) n) g u v w) (9 * g + w) u (((sw2 (sw1 (I 5) (9 * g + u) (9 * g + v) n) g u v w) (9 * g + w) v))) (9 * g + w) v (((sw2 (sw1 (I 5) (9 * g + u) (9 * g + v) n) g u v w) (9 * g + w) u)))) (by rw [sK_self, sK_sK]) ?_
      refine g_iinc (lv' := [(4, .int (nI (w + 1))), (5, .int ((sw2 (sw1 (I 5) (9 * g + u) (9 * g + v) n) g u v w) (9 * g + w) u)), (0, .ref (Z.2.2.1 2 g)), (1, .int (nI u)), (2, .int (nI v)), (3, .int t)]) C ((nI (w + 1))) dX1_swap_136 rfl (inc1 _) rfl rfl ?_
      refine g_goto (tgt := 87) C dX1_swap_139 rfl ?_
      refine g_lv [2, 3, 4, 5, 0] rfl ?_
      refine g_I (I1 := sK (sK I 3 (up2 (up2 (I 3) g u (I 3 g v)) g v (I 3 g u))) 5 (sw2 (sw1 (I 5) (9 * g + u) (9 * g + v) n) g u v (w + 1))) (by rw [← sw2_s]) ?_
      exact ih (w + 1) (by omega) (by omega)

set_option maxRecDepth 100000 in
set_option maxHeartbeats 4000000 in
/-- swap -/
theorem c_X1_swap {l : Launch} {Y : Yk} (hA : AJ Y.2.2) {I : SI} {J : SJ} {n : Nat} (hn : n ≤ 9) {g u v : Nat} (hg : g < 2) (hsz : I 2 g 0 = nI n) (hu : u < n) (hw : v < n) : MX l Y yX1_swap cX1_swap 6 (none) 0 0 [.ref (Y.2.2 2 g), .int (nI u), .int (nI v)] I J (fun v' I' J' => v' = none ∧ I' = sK (sK I 3 (up2 (up2 (I 3) g u (I 3 g v)) g v (I 3 g u))) 5 (sw2 (sw1 (I 5) (9 * g + u) (9 * g + v) n) g u v n) ∧ J' = J) := by
  refine MX.of hA (by decide) (own := RX1) rfl rfl rfl ?_
  intro X Z hl hY1 hY2 hY3 C hr
  obtain ⟨D0, ca0, ad0⟩ := Y
  dsimp only at hA hY1 hY2 hY3
  subst hY1; subst hY2; subst hY3; subst hl
  show G X 6 Z (QG X Z _) I J 0 [(0, .ref (Z.2.2.1 2 g)), (1, .int (nI u)), (2, .int (nI v))] []
  refine g_aldn C dX1_swap_0 rfl ?_
  refine g_get C 2 g (by decide) (show g < 2 by omega) u1 rfl 1 rfl fX1_15 rfl rfl dX1_swap_1 ?_
  refine g_ildn C dX1_swap_4 rfl ?_
  refine g_iald C 3 g (by decide) (show g < 2 by omega) (fun _ _ => rfl) u (show u < 9 by omega) rfl dX1_swap_5 (v := (I 3 g u)) rfl ?_
  refine g_istn (lv' := [(3, .int (I 3 g u)), (0, .ref (Z.2.2.1 2 g)), (1, .int (nI u)), (2, .int (nI v))]) C dX1_swap_6 rfl rfl ?_
  refine g_aldn C dX1_swap_7 rfl ?_
  refine g_get C 2 g (by decide) (show g < 2 by omega) u1 rfl 1 rfl fX1_15 rfl rfl dX1_swap_8 ?_
  refine g_ildn C dX1_swap_11 rfl ?_
  refine g_aldn C dX1_swap_12 rfl ?_
  refine g_get C 2 g (by decide) (show g < 2 by omega) u1 rfl 1 rfl fX1_15 rfl rfl dX1_swap_13 ?_
  refine g_ildn C dX1_swap_16 rfl ?_
  refine g_iald C 3 g (by decide) (show g < 2 by omega) (fun _ _ => rfl) v (show v < 9 by omega) rfl dX1_swap_17 (v := (I 3 g v)) rfl ?_
  refine g_iast C 3 g (by decide) (show g < 2 by omega) (fun _ _ => rfl) u (show u < 9 by omega) rfl dX1_swap_18 ?_
  refine g_I (I1 := sK I 3 (up2 (I 3) g u ((I 3 g v)))) (by first | rfl | rw [sK_self, sK_sK]) ?_
  refine g_aldn C dX1_swap_19 rfl ?_
  refine g_get C 2 g (by decide) (show g < 2 by omega) u1 rfl 1 rfl fX1_15 rfl rfl dX1_swap_20 ?_
  refine g_ildn C dX1_swap_23 rfl ?_
  refine g_ildn C dX1_swap_24 rfl ?_
  refine g_iast C 3 g (by decide) (show g < 2 by omega) (fun _ _ => rfl) v (show v < 9 by omega) rfl dX1_swap_25 ?_
  refine g_I (I1 := sK I 3 (up2 (up2 (I 3) g u ((I 3 g v))) g v ((I 3 g u)))) (by first | rfl | rw [sK_self, sK_sK]) ?_
  refine g_iconst C ((nI 0)) dX1_swap_26 (by decide) ?_
  refine g_ist (lv' := [(4, .int (nI 0)), (3, .int (I 3 g u)), (0, .ref (Z.2.2.1 2 g)), (1, .int (nI u)), (2, .int (nI v))]) C dX1_swap_27 rfl rfl ?_
  refine g_lv [2, 3, 4, 1, 0] rfl ?_
  refine g_I (I1 := sK (sK I 3 (up2 (up2 (I 3) g u (I 3 g v)) g v (I 3 g u))) 5 (sw1 (I 5) (9 * g + u) (9 * g + v) 0)) (by rw [sw1_0]; exact (sK_id _ 5).symm) ?_
  refine l_X1_swap_29 C hn hg hsz hu hw ?_ (n + 1) 0 (by omega) (by omega)
  refine g_iconst C ((nI 0)) dX1_swap_84 (by decide) ?_
  refine g_ist (lv' := [(4, .int (nI 0)), (0, .ref (Z.2.2.1 2 g)), (1, .int (nI u)), (2, .int (nI v)), (3, .int (I 3 g u))]) C dX1_swap_85 rfl rfl ?_
  refine g_lv [1, 2, 3, 4, 0] rfl ?_
  refine g_I (I1 := sK (sK I 3 (up2 (up2 (I 3) g u (I 3 g v)) g v (I 3 g u))) 5 (sw2 (sw1 (I 5) (9 * g + u) (9 * g + v) n) g u v 0)) (by rw [sw2_0]) ?_
  exact l_X1_swap_87 hr C hn hg hsz hu hw (n + 1) 0 (by omega) (by omega)
end
section
/-! ===== namings: partial ones that fit, their order; what place finds ===== -/
theorem CV.of {I I' : SI} {n : Nat} {T : Nat → Nat → Nat} {L : Nat → Nat → Nat → Nat} (h : CV I n T L) (h2 : I' 2 = I 2) (h3 : I' 3 = I 3) (h5 : I' 5 = I 5) : CV I' n T L := by
  unfold CV
  rw [h2, h3, h5]
  exact h
/-- the colours in the class's cells -/
def CC (I : SI) (n : Nat) (K : Nat → Nat → Nat) : Prop := ∀ g, g < 2 → ∀ v, v < n → I 7 g v = nI (K g v) ∧ K g v < 18
theorem CC.of {I I' : SI} {n : Nat} {K : Nat → Nat → Nat} (h : CC I n K) (h7 : I' 7 = I 7) : CC I' n K := by
  unfold CC
  rw [h7]
  exact h
/-- vertex v may be led to w behind f's first v images -/
def ftn (K : Nat → Nat → Nat) (L : Nat → Nat → Nat → Nat) (g h : Nat) (f : Nat → Nat) (v w : Nat) : Prop := K g v = K h w ∧ ∀ u, u < v → L g v u = L h w (f u) ∧ L g u v = L h (f u) w
/-- the first k images are apart and fit -/
def tr (n : Nat) (K : Nat → Nat → Nat) (L : Nat → Nat → Nat → Nat) (g h : Nat) (f : Nat → Nat) (k : Nat) : Prop := ∀ i, i < k → f i < n ∧ (∀ j, j < i → f j ≠ f i) ∧ ftn K L g h f i (f i)
theorem ftn.of {K : Nat → Nat → Nat} {L : Nat → Nat → Nat → Nat} {g h : Nat} {f f' : Nat → Nat} {v w : Nat} (hf : ftn K L g h f v w) (he : ∀ i, i < v → f' i = f i) : ftn K L g h f' v w :=
  ⟨hf.1, fun u hu => by rw [he u hu]; exact hf.2 u hu⟩
theorem tr.of {n : Nat} {K : Nat → Nat → Nat} {L : Nat → Nat → Nat → Nat} {g h : Nat} {f f' : Nat → Nat} {k : Nat} (hf : tr n K L g h f k) (he : ∀ i, i < k → f' i = f i) : tr n K L g h f' k := fun i hi => by
  obtain ⟨h1, h2, h3⟩ := hf i hi
  refine ⟨by rw [he i hi]; exact h1, fun j hj => by rw [he i hi, he j (by omega)]; exact h2 j hj, ?_⟩
  rw [he i hi]
  exact h3.of (fun j hj => he j (by omega))
theorem tr.sub {n : Nat} {K : Nat → Nat → Nat} {L : Nat → Nat → Nat → Nat} {g h : Nat} {f : Nat → Nat} {k j : Nat} (hf : tr n K L g h f k) (hj : j ≤ k) : tr n K L g h f j := fun i hi => hf i (by omega)
theorem tr.step {n : Nat} {K : Nat → Nat → Nat} {L : Nat → Nat → Nat → Nat} {g h : Nat} {f : Nat → Nat} {k w : Nat} (hf : tr n K L g h f k) (hw : w < n) (hne : ∀ j, j < k → f j ≠ w) (hft : ftn K L g h f k w) : tr n K L g h (va_up f k w) (k + 1) := fun i hi => by
  rcases Nat.lt_or_eq_of_le (Nat.le_of_lt_succ hi) with h1 | h1
  · exact (hf.of (f' := va_up f k w) (fun j hj => va_up_ne _ _ (by omega))) i h1
  · subst h1
    rw [va_up_self]
    exact ⟨hw, fun j hj => by rw [va_up_ne _ _ (by omega)]; exact hne j hj, hft.of (fun j hj => va_up_ne _ _ (by omega))⟩
/-- f is before f' -/
def lx (n : Nat) (f f' : Nat → Nat) : Prop := ∃ k, k < n ∧ (∀ j, j < k → f j = f' j) ∧ f k < f' k
def lxe (n : Nat) (f f' : Nat → Nat) : Prop := lx n f f' ∨ ∀ i, i < n → f i = f' i
/-- what place seeks: behind f's first v images, and, if it resumes, behind f -/
def PC (n : Nat) (K : Nat → Nat → Nat) (L : Nat → Nat → Nat → Nat) (g h v : Nat) (rs : Bool) (f f' : Nat → Nat) : Prop := tr n K L g h f' n ∧ (∀ i, i < v → f' i = f i) ∧ (rs = true → lx n f f')
theorem PC.start {n : Nat} {K : Nat → Nat → Nat} {L : Nat → Nat → Nat → Nat} {g h v : Nat} {f f' : Nat → Nat} (hp : PC n K L g h v true f f') : f v ≤ f' v := by
  obtain ⟨k, hk, h1, h2⟩ := hp.2.2 rfl
  rcases Nat.lt_trichotomy k v with q | q | q
  · exact absurd (hp.2.1 k q) (by omega)
  · subst q; omega
  · exact Nat.le_of_eq (h1 v q)
theorem PC.down {n : Nat} {K : Nat → Nat → Nat} {L : Nat → Nat → Nat → Nat} {g h v w start : Nat} {rs : Bool} {f f' : Nat → Nat} (hs : rs = true → start = f v) (hp : PC n K L g h v rs f f') (hw : f' v = w) : PC n K L g h (v + 1) (rs && decide (w = start)) (va_up f v w) f' := by
  refine ⟨hp.1, fun i hi => ?_, fun hr => ?_⟩
  · rcases Nat.lt_or_eq_of_le (Nat.le_of_lt_succ hi) with h1 | h1
    · rw [va_up_ne _ _ (by omega)]; exact hp.2.1 i h1
    · subst h1; rw [va_up_self]; exact hw
  · obtain ⟨h1, h2⟩ := Bool.and_eq_true_iff.mp hr
    have e : w = f v := (of_decide_eq_true h2).trans (hs h1)
    subst e
    rw [va_up_id]
    exact hp.2.2 h1
theorem PC.up {n : Nat} {K : Nat → Nat → Nat} {L : Nat → Nat → Nat → Nat} {g h v w start : Nat} {rs : Bool} {f f' : Nat → Nat} (hv : v < n) (hs : rs = true → start = f v) (hw : rs = true → start ≤ w) (hp : PC n K L g h (v + 1) (rs && decide (w = start)) (va_up f v w) f') : PC n K L g h v rs f f' ∧ f' v = w := by
  have e : f' v = w := by rw [hp.2.1 v (by omega), va_up_self]
  have e2 : ∀ i, i < v → f' i = f i := fun i hi => by rw [hp.2.1 i (by omega), va_up_ne _ _ (by omega)]
  refine ⟨⟨hp.1, e2, fun hr => ?_⟩, e⟩
  by_cases h1 : w = start
  · have h2 := hp.2.2 (by rw [hr, decide_eq_true h1]; rfl)
    rw [h1, hs hr, va_up_id] at h2
    exact h2
  · exact ⟨v, hv, fun j hj => (e2 j hj).symm, by have := hs hr; have := hw hr; omega⟩
theorem PC.le {n : Nat} {K : Nat → Nat → Nat} {L : Nat → Nat → Nat → Nat} {g h v w start : Nat} {rs : Bool} {f f' : Nat → Nat} (hv : v < n) (hs : rs = true → start = f v) (hinv : ∀ f2, PC n K L g h v rs f f2 → w ≤ f2 v) (hp1 : PC n K L g h v rs f f' ∧ f' v = w) (hm : ∀ f2, PC n K L g h (v + 1) (rs && decide (w = start)) (va_up f v w) f2 → lxe n f' f2) : ∀ f2, PC n K L g h v rs f f2 → lxe n f' f2 := fun f2 h2 => by
  rcases Nat.lt_or_eq_of_le (hinv f2 h2) with q | q
  · exact Or.inl ⟨v, hv, fun j hj => by rw [hp1.1.2.1 j hj, h2.2.1 j hj], by rw [hp1.2]; exact q⟩
  · exact hm f2 (h2.down hs q.symm)
theorem PC.not {n : Nat} {K : Nat → Nat → Nat} {L : Nat → Nat → Nat → Nat} {g h v w : Nat} {rs : Bool} {f : Nat → Nat} (hv : v < n) (hinv : ∀ f2, PC n K L g h v rs f f2 → w ≤ f2 v) (hno : (∃ j, j < v ∧ f j = w) ∨ ¬ ftn K L g h f v w) : ∀ f2, PC n K L g h v rs f f2 → w + 1 ≤ f2 v := fun f2 h2 => by
  rcases Nat.lt_or_eq_of_le (hinv f2 h2) with q | q
  · exact q
  · obtain ⟨-, b2, b3⟩ := h2.1 v hv
    rcases hno with ⟨j, hj, e⟩ | hno
    · exact absurd (by rw [h2.2.1 j hj, e, q]) (b2 j hj)
    · rw [← q] at b3
      exact absurd (b3.of (fun i hi => (h2.2.1 i hi).symm)) hno
theorem PC.none {n : Nat} {K : Nat → Nat → Nat} {L : Nat → Nat → Nat → Nat} {g h v w start : Nat} {rs : Bool} {f : Nat → Nat} (hs : rs = true → start = f v) (hinv : ∀ f2, PC n K L g h v rs f f2 → w ≤ f2 v) (hno : ∀ f2, ¬ PC n K L g h (v + 1) (rs && decide (w = start)) (va_up f v w) f2) : ∀ f2, PC n K L g h v rs f f2 → w + 1 ≤ f2 v := fun f2 h2 => by
  rcases Nat.lt_or_eq_of_le (hinv f2 h2) with q | q
  · exact q
  · exact absurd (h2.down hs q.symm) (hno f2)
/-- the bits of t are f's first v images -/
def tkn (t : Nat) (f : Nat → Nat) (v : Nat) : Prop := t < 2 ^ 9 ∧ ∀ w, t.testBit w = true ↔ ∃ j, j < v ∧ f j = w
theorem tkn.step {t : Nat} {f : Nat → Nat} {v w : Nat} (h : tkn t f v) (hw : w < 9) : tkn (t ||| 2 ^ w) (va_up f v w) (v + 1) := by
  refine ⟨Nat.or_lt_two_pow h.1 (Nat.pow_lt_pow_right (by decide) hw), fun x => ?_⟩
  rw [Nat.testBit_or, Nat.testBit_two_pow, Bool.or_eq_true, h.2 x, decide_eq_true_iff]
  constructor
  · rintro (⟨j, hj, e⟩ | e)
    · exact ⟨j, by omega, by rw [va_up_ne _ _ (by omega)]; exact e⟩
    · exact ⟨v, by omega, by rw [va_up_self]; exact e⟩
  · rintro ⟨j, hj, e⟩
    by_cases q : j = v
    · subst q
      rw [va_up_self] at e
      exact Or.inr e
    · rw [va_up_ne _ _ q] at e
      exact Or.inl ⟨j, by omega, e⟩
end
section
/-! ===== NamingSeeker: fits, place, findFirst, findNext, findSymmetry ===== -/
set_option maxRecDepth 100000 in
set_option maxHeartbeats 4000000 in
theorem l_X2_fits_21 {X : Pk} {Z : Zk} {fr lo : Nat} {I : SI} {J : SJ} (C : Cx X cX2_fits 7 RX2 Z fr lo) (hr : (xE X).sig.returnType = some .boolean) {n : Nat} {T : Nat → Nat → Nat} {K : Nat → Nat → Nat} {L : Nat → Nat → Nat → Nat} (hv : CV I n T L) (hc : CC I n K) {g h q : Nat} (hg : g < 2) (hh : h < 2) (hq : q < 2) {f : Nat → Nat} {v w : Nat} (hvn : v < n) (hwn : w < n) (hf : ∀ i, i < v → I 18 q i = nI (f i) ∧ f i < n) (e1 : K g v = K h w) : ∀ k u, v - u < k → u ≤ v → (∀ a, a < u → L g v a = L h w (f a) ∧ L g a v = L h (f a) w) → G X 7 Z (QG X Z (fun v' I' J' => ∃ b : Bool, v' = some (.int (bI b)) ∧ (b = true ↔ ftn K L g h f v w) ∧ I' = I ∧ J' = J)) I J 21 [(0, .ref (Z.2.2.1 17 q)), (1, .ref (Z.2.2.1 2 g)), (2, .ref (Z.2.2.1 2 h)), (3, .int (nI v)), (4, .int (nI w)), (5, .int (nI u))] [] := by
  obtain ⟨⟨hn1, hn9⟩, -⟩ := id hv
  intro k
  induction k with
  | zero => intro u h; exact absurd h (by omega)
  | succ k ih =>
    intro u hk huv hin
    have hfu : u < v → f u < n := fun h => (hf u h).2
    have q1 : u < v → L g v u < 4 := fun h => hv.l4 hg hvn (by omega)
    have q2 : u < v → L h w (f u) < 4 := fun h => hv.l4 hh hwn (hfu h)
    have q3 : u < v → L g u v < 4 := fun h => hv.l4 hg (by omega) hvn
    have q4 : u < v → L h (f u) w < 4 := fun h => hv.l4 hh (hfu h) hwn
    refine g_ild C dX2_fits_21 rfl ?_
    refine g_ildn C dX2_fits_23 rfl ?_
    refine n_icmp_ge (tgt := 88) C dX2_fits_24 rfl (by omega) (by omega) (fun c_1 => ?_) (fun c_1 => ?_)
    · refine g_iconst C ((nI 1)) dX2_fits_88 (by decide) ?_
      exact g_zreturn C hr (by decide) dX2_fits_89 ⟨true, rfl, ⟨fun _ => ⟨e1, fun a ha => hin a (by omega)⟩, fun _ => rfl⟩, rfl, rfl⟩
    · refine g_aldn C dX2_fits_27 rfl ?_
      refine g_get C 17 q (by decide) (show q < 2 by omega) u2 rfl 0 rfl fX2_9 rfl rfl dX2_fits_28 ?_
      refine g_ild C dX2_fits_31 rfl ?_
      refine g_iald C 18 q (by decide) (show q < 2 by omega) (fun _ _ => rfl) u (show u < 9 by omega) rfl dX2_fits_33 (v := (nI (f u))) (hf u (by omega)).1 ?_
      refine g_ist (lv' := [(6, .int (nI (f u))), (0, .ref (Z.2.2.1 17 q)), (1, .ref (Z.2.2.1 2 g)), (2, .ref (Z.2.2.1 2 h)), (3, .int (nI v)), (4, .int (nI w)), (5, .int (nI u))]) C dX2_fits_34 rfl rfl ?_
      refine g_aldn C dX2_fits_36 rfl ?_
      refine g_get C 2 g (by decide) (show g < 2 by omega) u1 rfl 2 rfl fX2_32 rfl rfl dX2_fits_37 ?_
      refine g_ildn C dX2_fits_40 rfl ?_
      refine g_aald C 4 g 3 (by decide) (show g < 2 by omega) (fun _ _ => rfl) rfl rfl v (show v < 9 by omega) rfl dX2_fits_41 ?_
      refine g_ild C dX2_fits_42 rfl ?_
      refine g_iald C 5 (9 * g + v) (by decide) (show 9 * g + v < 18 by omega) (fun _ _ => rfl) u (show u < 9 by omega) rfl dX2_fits_44 (v := (nI (L g v u))) (hv.l (show g < 2 by omega) (show v < n by omega) (show u < n by omega)) ?_
      refine g_aldn C dX2_fits_45 rfl ?_
      refine g_get C 2 h (by decide) (show h < 2 by omega) u1 rfl 2 rfl fX2_32 rfl rfl dX2_fits_46 ?_
      refine g_ild C dX2_fits_49 rfl ?_
      refine g_aald C 4 h 3 (by decide) (show h < 2 by omega) (fun _ _ => rfl) rfl rfl w (show w < 9 by omega) rfl dX2_fits_51 ?_
      refine g_ild C dX2_fits_52 rfl ?_
      refine g_iald C 5 (9 * h + w) (by decide) (show 9 * h + w < 18 by omega) (fun _ _ => rfl) (f u) (show f u < 9 by omega) rfl dX2_fits_54 (v := (nI (L h w (f u)))) (hv.l (show h < 2 by omega) (show w < n by omega) (show f u < n by omega)) ?_
      refine n_icmp_ne (tgt := 80) C dX2_fits_55 rfl (by omega) (by omega) (fun c_2 => ?_) (fun c_2 => ?_)
      · refine g_iconst C ((nI 0)) dX2_fits_80 (by decide) ?_
        exact g_zreturn C hr (by decide) dX2_fits_81 ⟨false, rfl, ⟨fun h => absurd h (by decide), fun h => by first | exact absurd (h.2 u (by omega)).1 c_2 | exact absurd (h.2 u (by omega)).2 c_3⟩, rfl, rfl⟩
      · refine g_aldn C dX2_fits_58 rfl ?_
        refine g_get C 2 g (by decide) (show g < 2 by omega) u1 rfl 2 rfl fX2_32 rfl rfl dX2_fits_59 ?_
        refine g_ild C dX2_fits_62 rfl ?_
        refine g_aald C 4 g 3 (by decide) (show g < 2 by omega) (fun _ _ => rfl) rfl rfl u (show u < 9 by omega) rfl dX2_fits_64 ?_
        refine g_ildn C dX2_fits_65 rfl ?_
        refine g_iald C 5 (9 * g + u) (by decide) (show 9 * g + u < 18 by omega) (fun _ _ => rfl) v (show v < 9 by omega) rfl dX2_fits_66 (v := (nI (L g u v))) (hv.l (show g < 2 by omega) (show u < n by omega) (show v < n by omega)) ?_
        refine g_aldn C dX2_fits_67 rfl ?_
        refine g_get C 2 h (by decide) (show h < 2 by omega) u1 rfl 2 rfl fX2_32 rfl rfl dX2_fits_68 ?_
        refine g_ild C dX2_fits_71 rfl ?_
        refine g_aald C 4 h 3 (by decide) (show h < 2 by omega) (fun _ _ => rfl) rfl rfl (f u) (show f u < 9 by omega) rfl dX2_fits_73 ?_
        refine g_ild C dX2_fits_74 rfl ?_
        refine g_iald C 5 (9 * h + f u) (by decide) (show 9 * h + f u < 18 by omega) (fun _ _ => rfl) w (show w < 9 by omega) rfl dX2_fits_76 (v := (nI (L h (f u) w))) (hv.l (show h < 2 by omega) (show f u < n by omega) (show w < n by omega)) ?_
        refine n_icmp_eq (tgt := 82) C dX2_fits_77 rfl (by omega) (by omega) (fun c_3 => ?_) (fun c_3 => ?_)
        · refine g_iinc (lv' := [(5, .int (nI (u + 1))), (6, .int (nI (f u))), (0, .ref (Z.2.2.1 17 q)), (1, .ref (Z.2.2.1 2 g)), (2, .ref (Z.2.2.1 2 h)), (3, .int (nI v)), (4, .int (nI w))]) C ((nI (u + 1))) dX2_fits_82 rfl (inc1 _) rfl rfl ?_
          refine g_goto (tgt := 21) C dX2_fits_85 rfl ?_
          refine g_lv [2, 3, 4, 5, 6, 0] rfl ?_
          exact ih (u + 1) (by omega) (by omega) (fun a ha => (Nat.lt_or_eq_of_le (Nat.le_of_lt_succ ha)).elim (hin a) (fun e => by subst e; exact ⟨c_2, c_3⟩))
        · refine g_iconst C ((nI 0)) dX2_fits_80 (by decide) ?_
          exact g_zreturn C hr (by decide) dX2_fits_81 ⟨false, rfl, ⟨fun h => absurd h (by decide), fun h => by first | exact absurd (h.2 u (by omega)).1 c_2 | exact absurd (h.2 u (by omega)).2 c_3⟩, rfl, rfl⟩

set_option maxRecDepth 100000 in
set_option maxHeartbeats 4000000 in
/-- NamingSeeker.fits -/
theorem c_X2_fits {l : Launch} {Y : Yk} (hA : AJ Y.2.2) {I : SI} {J : SJ} {n : Nat} {T : Nat → Nat → Nat} {K : Nat → Nat → Nat} {L : Nat → Nat → Nat → Nat} (hv : CV I n T L) (hc : CC I n K) {g h q : Nat} (hg : g < 2) (hh : h < 2) (hq : q < 2) {f : Nat → Nat} {v w : Nat} (hvn : v < n) (hwn : w < n) (hf : ∀ i, i < v → I 18 q i = nI (f i) ∧ f i < n)  : MX l Y yX2_fits cX2_fits 7 (some .boolean) 0 0 [.ref (Y.2.2 17 q), .ref (Y.2.2 2 g), .ref (Y.2.2 2 h), .int (nI v), .int (nI w)] I J (fun v' I' J' => ∃ b : Bool, v' = some (.int (bI b)) ∧ (b = true ↔ ftn K L g h f v w) ∧ I' = I ∧ J' = J) := by
  refine MX.of hA (by decide) (own := RX2) rfl rfl rfl ?_
  intro X Z hl hY1 hY2 hY3 C hr
  obtain ⟨D0, ca0, ad0⟩ := Y
  dsimp only at hA hY1 hY2 hY3
  subst hY1; subst hY2; subst hY3; subst hl
  show G X 7 Z (QG X Z _) I J 0 [(0, .ref (Z.2.2.1 17 q)), (1, .ref (Z.2.2.1 2 g)), (2, .ref (Z.2.2.1 2 h)), (3, .int (nI v)), (4, .int (nI w))] []
  obtain ⟨⟨hn1, hn9⟩, -⟩ := id hv
  have q1 := (hc g hg v hvn).2
  have q2 := (hc h hh w hwn).2
  refine g_aldn C dX2_fits_0 rfl ?_
  refine g_get C 2 g (by decide) (show g < 2 by omega) u1 rfl 3 rfl fX2_29 rfl rfl dX2_fits_1 ?_
  refine g_ildn C dX2_fits_4 rfl ?_
  refine g_iald C 7 g (by decide) (show g < 2 by omega) (fun _ _ => rfl) v (show v < 9 by omega) rfl dX2_fits_5 (v := (nI (K g v))) (hc g (by omega) v (by omega)).1 ?_
  refine g_aldn C dX2_fits_6 rfl ?_
  refine g_get C 2 h (by decide) (show h < 2 by omega) u1 rfl 3 rfl fX2_29 rfl rfl dX2_fits_7 ?_
  refine g_ild C dX2_fits_10 rfl ?_
  refine g_iald C 7 h (by decide) (show h < 2 by omega) (fun _ _ => rfl) w (show w < 9 by omega) rfl dX2_fits_12 (v := (nI (K h w))) (hc h (by omega) w (by omega)).1 ?_
  refine n_icmp_eq (tgt := 18) C dX2_fits_13 rfl (by omega) (by omega) (fun c_1 => ?_) (fun c_1 => ?_)
  · refine g_iconst C ((nI 0)) dX2_fits_18 (by decide) ?_
    refine g_ist (lv' := [(5, .int (nI 0)), (0, .ref (Z.2.2.1 17 q)), (1, .ref (Z.2.2.1 2 g)), (2, .ref (Z.2.2.1 2 h)), (3, .int (nI v)), (4, .int (nI w))]) C dX2_fits_19 rfl rfl ?_
    refine g_lv [1, 2, 3, 4, 5, 0] rfl ?_
    exact l_X2_fits_21 C hr hv hc hg hh hq hvn hwn hf c_1 (v + 1) 0 (by omega) (by omega) (fun a h => absurd h (by omega))
  · refine g_iconst C ((nI 0)) dX2_fits_16 (by decide) ?_
    exact g_zreturn C hr (by decide) dX2_fits_17 ⟨false, rfl, ⟨fun h => absurd h (by decide), fun h => absurd h.1 c_1⟩, rfl, rfl⟩

def plPre (I : SI) (n : Nat) (T : Nat → Nat → Nat) (K : Nat → Nat → Nat) (L : Nat → Nat → Nat → Nat) (g h q v tk : Nat) (rs : Bool) (f : Nat → Nat) : Prop :=
  CV I n T L ∧ CC I n K ∧ v ≤ n ∧ tr n K L g h f v ∧ tkn tk f v ∧ (∀ i, i < v → I 18 q i = nI (f i)) ∧ (rs = true → tr n K L g h f n ∧ ∀ i, i < n → I 18 q i = nI (f i))
def plPost (n : Nat) (K : Nat → Nat → Nat) (L : Nat → Nat → Nat → Nat) (g h q v : Nat) (rs : Bool) (f : Nat → Nat) (I : SI) (J : SJ) : Option Value → SI → SJ → Prop := fun v' I' J' =>
  ∃ (b : Bool) (F : Nat → Nat → Int32), v' = some (.int (bI b)) ∧ I' = sK I 18 F ∧ J' = J ∧ (∀ r, r ≠ q → F r = I 18 r) ∧ (∀ i, i < v → F q i = I 18 q i) ∧
    (b = true → ∃ f', (∀ i, i < n → F q i = nI (f' i)) ∧ PC n K L g h v rs f f' ∧ ∀ f2, PC n K L g h v rs f f2 → lxe n f' f2) ∧ (b = false → ∀ f2, ¬ PC n K L g h v rs f f2)
set_option maxRecDepth 100000 in
set_option maxHeartbeats 4000000 in
theorem l_X2_place_40 {X : Pk} {Z : Zk} {I : SI} {J : SJ} (hA : AJ Z.2.2.1) {d : Nat} (C : Cx X cX2_place 8 RX2 Z (d + 1) (40 * (d + 1))) (hr : (xE X).sig.returnType = some .boolean) {n : Nat} {T : Nat → Nat → Nat} {K : Nat → Nat → Nat} {L : Nat → Nat → Nat → Nat} (hv : CV I n T L) (hc : CC I n K) {g h q : Nat} (hg : g < 2) (hh : h < 2) (hq : q < 2) {v tk : Nat} {rs : Bool} {f : Nat → Nat} {start : Nat} (hvn : v < n) (htr : tr n K L g h f v) (htk : tkn tk f v) (hrow : ∀ i, i < v → I 18 q i = nI (f i)) (hs : rs = true → start = f v ∧ tr n K L g h f n) (hd : v + d = n) (hrec : ∀ d', d = d' + 1 → ∀ (I : SI) (J : SJ) (v tk : Nat) (rs : Bool) (f : Nat → Nat), v + d' = n → plPre I n T K L g h q v tk rs f → MX X.2.1 (Z.1, Z.2.1, Z.2.2.1) yX2_place cX2_place 8 (some .boolean) (d' + 1) (40 * (d' + 1)) [.ref (Z.2.2.1 17 q), .ref (Z.2.2.1 2 g), .ref (Z.2.2.1 2 h), .int (nI v), .int (nI tk), .int (bI rs)] I J (plPost n K L g h q v rs f I J)) : ∀ k w F, n - w < k → w ≤ n → start ≤ w → (∀ r, r ≠ q → F r = I 18 r) → (∀ i, i < v → F q i = nI (f i)) → (rs = true → w = start → ∀ i, i < n → F q i = nI (f i)) → (∀ f2, PC n K L g h v rs f f2 → w ≤ f2 v) → G X 8 Z (QG X Z (plPost n K L g h q v rs f I J)) (sK I 18 F) J 40 [(0, .ref (Z.2.2.1 17 q)), (1, .ref (Z.2.2.1 2 g)), (2, .ref (Z.2.2.1 2 h)), (3, .int (nI v)), (4, .int (nI tk)), (5, .int (bI rs)), (6, .int (nI start)), (7, .int (nI w))] [] := by
  obtain ⟨⟨hn1, hn9⟩, -⟩ := id hv
  obtain ⟨d', hd'⟩ : ∃ d', d = d' + 1 := ⟨d - 1, by omega⟩
  have htk9 : tk < 512 := htk.1
  intro k
  induction k with
  | zero => intro w F h; exact absurd h (by omega)
  | succ k ih =>
    intro w F hk hwn hsw hF1 hF2 hF3 hinv
    have hdv : tk / 2 ^ w ≤ tk := Nat.div_le_self _ _
    have hbt : tk / 2 ^ w % 2 ≠ 0 → tk.testBit w = true := fun h => bit_t (by omega)
    refine g_ild C dX2_place_40 rfl ?_
    refine g_aldn C dX2_place_42 rfl ?_
    refine g_get C 2 h (by decide) (show h < 2 by omega) u1 rfl 0 rfl fX2_23 rfl rfl dX2_place_43 ?_
    refine g_top (y := (nI n)) ((hv.of (sK_ne (by decide)) (sK_ne (by decide)) (sK_ne (by decide)) : CV (sK I 18 F) n T L).sz (show h < 2 by omega)) ?_
    refine n_icmp_ge (tgt := 123) C dX2_place_46 rfl (by omega) (by omega) (fun c_1 => ?_) (fun c_1 => ?_)
    · refine g_iconst C ((nI 0)) dX2_place_123 (by decide) ?_
      exact g_zreturn C hr (by decide) dX2_place_124 ⟨false, F, rfl, rfl, rfl, hF1, fun i hi => by rw [hF2 i hi, hrow i hi], fun h => absurd h (by decide), fun _ f2 h2 => absurd (hinv f2 h2) (by have := (h2.1 v hvn).1; omega)⟩
    · refine g_ild C dX2_place_49 rfl ?_
      refine g_ild C dX2_place_51 rfl ?_
      refine g_ishr (v := (nI (tk / 2 ^ w))) C dX2_place_53 (shrI (by omega) (by omega)) ?_
      refine g_iconst C ((nI 1)) dX2_place_54 (by decide) ?_
      refine g_iand (v := (nI (tk / 2 ^ w % 2))) C dX2_place_55 (and1 _) ?_
      refine n_if_ne (tgt := 117) C dX2_place_56 rfl (by omega) (fun c_2 => ?_) (fun c_2 => ?_)
      · refine g_iinc (lv' := [(7, .int (nI (w + 1))), (0, .ref (Z.2.2.1 17 q)), (1, .ref (Z.2.2.1 2 g)), (2, .ref (Z.2.2.1 2 h)), (3, .int (nI v)), (4, .int (nI tk)), (5, .int (bI rs)), (6, .int (nI start))]) C ((nI (w + 1))) dX2_place_117 rfl (inc1 _) rfl rfl ?_
        refine g_goto (tgt := 40) C dX2_place_120 rfl ?_
        refine g_lv [1, 2, 3, 4, 5, 6, 7, 0] rfl ?_
        exact ih (w + 1) F (by omega) (by omega) (by omega) hF1 hF2 (fun _ e => absurd e (by omega)) (PC.not hvn hinv (by first | exact Or.inl ((htk.2 w).mp (hbt c_2)) | exact Or.inr (fun q => absurd (hb.mpr q) (by rw [c_3]; decide))))
      · have hbit : tk.testBit w = false := bit_f (by omega)
        refine g_aldn C dX2_place_59 rfl ?_
        refine g_aldn C dX2_place_60 rfl ?_
        refine g_aldn C dX2_place_61 rfl ?_
        refine g_ildn C dX2_place_62 rfl ?_
        refine g_ild C dX2_place_63 rfl ?_
        refine g_callV (As := [.ref (Z.2.2.1 2 g), .ref (Z.2.2.1 2 h), .int (nI v), .int (nI w)]) (st := []) C (c_X2_fits hA (hv.of (sK_ne (by decide)) (sK_ne (by decide)) (sK_ne (by decide))) (hc.of (sK_ne (by decide))) hg hh hq hvn (show w < n by omega) (fun i hi => ⟨hF2 i hi, (htr i hi).1⟩)) wX2_fits iX2_fits sX2_fits mX2_19 17 q (by decide) (show q < 2 by omega) rfl rfl rfl rfl rfl rfl rfl (Bool.and_eq_true_iff.mpr ⟨Nat.ble_eq.mpr (by omega), Nat.ble_eq.mpr (by omega)⟩) dX2_place_65 ?_
        rintro v9 I9 J9 ⟨b, h91, hb, h92, h93⟩
        rw [h91, h92, h93]
        clear h91 h92 h93 v9 I9 J9
        show G X _ Z _ (sK I 18 F) J 68 [(0, .ref (Z.2.2.1 17 q)), (1, .ref (Z.2.2.1 2 g)), (2, .ref (Z.2.2.1 2 h)), (3, .int (nI v)), (4, .int (nI tk)), (5, .int (bI rs)), (6, .int (nI start)), (7, .int (nI w))] [.int (bI b)]
        refine b_if_eq (tgt := 117) C dX2_place_68 rfl (fun c_3 => ?_) (fun c_3 => ?_)
        · refine g_iinc (lv' := [(7, .int (nI (w + 1))), (0, .ref (Z.2.2.1 17 q)), (1, .ref (Z.2.2.1 2 g)), (2, .ref (Z.2.2.1 2 h)), (3, .int (nI v)), (4, .int (nI tk)), (5, .int (bI rs)), (6, .int (nI start))]) C ((nI (w + 1))) dX2_place_117 rfl (inc1 _) rfl rfl ?_
          refine g_goto (tgt := 40) C dX2_place_120 rfl ?_
          refine g_lv [1, 2, 3, 4, 5, 6, 7, 0] rfl ?_
          exact ih (w + 1) F (by omega) (by omega) (by omega) hF1 hF2 (fun _ e => absurd e (by omega)) (PC.not hvn hinv (by first | exact Or.inl ((htk.2 w).mp (hbt c_2)) | exact Or.inr (fun q => absurd (hb.mpr q) (by rw [c_3]; decide))))
        · refine g_aldn C dX2_place_71 rfl ?_
          refine g_get C 17 q (by decide) (show q < 2 by omega) u2 rfl 0 rfl fX2_9 rfl rfl dX2_place_72 ?_
          refine g_ildn C dX2_place_75 rfl ?_
          refine g_ild C dX2_place_76 rfl ?_
          refine g_iast C 18 q (by decide) (show q < 2 by omega) (fun _ _ => rfl) v (show v < 9 by omega) rfl dX2_place_78 ?_
          refine g_I (I1 := sK I 18 (up2 F q v (nI w))) (by rw [sK_self, sK_sK]) ?_
          refine g_aldn C dX2_place_79 rfl ?_
          refine g_aldn C dX2_place_80 rfl ?_
          refine g_aldn C dX2_place_81 rfl ?_
          refine g_ildn C dX2_place_82 rfl ?_
          refine g_iconst C ((nI 1)) dX2_place_83 (by decide) ?_
          refine g_iadd (v := (nI (v + 1))) C dX2_place_84 (nI_add _ _) ?_
          refine g_ild C dX2_place_85 rfl ?_
          refine g_iconst C ((nI 1)) dX2_place_87 (by decide) ?_
          refine g_ild C dX2_place_88 rfl ?_
          refine g_ishl (v := (nI (2 ^ w))) C dX2_place_90 (shl1 w (by omega)) ?_
          refine g_ior (v := (nI (tk ||| 2 ^ w))) C dX2_place_91 (orI _ _) ?_
          refine g_ild C dX2_place_92 rfl ?_
          refine b_if_eq (tgt := 108) C dX2_place_94 rfl (fun c_4 => ?_) (fun c_4 => ?_)
          · refine g_iconst C ((nI 0)) dX2_place_108 (by decide) ?_
            refine g_top (y := bI (rs && decide (w = start))) (by first | (rw [c_4]; rfl) | (rw [c_4, decide_eq_true c_5]; rfl) | (rw [c_4, decide_eq_false c_5]; rfl)) ?_
            have hpp : plPre (sK I 18 (up2 F q v (nI w))) n T K L g h q (v + 1) (tk ||| 2 ^ w) (rs && decide (w = start)) (va_up f v w) := by
              refine ⟨hv.of (sK_ne (by decide)) (sK_ne (by decide)) (sK_ne (by decide)), hc.of (sK_ne (by decide)), by omega, htr.step (by omega) (fun j hj e => absurd ((htk.2 w).mpr ⟨j, hj, e⟩) (by rw [hbit]; decide)) (hb.mp c_3), htk.step (by omega), fun i hi => ?_, fun hrs => ?_⟩
              · rw [sK_self]
                by_cases e : i = v
                · subst e; rw [up2_self, va_up_self]
                · rw [up2_ne e, va_up_ne _ _ e]; exact hF2 i (by omega)
              · obtain ⟨r1, r2⟩ := Bool.and_eq_true_iff.mp hrs
                have ew : w = f v := (of_decide_eq_true r2).trans (hs r1).1
                refine ⟨by rw [ew, va_up_id]; exact (hs r1).2, fun i hi => ?_⟩
                rw [sK_self]
                by_cases e : i = v
                · subst e; rw [up2_self, va_up_self]
                · rw [up2_ne e, va_up_ne _ _ e]; exact hF3 r1 (of_decide_eq_true r2) i hi
            refine g_callV (As := [.ref (Z.2.2.1 2 g), .ref (Z.2.2.1 2 h), .int (nI (v + 1)), .int (nI (tk ||| 2 ^ w)), .int (bI (rs && decide (w = start)))]) (st := []) C (hrec d' hd' (sK I 18 (up2 F q v (nI w))) J (v + 1) (tk ||| 2 ^ w) (rs && decide (w = start)) (va_up f v w) (by omega) hpp) wX2_place iX2_place sX2_place mX2_15 17 q (by decide) (show q < 2 by omega) rfl rfl rfl rfl rfl rfl rfl (Bool.and_eq_true_iff.mpr ⟨Nat.ble_eq.mpr (by omega), Nat.ble_eq.mpr (by omega)⟩) dX2_place_109 ?_
            rintro v9 I9 J9 ⟨b2, F2, h91, h92, h93, k1, k2, k3, k4⟩
            rw [h91, h92, h93, sK_sK]
            clear h91 h92 h93 v9 I9 J9
            show G X _ Z _ (sK I 18 F2) J 112 [(0, .ref (Z.2.2.1 17 q)), (1, .ref (Z.2.2.1 2 g)), (2, .ref (Z.2.2.1 2 h)), (3, .int (nI v)), (4, .int (nI tk)), (5, .int (bI rs)), (6, .int (nI start)), (7, .int (nI w))] [.int (bI b2)]
            refine b_if_eq (tgt := 117) C dX2_place_112 rfl (fun c_6 => ?_) (fun c_6 => ?_)
            · refine g_iinc (lv' := [(7, .int (nI (w + 1))), (0, .ref (Z.2.2.1 17 q)), (1, .ref (Z.2.2.1 2 g)), (2, .ref (Z.2.2.1 2 h)), (3, .int (nI v)), (4, .int (nI tk)), (5, .int (bI rs)), (6, .int (nI start))]) C ((nI (w + 1))) dX2_place_117 rfl (inc1 _) rfl rfl ?_
              refine g_goto (tgt := 40) C dX2_place_120 rfl ?_
              refine g_lv [1, 2, 3, 4, 5, 6, 7, 0] rfl ?_
              exact ih (w + 1) F2 (by omega) (by omega) (by omega) (fun r hr => by rw [k1 r hr, sK_self, up2_row hr]; exact hF1 r hr) (fun i hi => by rw [k2 i (by omega), sK_self, up2_ne (by omega)]; exact hF2 i hi) (fun _ e => absurd e (by omega)) (PC.none (fun r => (hs r).1) hinv (k4 c_6))
            · refine g_iconst C ((nI 1)) dX2_place_115 (by decide) ?_
              exact g_zreturn C hr (by decide) dX2_place_116 ⟨true, F2, rfl, rfl, rfl, fun r hr => by rw [k1 r hr, sK_self, up2_row hr]; exact hF1 r hr, fun i hi => by rw [k2 i (by omega), sK_self, up2_ne (by omega), hF2 i hi, hrow i hi], fun _ => by obtain ⟨f1, m1, m2, m3⟩ := k3 c_6; have hu := PC.up hvn (fun r => (hs r).1) (fun _ => hsw) m2; exact ⟨f1, m1, hu.1, PC.le hvn (fun r => (hs r).1) hinv hu m3⟩, fun h => absurd h (by decide)⟩
          · refine g_ild C dX2_place_97 rfl ?_
            refine g_ild C dX2_place_99 rfl ?_
            refine n_icmp_ne (tgt := 108) C dX2_place_101 rfl (by omega) (by omega) (fun c_5 => ?_) (fun c_5 => ?_)
            · refine g_iconst C ((nI 0)) dX2_place_108 (by decide) ?_
              refine g_top (y := bI (rs && decide (w = start))) (by first | (rw [c_4]; rfl) | (rw [c_4, decide_eq_true c_5]; rfl) | (rw [c_4, decide_eq_false c_5]; rfl)) ?_
              have hpp : plPre (sK I 18 (up2 F q v (nI w))) n T K L g h q (v + 1) (tk ||| 2 ^ w) (rs && decide (w = start)) (va_up f v w) := by
                refine ⟨hv.of (sK_ne (by decide)) (sK_ne (by decide)) (sK_ne (by decide)), hc.of (sK_ne (by decide)), by omega, htr.step (by omega) (fun j hj e => absurd ((htk.2 w).mpr ⟨j, hj, e⟩) (by rw [hbit]; decide)) (hb.mp c_3), htk.step (by omega), fun i hi => ?_, fun hrs => ?_⟩
                · rw [sK_self]
                  by_cases e : i = v
                  · subst e; rw [up2_self, va_up_self]
                  · rw [up2_ne e, va_up_ne _ _ e]; exact hF2 i (by omega)
                · obtain ⟨r1, r2⟩ := Bool.and_eq_true_iff.mp hrs
                  have ew : w = f v := (of_decide_eq_true r2).trans (hs r1).1
                  refine ⟨by rw [ew, va_up_id]; exact (hs r1).2, fun i hi => ?_⟩
                  rw [sK_self]
                  by_cases e : i = v
                  · subst e; rw [up2_self, va_up_self]
                  · rw [up2_ne e, va_up_ne _ _ e]; exact hF3 r1 (of_decide_eq_true r2) i hi
              refine g_callV (As := [.ref (Z.2.2.1 2 g), .ref (Z.2.2.1 2 h), .int (nI (v + 1)), .int (nI (tk ||| 2 ^ w)), .int (bI (rs && decide (w = start)))]) (st := []) C (hrec d' hd' (sK I 18 (up2 F q v (nI w))) J (v + 1) (tk ||| 2 ^ w) (rs && decide (w = start)) (va_up f v w) (by omega) hpp) wX2_place iX2_place sX2_place mX2_15 17 q (by decide) (show q < 2 by omega) rfl rfl rfl rfl rfl rfl rfl (Bool.and_eq_true_iff.mpr ⟨Nat.ble_eq.mpr (by omega), Nat.ble_eq.mpr (by omega)⟩) dX2_place_109 ?_
              rintro v9 I9 J9 ⟨b2, F2, h91, h92, h93, k1, k2, k3, k4⟩
              rw [h91, h92, h93, sK_sK]
              clear h91 h92 h93 v9 I9 J9
              show G X _ Z _ (sK I 18 F2) J 112 [(0, .ref (Z.2.2.1 17 q)), (1, .ref (Z.2.2.1 2 g)), (2, .ref (Z.2.2.1 2 h)), (3, .int (nI v)), (4, .int (nI tk)), (5, .int (bI rs)), (6, .int (nI start)), (7, .int (nI w))] [.int (bI b2)]
              refine b_if_eq (tgt := 117) C dX2_place_112 rfl (fun c_6 => ?_) (fun c_6 => ?_)
              · refine g_iinc (lv' := [(7, .int (nI (w + 1))), (0, .ref (Z.2.2.1 17 q)), (1, .ref (Z.2.2.1 2 g)), (2, .ref (Z.2.2.1 2 h)), (3, .int (nI v)), (4, .int (nI tk)), (5, .int (bI rs)), (6, .int (nI start))]) C ((nI (w + 1))) dX2_place_117 rfl (inc1 _) rfl rfl ?_
                refine g_goto (tgt := 40) C dX2_place_120 rfl ?_
                refine g_lv [1, 2, 3, 4, 5, 6, 7, 0] rfl ?_
                exact ih (w + 1) F2 (by omega) (by omega) (by omega) (fun r hr => by rw [k1 r hr, sK_self, up2_row hr]; exact hF1 r hr) (fun i hi => by rw [k2 i (by omega), sK_self, up2_ne (by omega)]; exact hF2 i hi) (fun _ e => absurd e (by omega)) (PC.none (fun r => (hs r).1) hinv (k4 c_6))
              · refine g_iconst C ((nI 1)) dX2_place_115 (by decide) ?_
                exact g_zreturn C hr (by decide) dX2_place_116 ⟨true, F2, rfl, rfl, rfl, fun r hr => by rw [k1 r hr, sK_self, up2_row hr]; exact hF1 r hr, fun i hi => by rw [k2 i (by omega), sK_self, up2_ne (by omega), hF2 i hi, hrow i hi], fun _ => by obtain ⟨f1, m1, m2, m3⟩ := k3 c_6; have hu := PC.up hvn (fun r => (hs r).1) (fun _ => hsw) m2; exact ⟨f1, m1, hu.1, PC.le hvn (fun r => (hs r).1) hinv hu m3⟩, fun h => absurd h (by decide)⟩
            · refine g_iconst C ((nI 1)) dX2_place_104 (by decide) ?_
              refine g_goto (tgt := 109) C dX2_place_105 rfl ?_
              refine g_top (y := bI (rs && decide (w = start))) (by first | (rw [c_4]; rfl) | (rw [c_4, decide_eq_true c_5]; rfl) | (rw [c_4, decide_eq_false c_5]; rfl)) ?_
              have hpp : plPre (sK I 18 (up2 F q v (nI w))) n T K L g h q (v + 1) (tk ||| 2 ^ w) (rs && decide (w = start)) (va_up f v w) := by
                refine ⟨hv.of (sK_ne (by decide)) (sK_ne (by decide)) (sK_ne (by decide)), hc.of (sK_ne (by decide)), by omega, htr.step (by omega) (fun j hj e => absurd ((htk.2 w).mpr ⟨j, hj, e⟩) (by rw [hbit]; decide)) (hb.mp c_3), htk.step (by omega), fun i hi => ?_, fun hrs => ?_⟩
                · rw [sK_self]
                  by_cases e : i = v
                  · subst e; rw [up2_self, va_up_self]
                  · rw [up2_ne e, va_up_ne _ _ e]; exact hF2 i (by omega)
                · obtain ⟨r1, r2⟩ := Bool.and_eq_true_iff.mp hrs
                  have ew : w = f v := (of_decide_eq_true r2).trans (hs r1).1
                  refine ⟨by rw [ew, va_up_id]; exact (hs r1).2, fun i hi => ?_⟩
                  rw [sK_self]
                  by_cases e : i = v
                  · subst e; rw [up2_self, va_up_self]
                  · rw [up2_ne e, va_up_ne _ _ e]; exact hF3 r1 (of_decide_eq_true r2) i hi
              refine g_callV (As := [.ref (Z.2.2.1 2 g), .ref (Z.2.2.1 2 h), .int (nI (v + 1)), .int (nI (tk ||| 2 ^ w)), .int (bI (rs && decide (w = start)))]) (st := []) C (hrec d' hd' (sK I 18 (up2 F q v (nI w))) J (v + 1) (tk ||| 2 ^ w) (rs && decide (w = start)) (va_up f v w) (by omega) hpp) wX2_place iX2_place sX2_place mX2_15 17 q (by decide) (show q < 2 by omega) rfl rfl rfl rfl rfl rfl rfl (Bool.and_eq_true_iff.mpr ⟨Nat.ble_eq.mpr (by omega), Nat.ble_eq.mpr (by omega)⟩) dX2_place_109 ?_
              rintro v9 I9 J9 ⟨b2, F2, h91, h92, h93, k1, k2, k3, k4⟩
              rw [h91, h92, h93, sK_sK]
              clear h91 h92 h93 v9 I9 J9
              show G X _ Z _ (sK I 18 F2) J 112 [(0, .ref (Z.2.2.1 17 q)), (1, .ref (Z.2.2.1 2 g)), (2, .ref (Z.2.2.1 2 h)), (3, .int (nI v)), (4, .int (nI tk)), (5, .int (bI rs)), (6, .int (nI start)), (7, .int (nI w))] [.int (bI b2)]
              refine b_if_eq (tgt := 117) C dX2_place_112 rfl (fun c_6 => ?_) (fun c_6 => ?_)
              · refine g_iinc (lv' := [(7, .int (nI (w + 1))), (0, .ref (Z.2.2.1 17 q)), (1, .ref (Z.2.2.1 2 g)), (2, .ref (Z.2.2.1 2 h)), (3, .int (nI v)), (4, .int (nI tk)), (5, .int (bI rs)), (6, .int (nI start))]) C ((nI (w + 1))) dX2_place_117 rfl (inc1 _) rfl rfl ?_
                refine g_goto (tgt := 40) C dX2_place_120 rfl ?_
                refine g_lv [1, 2, 3, 4, 5, 6, 7, 0] rfl ?_
                exact ih (w + 1) F2 (by omega) (by omega) (by omega) (fun r hr => by rw [k1 r hr, sK_self, up2_row hr]; exact hF1 r hr) (fun i hi => by rw [k2 i (by omega), sK_self, up2_ne (by omega)]; exact hF2 i hi) (fun _ e => absurd e (by omega)) (PC.none (fun r => (hs r).1) hinv (k4 c_6))
              · refine g_iconst C ((nI 1)) dX2_place_115 (by decide) ?_
                exact g_zreturn C hr (by decide) dX2_place_116 ⟨true, F2, rfl, rfl, rfl, fun r hr => by rw [k1 r hr, sK_self, up2_row hr]; exact hF1 r hr, fun i hi => by rw [k2 i (by omega), sK_self, up2_ne (by omega), hF2 i hi, hrow i hi], fun _ => by obtain ⟨f1, m1, m2, m3⟩ := k3 c_6; have hu := PC.up hvn (fun r => (hs r).1) (fun _ => hsw) m2; exact ⟨f1, m1, hu.1, PC.le hvn (fun r => (hs r).1) hinv hu m3⟩, fun h => absurd h (by decide)⟩

set_option maxRecDepth 100000 in
set_option maxHeartbeats 4000000 in
/-- NamingSeeker.place, over itself one level deeper -/
theorem c_X2_place_s {l : Launch} {Y : Yk} (hA : AJ Y.2.2) {I : SI} {J : SJ} {d n : Nat} {T : Nat → Nat → Nat} {K : Nat → Nat → Nat} {L : Nat → Nat → Nat → Nat} {g h q : Nat} (hg : g < 2) (hh : h < 2) (hq : q < 2) (hrec : ∀ d', d = d' + 1 → ∀ (I : SI) (J : SJ) (v tk : Nat) (rs : Bool) (f : Nat → Nat), v + d' = n → plPre I n T K L g h q v tk rs f → MX l Y yX2_place cX2_place 8 (some .boolean) (d' + 1) (40 * (d' + 1)) [.ref (Y.2.2 17 q), .ref (Y.2.2 2 g), .ref (Y.2.2 2 h), .int (nI v), .int (nI tk), .int (bI rs)] I J (plPost n K L g h q v rs f I J)) {v tk : Nat} {rs : Bool} {f : Nat → Nat} (hd : v + d = n) (hpre : plPre I n T K L g h q v tk rs f) : MX l Y yX2_place cX2_place 8 (some .boolean) (d + 1) (40 * (d + 1)) [.ref (Y.2.2 17 q), .ref (Y.2.2 2 g), .ref (Y.2.2 2 h), .int (nI v), .int (nI tk), .int (bI rs)] I J (plPost n K L g h q v rs f I J) := by
  refine MX.of hA (by decide) (own := RX2) rfl rfl rfl ?_
  intro X Z hl hY1 hY2 hY3 C hr
  obtain ⟨D0, ca0, ad0⟩ := Y
  dsimp only at hA hY1 hY2 hY3
  subst hY1; subst hY2; subst hY3; subst hl
  show G X 8 Z (QG X Z _) I J 0 [(0, .ref (Z.2.2.1 17 q)), (1, .ref (Z.2.2.1 2 g)), (2, .ref (Z.2.2.1 2 h)), (3, .int (nI v)), (4, .int (nI tk)), (5, .int (bI rs))] []
  obtain ⟨hv, hc, hvn, htr, htk, hrow, hres⟩ := hpre
  obtain ⟨⟨hn1, hn9⟩, -⟩ := id hv
  refine g_ildn C dX2_place_0 rfl ?_
  refine g_aldn C dX2_place_1 rfl ?_
  refine g_get C 2 g (by decide) (show g < 2 by omega) u1 rfl 0 rfl fX2_23 rfl rfl dX2_place_2 ?_
  refine g_top (y := (nI n)) (hv.sz (show g < 2 by omega)) ?_
  refine n_icmp_lt (tgt := 19) C dX2_place_5 rfl (by omega) (by omega) (fun c5 => ?_) (fun c5 => ?_)
  · refine g_ild C dX2_place_19 rfl ?_
    refine b_if_eq (tgt := 33) C dX2_place_21 rfl (fun c21 => ?_) (fun c21 => ?_)
    · refine g_iconst C ((nI 0)) dX2_place_33 (by decide) ?_
      refine g_ist (lv' := [(6, .int (nI 0)), (0, .ref (Z.2.2.1 17 q)), (1, .ref (Z.2.2.1 2 g)), (2, .ref (Z.2.2.1 2 h)), (3, .int (nI v)), (4, .int (nI tk)), (5, .int (bI rs))]) C dX2_place_34 rfl rfl ?_
      refine g_ild C dX2_place_36 rfl ?_
      refine g_ist (lv' := [(7, .int (nI 0)), (6, .int (nI 0)), (0, .ref (Z.2.2.1 17 q)), (1, .ref (Z.2.2.1 2 g)), (2, .ref (Z.2.2.1 2 h)), (3, .int (nI v)), (4, .int (nI tk)), (5, .int (bI rs))]) C dX2_place_38 rfl rfl ?_
      refine g_lv [2, 3, 4, 5, 6, 7, 1, 0] rfl ?_
      refine g_I (I1 := sK I 18 (I 18)) (sK_id _ _).symm ?_
      exact l_X2_place_40 hA C hr hv hc hg hh hq (by omega) htr htk hrow (fun h => absurd h (by rw [c21]; decide)) hd hrec (n + 1) 0 (I 18) (by omega) (by omega) (by omega) (fun _ _ => rfl) hrow (fun h => absurd h (by rw [c21]; decide)) (fun _ _ => Nat.zero_le _)
    · refine g_aldn C dX2_place_24 rfl ?_
      refine g_get C 17 q (by decide) (show q < 2 by omega) u2 rfl 0 rfl fX2_9 rfl rfl dX2_place_25 ?_
      refine g_ildn C dX2_place_28 rfl ?_
      refine g_iald C 18 q (by decide) (show q < 2 by omega) (fun _ _ => rfl) v (show v < 9 by omega) rfl dX2_place_29 (v := (nI (f v))) ((hres c21).2 v (by omega)) ?_
      refine g_goto (tgt := 34) C dX2_place_30 rfl ?_
      refine g_ist (lv' := [(6, .int (nI (f v))), (0, .ref (Z.2.2.1 17 q)), (1, .ref (Z.2.2.1 2 g)), (2, .ref (Z.2.2.1 2 h)), (3, .int (nI v)), (4, .int (nI tk)), (5, .int (bI rs))]) C dX2_place_34 rfl rfl ?_
      refine g_ild C dX2_place_36 rfl ?_
      refine g_ist (lv' := [(7, .int (nI (f v))), (6, .int (nI (f v))), (0, .ref (Z.2.2.1 17 q)), (1, .ref (Z.2.2.1 2 g)), (2, .ref (Z.2.2.1 2 h)), (3, .int (nI v)), (4, .int (nI tk)), (5, .int (bI rs))]) C dX2_place_38 rfl rfl ?_
      refine g_lv [2, 3, 4, 5, 6, 7, 1, 0] rfl ?_
      refine g_I (I1 := sK I 18 (I 18)) (sK_id _ _).symm ?_
      exact l_X2_place_40 hA C hr hv hc hg hh hq (by omega) htr htk hrow (fun h => ⟨rfl, (hres h).1⟩) hd hrec (n + 1) (f v) (I 18) (by omega) (by have := ((hres c21).1 v (by omega)).1; omega) (by omega) (fun _ _ => rfl) hrow (fun h _ => (hres h).2) (fun f2 h2 => by rw [c21] at h2; exact h2.start)
  · refine g_ild C dX2_place_8 rfl ?_
    refine b_if_ne (tgt := 17) C dX2_place_10 rfl (fun c10 => ?_) (fun c10 => ?_)
    · refine g_iconst C ((nI 0)) dX2_place_17 (by decide) ?_
      exact g_zreturn C hr (by decide) dX2_place_18 ⟨false, I 18, rfl, (sK_id _ _).symm, rfl, fun _ _ => rfl, fun _ _ => rfl, fun h => absurd h (by decide), fun _ f2 h2 => by obtain ⟨k, k1, k2, k3⟩ := h2.2.2 c10; exact absurd (h2.2.1 k (by omega)) (by omega)⟩
    · refine g_iconst C ((nI 1)) dX2_place_13 (by decide) ?_
      refine g_goto (tgt := 18) C dX2_place_14 rfl ?_
      exact g_zreturn C hr (by decide) dX2_place_18 ⟨true, I 18, rfl, (sK_id _ _).symm, rfl, fun _ _ => rfl, fun _ _ => rfl, fun _ => ⟨f, fun i hi => hrow i (by omega), ⟨fun i hi => htr i (by omega), fun _ _ => rfl, fun h => absurd h (by rw [c10]; decide)⟩, fun f2 h2 => Or.inr (fun i hi => (h2.2.1 i (by omega)).symm)⟩, fun h => absurd h (by decide)⟩

theorem c_X2_place {l : Launch} {Y : Yk} (hA : AJ Y.2.2) {n : Nat} {T : Nat → Nat → Nat} {K : Nat → Nat → Nat} {L : Nat → Nat → Nat → Nat} {g h q : Nat} (hg : g < 2) (hh : h < 2) (hq : q < 2) : ∀ (d : Nat) (I : SI) (J : SJ) (v tk : Nat) (rs : Bool) (f : Nat → Nat), v + d = n → plPre I n T K L g h q v tk rs f → MX l Y yX2_place cX2_place 8 (some .boolean) (d + 1) (40 * (d + 1)) [.ref (Y.2.2 17 q), .ref (Y.2.2 2 g), .ref (Y.2.2 2 h), .int (nI v), .int (nI tk), .int (bI rs)] I J (plPost n K L g h q v rs f I J) := by
  intro d
  induction d with
  | zero => intro I J v tk rs f hd hp; exact c_X2_place_s hA hg hh hq (fun d' e => absurd e (by omega)) hd hp
  | succ d ih => intro I J v tk rs f hd hp; exact c_X2_place_s hA hg hh hq (fun d' e => (show d' = d by omega) ▸ ih) hd hp
end
section
/-! ===== NamingSeeker: findFirst, findNext, findSymmetry ===== -/
theorem tkn_0 (f : Nat → Nat) : tkn 0 f 0 := ⟨by decide, fun w => ⟨fun h => absurd h (by simp), fun ⟨j, hj, _⟩ => absurd hj (Nat.not_lt_zero j)⟩⟩
theorem tkn_id {v : Nat} (hv : v ≤ 9) : tkn (2 ^ v - 1) (fun i => i) v := by
  refine ⟨?_, fun w => ?_⟩
  · have h1 : 2 ^ v ≤ 2 ^ 9 := Nat.pow_le_pow_right (by decide) hv
    have h2 : 0 < 2 ^ v := Nat.pow_pos (by decide)
    omega
  · rw [Nat.testBit_two_pow_sub_one, decide_eq_true_iff]
    exact ⟨fun h => ⟨w, h, rfl⟩, fun ⟨j, hj, e⟩ => by subst e; exact hj⟩
theorem tr_id (n : Nat) (K : Nat → Nat → Nat) (L : Nat → Nat → Nat → Nat) (g : Nat) {v : Nat} (hv : v ≤ n) : tr n K L g g (fun i => i) v := fun i hi => ⟨by show i < n; omega, fun j hj => by show j ≠ i; omega, rfl, fun u _ => ⟨rfl, rfl⟩⟩
set_option maxRecDepth 100000 in
set_option maxHeartbeats 4000000 in
/-- findFirst -/
theorem c_X2_findFirst {l : Launch} {Y : Yk} (hA : AJ Y.2.2) {I : SI} {J : SJ} {n : Nat} {T : Nat → Nat → Nat} {K : Nat → Nat → Nat} {L : Nat → Nat → Nat → Nat} (hv : CV I n T L) (hc : CC I n K) {g h q : Nat} (hg : g < 2) (hh : h < 2) (hq : q < 2) {f : Nat → Nat}  : MX l Y yX2_findFirst cX2_findFirst 3 (some .boolean) 12 500 [.ref (Y.2.2 17 q), .ref (Y.2.2 2 g), .ref (Y.2.2 2 h)] I J (plPost n K L g h q 0 false f I J) := by
  refine MX.of hA (by decide) (own := RX2) rfl rfl rfl ?_
  intro X Z hl hY1 hY2 hY3 C hr
  obtain ⟨D0, ca0, ad0⟩ := Y
  dsimp only at hA hY1 hY2 hY3
  subst hY1; subst hY2; subst hY3; subst hl
  show G X 3 Z (QG X Z _) I J 0 [(0, .ref (Z.2.2.1 17 q)), (1, .ref (Z.2.2.1 2 g)), (2, .ref (Z.2.2.1 2 h))] []
  obtain ⟨⟨hn1, hn9⟩, -⟩ := id hv
  refine g_aldn C dX2_findFirst_0 rfl ?_
  refine g_aldn C dX2_findFirst_1 rfl ?_
  refine g_aldn C dX2_findFirst_2 rfl ?_
  refine g_iconst C ((nI 0)) dX2_findFirst_3 (by decide) ?_
  refine g_iconst C ((nI 0)) dX2_findFirst_4 (by decide) ?_
  refine g_iconst C ((nI 0)) dX2_findFirst_5 (by decide) ?_
  refine g_top (y := bI false) rfl ?_
  refine g_callV (As := [.ref (Z.2.2.1 2 g), .ref (Z.2.2.1 2 h), .int (nI 0), .int (nI 0), .int (bI false)]) (st := []) C (c_X2_place hA hg hh hq n I J 0 0 false f (by omega) ⟨hv, hc, Nat.zero_le _, fun i hi => absurd hi (by omega), tkn_0 f, fun i hi => absurd hi (by omega), fun h => absurd h (by decide)⟩) wX2_place iX2_place sX2_place mX2_15 17 q (by decide) (show q < 2 by omega) rfl rfl rfl rfl rfl rfl rfl (Bool.and_eq_true_iff.mpr ⟨Nat.ble_eq.mpr (by omega), Nat.ble_eq.mpr (by omega)⟩) dX2_findFirst_6 ?_
  rintro v9 I9 J9 hpost
  obtain ⟨b, F, h91, -⟩ := id hpost
  rw [h91]
  show G X _ Z _ I9 J9 9 [(0, .ref (Z.2.2.1 17 q)), (1, .ref (Z.2.2.1 2 g)), (2, .ref (Z.2.2.1 2 h))] [.int (bI b)]
  exact g_zreturn C hr (nar_b _) dX2_findFirst_9 (by rw [← h91]; exact hpost)

set_option maxRecDepth 100000 in
set_option maxHeartbeats 4000000 in
/-- findNext -/
theorem c_X2_findNext {l : Launch} {Y : Yk} (hA : AJ Y.2.2) {I : SI} {J : SJ} {n : Nat} {T : Nat → Nat → Nat} {K : Nat → Nat → Nat} {L : Nat → Nat → Nat → Nat} (hv : CV I n T L) (hc : CC I n K) {g h q : Nat} (hg : g < 2) (hh : h < 2) (hq : q < 2) {f : Nat → Nat} (htr : tr n K L g h f n) (hrow : ∀ i, i < n → I 18 q i = nI (f i))  : MX l Y yX2_findNext cX2_findNext 3 (some .boolean) 12 500 [.ref (Y.2.2 17 q), .ref (Y.2.2 2 g), .ref (Y.2.2 2 h)] I J (plPost n K L g h q 0 true f I J) := by
  refine MX.of hA (by decide) (own := RX2) rfl rfl rfl ?_
  intro X Z hl hY1 hY2 hY3 C hr
  obtain ⟨D0, ca0, ad0⟩ := Y
  dsimp only at hA hY1 hY2 hY3
  subst hY1; subst hY2; subst hY3; subst hl
  show G X 3 Z (QG X Z _) I J 0 [(0, .ref (Z.2.2.1 17 q)), (1, .ref (Z.2.2.1 2 g)), (2, .ref (Z.2.2.1 2 h))] []
  obtain ⟨⟨hn1, hn9⟩, -⟩ := id hv
  refine g_aldn C dX2_findNext_0 rfl ?_
  refine g_aldn C dX2_findNext_1 rfl ?_
  refine g_aldn C dX2_findNext_2 rfl ?_
  refine g_iconst C ((nI 0)) dX2_findNext_3 (by decide) ?_
  refine g_iconst C ((nI 0)) dX2_findNext_4 (by decide) ?_
  refine g_iconst C ((nI 1)) dX2_findNext_5 (by decide) ?_
  refine g_top (y := bI true) rfl ?_
  refine g_callV (As := [.ref (Z.2.2.1 2 g), .ref (Z.2.2.1 2 h), .int (nI 0), .int (nI 0), .int (bI true)]) (st := []) C (c_X2_place hA hg hh hq n I J 0 0 true f (by omega) ⟨hv, hc, Nat.zero_le _, fun i hi => absurd hi (by omega), tkn_0 f, fun i hi => absurd hi (by omega), fun _ => ⟨htr, hrow⟩⟩) wX2_place iX2_place sX2_place mX2_15 17 q (by decide) (show q < 2 by omega) rfl rfl rfl rfl rfl rfl rfl (Bool.and_eq_true_iff.mpr ⟨Nat.ble_eq.mpr (by omega), Nat.ble_eq.mpr (by omega)⟩) dX2_findNext_6 ?_
  rintro v9 I9 J9 hpost
  obtain ⟨b, F, h91, -⟩ := id hpost
  rw [h91]
  show G X _ Z _ I9 J9 9 [(0, .ref (Z.2.2.1 17 q)), (1, .ref (Z.2.2.1 2 g)), (2, .ref (Z.2.2.1 2 h))] [.int (bI b)]
  exact g_zreturn C hr (nar_b _) dX2_findNext_9 (by rw [← h91]; exact hpost)

/-- f leaves each vertex before v and leads v to w -/
def syn (n : Nat) (K : Nat → Nat → Nat) (L : Nat → Nat → Nat → Nat) (g v w : Nat) (f : Nat → Nat) : Prop := tr n K L g g f n ∧ (∀ i, i < v → f i = i) ∧ f v = w
def fsPost (n : Nat) (K : Nat → Nat → Nat) (L : Nat → Nat → Nat → Nat) (g q v w : Nat) (I : SI) (J : SJ) : Option Value → SI → SJ → Prop := fun v' I' J' =>
  ∃ (b : Bool) (F : Nat → Nat → Int32), v' = some (.int (bI b)) ∧ I' = sK I 18 F ∧ J' = J ∧ (∀ r, r ≠ q → F r = I 18 r) ∧ (b = true → ∃ f', (∀ i, i < n → F q i = nI (f' i)) ∧ syn n K L g v w f') ∧ (b = false → ∀ f2, ¬ syn n K L g v w f2)
set_option maxRecDepth 100000 in
set_option maxHeartbeats 4000000 in
theorem l_X2_findSymmetry_3 {X : Pk} {Z : Zk} {I : SI} {J : SJ} (hA : AJ Z.2.2.1) (C : Cx X cX2_findSymmetry 5 RX2 Z 12 500) (hr : (xE X).sig.returnType = some .boolean) {n : Nat} {T : Nat → Nat → Nat} {K : Nat → Nat → Nat} {L : Nat → Nat → Nat → Nat} (hv : CV I n T L) (hc : CC I n K) {g q : Nat} (hg : g < 2) (hq : q < 2) {v w : Nat} (hvw : v < w) (hwn : w < n)  : ∀ k u F, v - u < k → u ≤ v → (∀ r, r ≠ q → F r = I 18 r) → (∀ i, i < u → F q i = nI i) → G X 5 Z (QG X Z (fsPost n K L g q v w I J)) (sK I 18 F) J 3 [(0, .ref (Z.2.2.1 17 q)), (1, .ref (Z.2.2.1 2 g)), (2, .int (nI v)), (3, .int (nI w)), (4, .int (nI u))] [] := by
  obtain ⟨⟨hn1, hn9⟩, -⟩ := id hv
  have hp2 : 1 ≤ 2 ^ v := Nat.pow_pos (by decide)
  intro k
  induction k with
  | zero => intro u F h; exact absurd h (by omega)
  | succ k ih =>
    intro u F hk huv hF1 hF2
    refine g_ild C dX2_findSymmetry_3 rfl ?_
    refine g_ildn C dX2_findSymmetry_5 rfl ?_
    refine n_icmp_ge (tgt := 24) C dX2_findSymmetry_6 rfl (by omega) (by omega) (fun c6 => ?_) (fun c6 => ?_)
    · refine g_aldn C dX2_findSymmetry_24 rfl ?_
      refine g_aldn C dX2_findSymmetry_25 rfl ?_
      refine g_aldn C dX2_findSymmetry_26 rfl ?_
      refine g_ildn C dX2_findSymmetry_27 rfl ?_
      refine g_ildn C dX2_findSymmetry_28 rfl ?_
      refine g_callV (As := [.ref (Z.2.2.1 2 g), .ref (Z.2.2.1 2 g), .int (nI v), .int (nI w)]) (st := []) C (c_X2_fits hA (f := fun i => i) (hv.of (sK_ne (by decide)) (sK_ne (by decide)) (sK_ne (by decide))) (hc.of (sK_ne (by decide))) hg hg hq (show v < n by omega) hwn (fun i hi => ⟨hF2 i (by omega), by show i < n; omega⟩)) wX2_fits iX2_fits sX2_fits mX2_19 17 q (by decide) (show q < 2 by omega) rfl rfl rfl rfl rfl rfl rfl rfl dX2_findSymmetry_29 ?_
      rintro v9 I9 J9 ⟨b, h91, hb, h92, h93⟩
      rw [h91, h92, h93]
      clear h91 h92 h93 v9 I9 J9
      show G X _ Z _ (sK I 18 F) J 32 [(0, .ref (Z.2.2.1 17 q)), (1, .ref (Z.2.2.1 2 g)), (2, .int (nI v)), (3, .int (nI w)), (4, .int (nI u))] [.int (bI b)]
      refine b_if_ne (tgt := 37) C dX2_findSymmetry_32 rfl (fun c32 => ?_) (fun c32 => ?_)
      · refine g_aldn C dX2_findSymmetry_37 rfl ?_
        refine g_get C 17 q (by decide) (show q < 2 by omega) u2 rfl 0 rfl fX2_9 rfl rfl dX2_findSymmetry_38 ?_
        refine g_ildn C dX2_findSymmetry_41 rfl ?_
        refine g_ildn C dX2_findSymmetry_42 rfl ?_
        refine g_iast C 18 q (by decide) (show q < 2 by omega) (fun _ _ => rfl) v (show v < 9 by omega) rfl dX2_findSymmetry_43 ?_
        refine g_I (I1 := sK I 18 (up2 F q v (nI w))) (by rw [sK_self, sK_sK]) ?_
        refine g_iconst C ((nI 1)) dX2_findSymmetry_44 (by decide) ?_
        refine g_ildn C dX2_findSymmetry_45 rfl ?_
        refine g_ishl (v := (nI (2 ^ v))) C dX2_findSymmetry_46 (shl1 v (by omega)) ?_
        refine g_iconst C ((nI 1)) dX2_findSymmetry_47 (by decide) ?_
        refine g_isub (v := (nI (2 ^ v - 1))) C dX2_findSymmetry_48 (pk_sub hp2) ?_
        refine g_iconst C ((nI 1)) dX2_findSymmetry_49 (by decide) ?_
        refine g_ildn C dX2_findSymmetry_50 rfl ?_
        refine g_ishl (v := (nI (2 ^ w))) C dX2_findSymmetry_51 (shl1 w (by omega)) ?_
        refine g_ior (v := (nI (2 ^ v - 1 ||| 2 ^ w))) C dX2_findSymmetry_52 (orI _ _) ?_
        refine g_ist (lv' := [(4, .int (nI (2 ^ v - 1 ||| 2 ^ w))), (0, .ref (Z.2.2.1 17 q)), (1, .ref (Z.2.2.1 2 g)), (2, .int (nI v)), (3, .int (nI w))]) C dX2_findSymmetry_53 rfl rfl ?_
        refine g_aldn C dX2_findSymmetry_55 rfl ?_
        refine g_aldn C dX2_findSymmetry_56 rfl ?_
        refine g_aldn C dX2_findSymmetry_57 rfl ?_
        refine g_ildn C dX2_findSymmetry_58 rfl ?_
        refine g_iconst C ((nI 1)) dX2_findSymmetry_59 (by decide) ?_
        refine g_iadd (v := (nI (v + 1))) C dX2_findSymmetry_60 (nI_add _ _) ?_
        refine g_ild C dX2_findSymmetry_61 rfl ?_
        refine g_iconst C ((nI 0)) dX2_findSymmetry_63 (by decide) ?_
        refine g_top (y := bI false) rfl ?_
        have hpp : plPre (sK I 18 (up2 F q v (nI w))) n T K L g g q (v + 1) (2 ^ v - 1 ||| 2 ^ w) false (va_up (fun i => i) v w) := by
          refine ⟨hv.of (sK_ne (by decide)) (sK_ne (by decide)) (sK_ne (by decide)), hc.of (sK_ne (by decide)), by omega, (tr_id n K L g (by omega)).step hwn (fun j hj => by show j ≠ w; omega) (hb.mp c32), (tkn_id (by omega)).step (by omega), fun i hi => ?_, fun h => absurd h (by decide)⟩
          rw [sK_self]
          by_cases e : i = v
          · subst e; rw [up2_self, va_up_self]
          · rw [up2_ne e, va_up_ne _ _ e]; exact hF2 i (by omega)
        refine g_callV (As := [.ref (Z.2.2.1 2 g), .ref (Z.2.2.1 2 g), .int (nI (v + 1)), .int (nI (2 ^ v - 1 ||| 2 ^ w)), .int (bI false)]) (st := []) C (c_X2_place hA hg hg hq (n - (v + 1)) (sK I 18 (up2 F q v (nI w))) J (v + 1) (2 ^ v - 1 ||| 2 ^ w) false (va_up (fun i => i) v w) (by omega) hpp) wX2_place iX2_place sX2_place mX2_15 17 q (by decide) (show q < 2 by omega) rfl rfl rfl rfl rfl rfl rfl (Bool.and_eq_true_iff.mpr ⟨Nat.ble_eq.mpr (by omega), Nat.ble_eq.mpr (by omega)⟩) dX2_findSymmetry_64 ?_
        rintro v9 I9 J9 ⟨b2, F2, h91, h92, h93, k1, k2, k3, k4⟩
        rw [h91, h92, h93, sK_sK]
        clear h91 h92 h93 v9 I9 J9
        show G X _ Z _ (sK I 18 F2) J 67 [(4, .int (nI (2 ^ v - 1 ||| 2 ^ w))), (0, .ref (Z.2.2.1 17 q)), (1, .ref (Z.2.2.1 2 g)), (2, .int (nI v)), (3, .int (nI w))] [.int (bI b2)]
        exact g_zreturn C hr (nar_b _) dX2_findSymmetry_67 ⟨b2, F2, rfl, rfl, rfl, fun r hr => by rw [k1 r hr, sK_self, up2_row hr]; exact hF1 r hr, fun h => by obtain ⟨f1, m1, m2, m3⟩ := k3 h; exact ⟨f1, m1, m2.1, fun i hi => by rw [m2.2.1 i (by omega), va_up_ne _ _ (by omega)], by rw [m2.2.1 v (by omega), va_up_self]⟩, fun h f2 h2 => k4 h f2 ⟨h2.1, fun i hi => (Nat.lt_or_eq_of_le (Nat.le_of_lt_succ hi)).elim (fun e => by rw [va_up_ne _ _ (by omega)]; exact h2.2.1 i e) (fun e => by subst e; rw [va_up_self]; exact h2.2.2), fun h => absurd h (by decide)⟩⟩
      · refine g_iconst C ((nI 0)) dX2_findSymmetry_35 (by decide) ?_
        exact g_zreturn C hr (by decide) dX2_findSymmetry_36 ⟨false, F, rfl, rfl, rfl, hF1, fun h => absurd h (by decide), fun _ f2 h2 => by obtain ⟨a1, a2, a3⟩ := h2; have a4 := (a1 v (by omega)).2.2; rw [a3] at a4; exact absurd (hb.mpr (a4.of (fun i hi => (a2 i hi).symm))) (by rw [c32]; decide)⟩
    · refine g_aldn C dX2_findSymmetry_9 rfl ?_
      refine g_get C 17 q (by decide) (show q < 2 by omega) u2 rfl 0 rfl fX2_9 rfl rfl dX2_findSymmetry_10 ?_
      refine g_ild C dX2_findSymmetry_13 rfl ?_
      refine g_ild C dX2_findSymmetry_15 rfl ?_
      refine g_iast C 18 q (by decide) (show q < 2 by omega) (fun _ _ => rfl) u (show u < 9 by omega) rfl dX2_findSymmetry_17 ?_
      refine g_I (I1 := sK I 18 (up2 F q u (nI u))) (by rw [sK_self, sK_sK]) ?_
      refine g_iinc (lv' := [(4, .int (nI (u + 1))), (0, .ref (Z.2.2.1 17 q)), (1, .ref (Z.2.2.1 2 g)), (2, .int (nI v)), (3, .int (nI w))]) C ((nI (u + 1))) dX2_findSymmetry_18 rfl (inc1 _) rfl rfl ?_
      refine g_goto (tgt := 3) C dX2_findSymmetry_21 rfl ?_
      refine g_lv [1, 2, 3, 4, 0] rfl ?_
      refine ih (u + 1) _ (by omega) (by omega) (fun r hr => by rw [up2_row hr]; exact hF1 r hr) (fun i hi => ?_)
      rw [up2_at]
      by_cases e : i = u
      · rw [if_pos ⟨rfl, e⟩, e]
      · rw [if_neg (fun q => e q.2)]; exact hF2 i (by omega)

set_option maxRecDepth 100000 in
set_option maxHeartbeats 4000000 in
/-- findSymmetry -/
theorem c_X2_findSymmetry {l : Launch} {Y : Yk} (hA : AJ Y.2.2) {I : SI} {J : SJ} {n : Nat} {T : Nat → Nat → Nat} {K : Nat → Nat → Nat} {L : Nat → Nat → Nat → Nat} (hv : CV I n T L) (hc : CC I n K) {g q : Nat} (hg : g < 2) (hq : q < 2) {v w : Nat} (hvw : v < w) (hwn : w < n)  : MX l Y yX2_findSymmetry cX2_findSymmetry 5 (some .boolean) 12 500 [.ref (Y.2.2 17 q), .ref (Y.2.2 2 g), .int (nI v), .int (nI w)] I J (fsPost n K L g q v w I J) := by
  refine MX.of hA (by decide) (own := RX2) rfl rfl rfl ?_
  intro X Z hl hY1 hY2 hY3 C hr
  obtain ⟨D0, ca0, ad0⟩ := Y
  dsimp only at hA hY1 hY2 hY3
  subst hY1; subst hY2; subst hY3; subst hl
  show G X 5 Z (QG X Z _) I J 0 [(0, .ref (Z.2.2.1 17 q)), (1, .ref (Z.2.2.1 2 g)), (2, .int (nI v)), (3, .int (nI w))] []
  obtain ⟨⟨hn1, hn9⟩, -⟩ := id hv
  refine g_iconst C ((nI 0)) dX2_findSymmetry_0 (by decide) ?_
  refine g_ist (lv' := [(4, .int (nI 0)), (0, .ref (Z.2.2.1 17 q)), (1, .ref (Z.2.2.1 2 g)), (2, .int (nI v)), (3, .int (nI w))]) C dX2_findSymmetry_1 rfl rfl ?_
  refine g_lv [1, 2, 3, 4, 0] rfl ?_
  refine g_I (I1 := sK I 18 (I 18)) (sK_id _ _).symm ?_
  exact l_X2_findSymmetry_3 hA C hr hv hc hg hq hvw hwn (v + 1) 0 (I 18) (by omega) (by omega) (fun _ _ => rfl) (fun i hi => absurd hi (by omega))
end
section
/-! ===== the least vertices of orbits, as they are joined; the product ===== -/
noncomputable def dc (P : Prop) : Bool := @decide P (Classical.propDecidable P)
theorem dc_t {P : Prop} : dc P = true ↔ P := by
  unfold dc
  exact @decide_eq_true_iff P (Classical.propDecidable P)
theorem dc_f {P : Prop} (h : ¬ P) : dc P = false := by
  cases hh : dc P with
  | false => rfl
  | true => exact absurd (dc_t.mp hh) h
theorem CV.of2 {I I' : SI} {n : Nat} {T : Nat → Nat → Nat} {L : Nat → Nat → Nat → Nat} (h : CV I n T L) (h2 : ∀ g, I' 2 g 0 = I 2 g 0) (h3 : I' 3 = I 3) (h5 : I' 5 = I 5) : CV I' n T L :=
  ⟨h.1, fun g hg => by rw [h2, h3, h5]; exact h.2 g hg⟩
theorem up2_up2 {α : Type} (F : Nat → Nat → α) (r i : Nat) (x y : α) : up2 (up2 F r i x) r i y = up2 F r i y := by
  funext r' i'
  rw [up2_at, up2_at, up2_at]
  split <;> rfl
theorem sk3a {α : Type} (I : Nat → α) {a b c : Nat} (h1 : a ≠ b) (h2 : a ≠ c) (A A' B D : α) : sK (sK (sK (sK I a A) b B) c D) a A' = sK (sK (sK I a A') b B) c D := by
  rw [sK_swap _ (Ne.symm h2), sK_swap _ (Ne.symm h1), sK_sK]
theorem sk3b {α : Type} (I : Nat → α) {b c : Nat} (h : b ≠ c) (B B' D : α) : sK (sK (sK I b B) c D) b B' = sK (sK I b B') c D := by
  rw [sK_swap _ (Ne.symm h), sK_sK]
/-- o names of each vertex one that is no greater and names itself -/
def LO (n : Nat) (o : Nat → Nat) : Prop := ∀ i, i < n → o i ≤ i ∧ o (o i) = o i
/-- a relation among vertices -/
def EQV (n : Nat) (R : Nat → Nat → Prop) : Prop := (∀ i, i < n → R i i) ∧ (∀ i j, i < n → j < n → R i j → R j i) ∧ ∀ i j k, i < n → j < n → k < n → R i j → R j k → R i k
/-- o' joins what o does, and x with f x for x < v -/
def JO (n : Nat) (f o o' : Nat → Nat) (v : Nat) : Prop := LO n o' ∧ (∀ i j, i < n → j < n → o i = o j → o' i = o' j) ∧ (∀ x, x < v → o' x = o' (f x)) ∧ ∀ R, EQV n R → (∀ i, i < n → R i (o i)) → (∀ x, x < n → R x (f x)) → ∀ i, i < n → R i (o' i)
theorem JO.z {n : Nat} {f o : Nat → Nat} (h : LO n o) : JO n f o o 0 := ⟨h, fun _ _ _ _ e => e, fun x hx => absurd hx (Nat.not_lt_zero x), fun _ _ h1 _ => h1⟩
theorem JO.same {n : Nat} {f o o' : Nat → Nat} {v : Nat} (h : JO n f o o' v) (e : o' v = o' (f v)) : JO n f o o' (v + 1) :=
  ⟨h.1, h.2.1, fun x hx => (Nat.lt_or_eq_of_le (Nat.le_of_lt_succ hx)).elim (h.2.2.1 x) (fun q => by rw [q]; exact e), h.2.2.2⟩
/-- every M becomes m -/
def rpl (o : Nat → Nat) (M m : Nat) : Nat → Nat := fun i => if o i = M then m else o i
theorem JO.join {n : Nat} {f o o' : Nat → Nat} {v : Nat} (hv : v < n) (hf : ∀ x, x < n → f x < n) (h : JO n f o o' v) (e : o' v ≠ o' (f v)) : JO n f o (rpl o' (max (o' v) (o' (f v))) (min (o' v) (o' (f v)))) (v + 1) := by
  obtain ⟨h1, h2, h3, h4⟩ := h
  have hfv := hf v hv
  obtain ⟨a1, a2⟩ := h1 v hv
  obtain ⟨b1, b2⟩ := h1 (f v) hfv
  generalize ha : o' v = a at *
  generalize hb : o' (f v) = b at *
  have hM : o' (max a b) = max a b := by
    rcases Nat.le_total a b with q | q
    · rw [Nat.max_eq_right q]; exact b2
    · rw [Nat.max_eq_left q]; exact a2
  have hm : o' (min a b) = min a b := by
    rcases Nat.le_total a b with q | q
    · rw [Nat.min_eq_left q]; exact a2
    · rw [Nat.min_eq_right q]; exact b2
  have hlt : min a b < max a b := by omega
  have hne : ∀ i, o' i = max a b → rpl o' (max a b) (min a b) i = min a b := fun i q => if_pos q
  have hno : ∀ i, o' i ≠ max a b → rpl o' (max a b) (min a b) i = o' i := fun i q => if_neg q
  refine ⟨fun i hi => ?_, fun i j hi hj q => ?_, fun x hx => ?_, fun R hR r1 r2 i hi => ?_⟩
  · by_cases q : o' i = max a b
    · rw [hne i q, hno _ (by rw [hm]; omega), hm]
      exact ⟨by have := (h1 i hi).1; omega, rfl⟩
    · rw [hno i q, hno _ (by rw [(h1 i hi).2]; exact q)]
      exact h1 i hi
  · have q2 := h2 i j hi hj q
    unfold rpl
    rw [q2]
  · rcases Nat.lt_or_eq_of_le (Nat.le_of_lt_succ hx) with q | q
    · unfold rpl
      rw [h3 x q]
    · subst q
      unfold rpl
      rw [ha, hb]
      rcases Nat.le_total a b with q | q
      · rw [Nat.max_eq_right q, Nat.min_eq_left q, if_pos rfl, if_neg e]
      · rw [Nat.max_eq_left q, Nat.min_eq_right q, if_pos rfl, if_neg (Ne.symm e)]
  · have ri := h4 R hR r1 r2 i hi
    by_cases q : o' i = max a b
    · rw [hne i q]
      rw [q] at ri
      have rv := h4 R hR r1 r2 v hv
      have rf := h4 R hR r1 r2 (f v) hfv
      rw [ha] at rv
      rw [hb] at rf
      have an : a < n := by omega
      have bn : b < n := by omega
      have rab : R a b := hR.2.2 a v b an hv bn (hR.2.1 v a hv an rv) (hR.2.2 v (f v) b hv hfv bn (r2 v hv) rf)
      rcases Nat.le_total a b with q2 | q2
      · rw [Nat.max_eq_right q2] at ri
        rw [Nat.min_eq_left q2]
        exact hR.2.2 i b a hi bn an ri (hR.2.1 a b an bn rab)
      · rw [Nat.max_eq_left q2] at ri
        rw [Nat.min_eq_right q2]
        exact hR.2.2 i a b hi an bn ri rab
    · rw [hno i q]
      exact ri
/-- the number of symmetries, as a product -/
noncomputable def sn (n : Nat) (K : Nat → Nat → Nat) (L : Nat → Nat → Nat → Nat) (g : Nat) : Nat → Nat
  | 0 => 1
  | v + 1 => sn n K L g v * (1 + ct (fun w => dc (v < w ∧ ∃ f, syn n K L g v w f)) n)
theorem ct_none {p : Nat → Bool} : ∀ m, (∀ i, i < m → p i = false) → ct p m = 0
  | 0, _ => rfl
  | m + 1, h => by
    show ct p m + _ = 0
    rw [ct_none m (fun i hi => h i (by omega)), h m (by omega)]
    rfl
theorem ct_lt {p : Nat → Bool} {n i : Nat} (hi : i < n) (h : p i = false) : ct p n < n := by
  induction n with
  | zero => omega
  | succ n ih =>
    show ct p n + (if p n then 1 else 0) < n + 1
    by_cases e : i = n
    · subst e
      rw [h]
      have := ct_le p i
      simp
      omega
    · have := ih (by omega)
      split <;> omega
theorem sn_le {n : Nat} {K : Nat → Nat → Nat} {L : Nat → Nat → Nat → Nat} {g : Nat} (hn : n ≤ 9) : ∀ v, v ≤ n → sn n K L g v ≤ 9 ^ v
  | 0, _ => Nat.le_refl 1
  | v + 1, hv => by
    have h1 := sn_le (K := K) (L := L) (g := g) hn v (by omega)
    have h2 := ct_lt (p := fun w => dc (v < w ∧ ∃ f, syn n K L g v w f)) (n := n) (i := v) (by omega) (dc_f (fun q => by omega))
    show sn n K L g v * _ ≤ 9 ^ (v + 1)
    rw [Nat.pow_succ]
    exact Nat.mul_le_mul h1 (by omega)
/-- what the least vertices say: found symmetries join, and nothing else does -/
def OR (n : Nat) (K : Nat → Nat → Nat) (L : Nat → Nat → Nat → Nat) (g : Nat) (o : Nat → Nat) (D : Nat → Nat → Prop) : Prop :=
  LO n o ∧ (∀ v w, D v w → v < w → w < n → (∃ f, syn n K L g v w f) → ∃ f, syn n K L g v w f ∧ ∀ x, x < n → o x = o (f x)) ∧ ∀ R, EQV n R → (∀ f, tr n K L g g f n → ∀ x, x < n → R x (f x)) → ∀ i, i < n → R i (o i)
theorem OR.z (n : Nat) (K : Nat → Nat → Nat) (L : Nat → Nat → Nat → Nat) (g : Nat) {o : Nat → Nat} (ho : ∀ i, i < n → o i = i) : OR n K L g o (fun _ _ => False) :=
  ⟨fun i hi => by rw [ho i hi, ho i hi]; exact ⟨Nat.le_refl i, rfl⟩, fun _ _ h => h.elim, fun R hR _ i hi => by rw [ho i hi]; exact hR.1 i hi⟩
theorem OR.mono {n : Nat} {K : Nat → Nat → Nat} {L : Nat → Nat → Nat → Nat} {g : Nat} {o : Nat → Nat} {D D' : Nat → Nat → Prop} (h : OR n K L g o D) (hd : ∀ v w, v < w → w < n → D' v w → (∃ f, syn n K L g v w f) → D v w) : OR n K L g o D' :=
  ⟨h.1, fun v w h1 h2 h3 h4 => h.2.1 v w (hd v w h2 h3 h1 h4) h2 h3 h4, h.2.2⟩
theorem OR.join {n : Nat} {K : Nat → Nat → Nat} {L : Nat → Nat → Nat → Nat} {g : Nat} {o o' : Nat → Nat} {D D' : Nat → Nat → Prop} {v w : Nat} {f : Nat → Nat} (h : OR n K L g o D) (hs : syn n K L g v w f) (hj : JO n f o o' n) (hd : ∀ a b, a < b → b < n → D' a b → (∃ f, syn n K L g a b f) → D a b ∨ (a = v ∧ b = w)) : OR n K L g o' D' := by
  refine ⟨hj.1, fun a b h1 h2 h3 h4 => ?_, fun R hR r1 i hi => hj.2.2.2 R hR (h.2.2 R hR r1) (r1 f hs.1) i hi⟩
  rcases hd a b h2 h3 h1 h4 with q | ⟨rfl, rfl⟩
  · obtain ⟨f2, e1, e2⟩ := h.2.1 a b q h2 h3 h4
    exact ⟨f2, e1, fun x hx => hj.2.1 x (f2 x) hx (e1.1 x hx).1 (e2 x hx)⟩
  · exact ⟨f, hs, hj.2.2.1⟩
end
section
/-! ===== SymmetryFinder: replace, joinOrbits, find ===== -/
set_option maxRecDepth 100000 in
set_option maxHeartbeats 4000000 in
theorem l_X4_replace_3 {X : Pk} {Z : Zk} {fr lo : Nat} {I : SI} {J : SJ} (C : Cx X cX4_replace 5 RX4 Z fr lo) (hr : (xE X).sig.returnType = none) {n : Nat} (hn9 : n ≤ 9) {g : Nat} (hg : g < 2) {o : Nat → Nat} (ho : ∀ i, i < n → I 8 g i = nI (o i) ∧ o i < 9) {M m : Nat} (hM : M < 9) (hm : m < 9)  : ∀ k j B, n - j < k → j ≤ n → (∀ r, r ≠ g → B r = I 8 r) → (∀ i, i < j → B g i = nI (rpl o M m i)) → (∀ i, i < n → j ≤ i → B g i = I 8 g i) → G X 5 Z (QG X Z (fun v' I' J' => ∃ B : Nat → Nat → Int32, v' = none ∧ I' = sK I 8 B ∧ J' = J ∧ (∀ r, r ≠ g → B r = I 8 r) ∧ ∀ i, i < n → B g i = nI (rpl o M m i))) (sK I 8 B) J 3 [(0, .ref (Z.2.2.1 8 g)), (1, .int (nI n)), (2, .int (nI M)), (3, .int (nI m)), (4, .int (nI j))] [] := by
  intro k
  induction k with
  | zero => intro j B h; exact absurd h (by omega)
  | succ k ih =>
    intro j B hk hjn hB1 hB3 hB2
    have hoj : j < n → o j < 9 := fun h => (ho j h).2
    refine g_ild C dX4_replace_3 rfl ?_
    refine g_ildn C dX4_replace_5 rfl ?_
    refine n_icmp_ge (tgt := 28) C dX4_replace_6 rfl (by omega) (by omega) (fun c6 => ?_) (fun c6 => ?_)
    · exact g_return C hr dX4_replace_28 ⟨B, rfl, rfl, rfl, hB1, fun i hi => hB3 i (by omega)⟩
    · refine g_aldn C dX4_replace_9 rfl ?_
      refine g_ild C dX4_replace_10 rfl ?_
      refine g_iald C 8 g (by decide) (show g < 2 by omega) (fun _ _ => rfl) j (show j < 9 by omega) rfl dX4_replace_12 (v := (nI (o j))) ((hB2 j (by omega) (Nat.le_refl j)).trans (ho j (by omega)).1) ?_
      refine g_ildn C dX4_replace_13 rfl ?_
      refine n_icmp_ne (tgt := 22) C dX4_replace_14 rfl (by omega) (by omega) (fun c14 => ?_) (fun c14 => ?_)
      · refine g_iinc (lv' := [(4, .int (nI (j + 1))), (0, .ref (Z.2.2.1 8 g)), (1, .int (nI n)), (2, .int (nI M)), (3, .int (nI m))]) C ((nI (j + 1))) dX4_replace_22 rfl (inc1 _) rfl rfl ?_
        refine g_goto (tgt := 3) C dX4_replace_25 rfl ?_
        refine g_lv [1, 2, 3, 4, 0] rfl ?_
        refine ih (j + 1) _ (by omega) (by omega) hB1 (fun i hi => ?_) (fun i hi hj => hB2 i hi (by omega))
        by_cases e : i = j
        · rw [e, (hB2 j (by omega) (Nat.le_refl j)).trans (ho j (by omega)).1]; unfold rpl; rw [if_neg c14]
        · exact hB3 i (by omega)
      · refine g_aldn C dX4_replace_17 rfl ?_
        refine g_ild C dX4_replace_18 rfl ?_
        refine g_ildn C dX4_replace_20 rfl ?_
        refine g_iast C 8 g (by decide) (show g < 2 by omega) (fun _ _ => rfl) j (show j < 9 by omega) rfl dX4_replace_21 ?_
        refine g_I (I1 := sK I 8 (up2 B g j (nI m))) (by rw [sK_self, sK_sK]) ?_
        refine g_iinc (lv' := [(4, .int (nI (j + 1))), (0, .ref (Z.2.2.1 8 g)), (1, .int (nI n)), (2, .int (nI M)), (3, .int (nI m))]) C ((nI (j + 1))) dX4_replace_22 rfl (inc1 _) rfl rfl ?_
        refine g_goto (tgt := 3) C dX4_replace_25 rfl ?_
        refine g_lv [1, 2, 3, 4, 0] rfl ?_
        refine ih (j + 1) _ (by omega) (by omega) (fun r hr => by rw [up2_row hr]; exact hB1 r hr) (fun i hi => ?_) (fun i hi hj => by rw [up2_ne (by omega)]; exact hB2 i hi (by omega))
        rw [up2_at]
        by_cases e : i = j
        · rw [if_pos ⟨rfl, e⟩, e]; unfold rpl; rw [if_pos c14]
        · rw [if_neg (fun q => e q.2)]; exact hB3 i (by omega)

set_option maxRecDepth 100000 in
set_option maxHeartbeats 4000000 in
/-- replace -/
theorem c_X4_replace {l : Launch} {Y : Yk} (hA : AJ Y.2.2) {I : SI} {J : SJ} {n : Nat} (hn9 : n ≤ 9) {g : Nat} (hg : g < 2) {o : Nat → Nat} (ho : ∀ i, i < n → I 8 g i = nI (o i) ∧ o i < 9) {M m : Nat} (hM : M < 9) (hm : m < 9)  : MX l Y yX4_replace cX4_replace 5 (none) 0 0 [.ref (Y.2.2 8 g), .int (nI n), .int (nI M), .int (nI m)] I J (fun v' I' J' => ∃ B : Nat → Nat → Int32, v' = none ∧ I' = sK I 8 B ∧ J' = J ∧ (∀ r, r ≠ g → B r = I 8 r) ∧ ∀ i, i < n → B g i = nI (rpl o M m i)) := by
  refine MX.of hA (by decide) (own := RX4) rfl rfl rfl ?_
  intro X Z hl hY1 hY2 hY3 C hr
  obtain ⟨D0, ca0, ad0⟩ := Y
  dsimp only at hA hY1 hY2 hY3
  subst hY1; subst hY2; subst hY3; subst hl
  show G X 5 Z (QG X Z _) I J 0 [(0, .ref (Z.2.2.1 8 g)), (1, .int (nI n)), (2, .int (nI M)), (3, .int (nI m))] []
  refine g_iconst C ((nI 0)) dX4_replace_0 (by decide) ?_
  refine g_ist (lv' := [(4, .int (nI 0)), (0, .ref (Z.2.2.1 8 g)), (1, .int (nI n)), (2, .int (nI M)), (3, .int (nI m))]) C dX4_replace_1 rfl rfl ?_
  refine g_lv [1, 2, 3, 4, 0] rfl ?_
  refine g_I (I1 := sK I 8 (I 8)) (sK_id _ _).symm ?_
  exact l_X4_replace_3 C hr hn9 hg ho hM hm (n + 1) 0 (I 8) (by omega) (by omega) (fun _ _ => rfl) (fun i hi => absurd hi (by omega)) (fun _ _ _ => rfl)

set_option maxRecDepth 100000 in
set_option maxHeartbeats 4000000 in
theorem l_X4_joinOrbits_7 {X : Pk} {Z : Zk} {I : SI} {J : SJ} (hA : AJ Z.2.2.1) (C : Cx X cX4_joinOrbits 6 RX4 Z 1 40) (hr : (xE X).sig.returnType = none) {n : Nat} {T : Nat → Nat → Nat} {L : Nat → Nat → Nat → Nat} (hv : CV I n T L) {g : Nat} (hg : g < 2) {o f : Nat → Nat} (ho : ∀ i, i < n → I 8 g i = nI (o i)) (hlo : LO n o) (hf : ∀ i, i < n → I 18 1 i = nI (f i) ∧ f i < n)  : ∀ k x B o2, n - x < k → x ≤ n → (∀ r, r ≠ g → B r = I 8 r) → (∀ i, i < n → B g i = nI (o2 i)) → JO n f o o2 x → G X 6 Z (QG X Z (fun v' I' J' => ∃ (B : Nat → Nat → Int32) (o' : Nat → Nat), v' = none ∧ I' = sK I 8 B ∧ J' = J ∧ (∀ r, r ≠ g → B r = I 8 r) ∧ (∀ i, i < n → B g i = nI (o' i)) ∧ JO n f o o' n)) (sK I 8 B) J 7 [(0, .ref (Z.2.2.1 19 0)), (1, .ref (Z.2.2.1 2 g)), (2, .ref (Z.2.2.1 8 g)), (3, .int (nI x))] [] := by
  obtain ⟨⟨hn1, hn9⟩, -⟩ := id hv
  intro k
  induction k with
  | zero => intro x B o2 h; exact absurd h (by omega)
  | succ k ih =>
    intro x B o2 hk hxn hB1 hB2 hj
    have h9 : ∀ i, i < n → o2 i < 9 := fun i hi => by have := (hj.1 i hi).1; omega
    have h9x : x < n → o2 x < 9 := fun h => h9 x h
    have hfx : x < n → f x < n := fun h => (hf x h).2
    have h9f : x < n → o2 (f x) < 9 := fun h => h9 _ (hfx h)
    refine g_ildn C dX4_joinOrbits_7 rfl ?_
    refine g_aldn C dX4_joinOrbits_8 rfl ?_
    refine g_get C 2 g (by decide) (show g < 2 by omega) u1 rfl 0 rfl fX4_16 rfl rfl dX4_joinOrbits_9 ?_
    refine g_top (y := (nI n)) ((hv.of (sK_ne (by decide)) (sK_ne (by decide)) (sK_ne (by decide)) : CV (sK I 8 B) n T L).sz hg) ?_
    refine n_icmp_ge (tgt := 68) C dX4_joinOrbits_12 rfl (by omega) (by omega) (fun c12 => ?_) (fun c12 => ?_)
    · exact g_return C hr dX4_joinOrbits_68 ⟨B, o2, rfl, rfl, rfl, hB1, hB2, by rw [show n = x by omega]; exact (show x = n by omega) ▸ hj⟩
    · refine g_aldn C dX4_joinOrbits_15 rfl ?_
      refine g_ildn C dX4_joinOrbits_16 rfl ?_
      refine g_iald C 8 g (by decide) (show g < 2 by omega) (fun _ _ => rfl) x (show x < 9 by omega) rfl dX4_joinOrbits_17 (v := (nI (o2 x))) (hB2 x (by omega)) ?_
      refine g_ist (lv' := [(4, .int (nI (o2 x))), (0, .ref (Z.2.2.1 19 0)), (1, .ref (Z.2.2.1 2 g)), (2, .ref (Z.2.2.1 8 g)), (3, .int (nI x))]) C dX4_joinOrbits_18 rfl rfl ?_
      refine g_aldn C dX4_joinOrbits_20 rfl ?_
      refine g_aldn C dX4_joinOrbits_21 rfl ?_
      refine g_get C 19 0 (by decide) (by decide) u4 rfl 0 rfl fX4_10 rfl rfl dX4_joinOrbits_22 ?_
      refine g_get C 17 1 (by decide) (by decide) u2 rfl 0 rfl fX4_37 rfl rfl dX4_joinOrbits_25 ?_
      refine g_ildn C dX4_joinOrbits_28 rfl ?_
      refine g_iald C 18 1 (by decide) (by decide) (fun _ _ => rfl) x (show x < 9 by omega) rfl dX4_joinOrbits_29 (v := (nI (f x))) ((congrFun (congrFun (sK_ne (by decide)) 1) x).trans (hf x (by omega)).1) ?_
      refine g_iald C 8 g (by decide) (show g < 2 by omega) (fun _ _ => rfl) (f x) (show f x < 9 by omega) rfl dX4_joinOrbits_30 (v := (nI (o2 (f x)))) (hB2 (f x) (by omega)) ?_
      refine g_ist (lv' := [(5, .int (nI (o2 (f x)))), (4, .int (nI (o2 x))), (0, .ref (Z.2.2.1 19 0)), (1, .ref (Z.2.2.1 2 g)), (2, .ref (Z.2.2.1 8 g)), (3, .int (nI x))]) C dX4_joinOrbits_31 rfl rfl ?_
      refine g_ild C dX4_joinOrbits_33 rfl ?_
      refine g_ild C dX4_joinOrbits_35 rfl ?_
      refine n_icmp_eq (tgt := 62) C dX4_joinOrbits_37 rfl (by omega) (by omega) (fun c37 => ?_) (fun c37 => ?_)
      · refine g_iinc (lv' := [(3, .int (nI (x + 1))), (5, .int (nI (o2 (f x)))), (4, .int (nI (o2 x))), (0, .ref (Z.2.2.1 19 0)), (1, .ref (Z.2.2.1 2 g)), (2, .ref (Z.2.2.1 8 g))]) C ((nI (x + 1))) dX4_joinOrbits_62 rfl (inc1 _) rfl rfl ?_
        refine g_goto (tgt := 7) C dX4_joinOrbits_65 rfl ?_
        refine g_lv [3, 4, 5, 0] rfl ?_
        exact ih (x + 1) _ o2 (by omega) (by omega) hB1 hB2 (hj.same c37)
      · refine g_aldn C dX4_joinOrbits_40 rfl ?_
        refine g_aldn C dX4_joinOrbits_41 rfl ?_
        refine g_get C 2 g (by decide) (show g < 2 by omega) u1 rfl 0 rfl fX4_16 rfl rfl dX4_joinOrbits_42 ?_
        refine g_top (y := (nI n)) ((hv.of (sK_ne (by decide)) (sK_ne (by decide)) (sK_ne (by decide)) : CV (sK I 8 B) n T L).sz hg) ?_
        refine g_ild C dX4_joinOrbits_45 rfl ?_
        refine g_ild C dX4_joinOrbits_47 rfl ?_
        refine n_max C mX4_40 (by omega) (by omega) rfl rfl dX4_joinOrbits_49 ?_
        refine g_ild C dX4_joinOrbits_52 rfl ?_
        refine g_ild C dX4_joinOrbits_54 rfl ?_
        refine n_min C mX4_46 (by omega) (by omega) rfl rfl dX4_joinOrbits_56 ?_
        refine g_callS (As := [.ref (Z.2.2.1 8 g), .int (nI n), .int (nI (max (o2 x) (o2 (f x)))), .int (nI (min (o2 x) (o2 (f x))))]) (st := []) C (c_X4_replace hA hn9 hg (o := o2) (fun i hi => ⟨by rw [sK_self]; exact hB2 i hi, h9 i hi⟩) (M := max (o2 x) (o2 (f x))) (m := min (o2 x) (o2 (f x))) (by omega) (by omega)) wX4_replace tX4_replace mX4_49 rfl rfl rfl rfl dX4_joinOrbits_59 ?_
        rintro v9 I9 J9 ⟨B3, h91, h92, h93, k1, k2⟩
        rw [h91, h92, h93, sK_sK]
        rw [sK_self] at k1
        clear h91 h92 h93 v9 I9 J9
        show G X _ Z _ (sK I 8 B3) J 62 [(5, .int (nI (o2 (f x)))), (4, .int (nI (o2 x))), (0, .ref (Z.2.2.1 19 0)), (1, .ref (Z.2.2.1 2 g)), (2, .ref (Z.2.2.1 8 g)), (3, .int (nI x))] []
        refine g_iinc (lv' := [(3, .int (nI (x + 1))), (5, .int (nI (o2 (f x)))), (4, .int (nI (o2 x))), (0, .ref (Z.2.2.1 19 0)), (1, .ref (Z.2.2.1 2 g)), (2, .ref (Z.2.2.1 8 g))]) C ((nI (x + 1))) dX4_joinOrbits_62 rfl (inc1 _) rfl rfl ?_
        refine g_goto (tgt := 7) C dX4_joinOrbits_65 rfl ?_
        refine g_lv [3, 4, 5, 0] rfl ?_
        exact ih (x + 1) _ (rpl o2 (max (o2 x) (o2 (f x))) (min (o2 x) (o2 (f x)))) (by omega) (by omega) (fun r hr => (k1 r hr).trans (hB1 r hr)) k2 (hj.join (by omega) (fun i hi => (hf i hi).2) c37)

set_option maxRecDepth 100000 in
set_option maxHeartbeats 4000000 in
/-- joinOrbits -/
theorem c_X4_joinOrbits {l : Launch} {Y : Yk} (hA : AJ Y.2.2) {I : SI} {J : SJ} {n : Nat} {T : Nat → Nat → Nat} {L : Nat → Nat → Nat → Nat} (hv : CV I n T L) {g : Nat} (hg : g < 2) {o f : Nat → Nat} (ho : ∀ i, i < n → I 8 g i = nI (o i)) (hlo : LO n o) (hf : ∀ i, i < n → I 18 1 i = nI (f i) ∧ f i < n)  : MX l Y yX4_joinOrbits cX4_joinOrbits 6 (none) 1 40 [.ref (Y.2.2 19 0), .ref (Y.2.2 2 g)] I J (fun v' I' J' => ∃ (B : Nat → Nat → Int32) (o' : Nat → Nat), v' = none ∧ I' = sK I 8 B ∧ J' = J ∧ (∀ r, r ≠ g → B r = I 8 r) ∧ (∀ i, i < n → B g i = nI (o' i)) ∧ JO n f o o' n) := by
  refine MX.of hA (by decide) (own := RX4) rfl rfl rfl ?_
  intro X Z hl hY1 hY2 hY3 C hr
  obtain ⟨D0, ca0, ad0⟩ := Y
  dsimp only at hA hY1 hY2 hY3
  subst hY1; subst hY2; subst hY3; subst hl
  show G X 6 Z (QG X Z _) I J 0 [(0, .ref (Z.2.2.1 19 0)), (1, .ref (Z.2.2.1 2 g))] []
  refine g_aldn C dX4_joinOrbits_0 rfl ?_
  refine g_get C 2 g (by decide) (show g < 2 by omega) u1 rfl 4 rfl fX4_22 rfl rfl dX4_joinOrbits_1 ?_
  refine g_astn (lv' := [(2, .ref (Z.2.2.1 8 g)), (0, .ref (Z.2.2.1 19 0)), (1, .ref (Z.2.2.1 2 g))]) C dX4_joinOrbits_4 rfl rfl ?_
  refine g_iconst C ((nI 0)) dX4_joinOrbits_5 (by decide) ?_
  refine g_istn (lv' := [(3, .int (nI 0)), (2, .ref (Z.2.2.1 8 g)), (0, .ref (Z.2.2.1 19 0)), (1, .ref (Z.2.2.1 2 g))]) C dX4_joinOrbits_6 rfl rfl ?_
  refine g_lv [2, 3, 1, 0] rfl ?_
  refine g_I (I1 := sK I 8 (I 8)) (sK_id _ _).symm ?_
  exact l_X4_joinOrbits_7 hA C hr hv hg ho hlo hf (n + 1) 0 (I 8) o (by omega) (by omega) (fun _ _ => rfl) ho (JO.z hlo)

/-- what find leaves: the number, the least vertices, the scratch naming -/
def syPost (n : Nat) (K : Nat → Nat → Nat) (L : Nat → Nat → Nat → Nat) (g : Nat) (I : SI) (J : SJ) : Option Value → SI → SJ → Prop := fun v' I' J' =>
  ∃ (B F : Nat → Nat → Int32) (o : Nat → Nat), v' = none ∧ I' = sK (sK (sK I 2 (up2 (I 2) g 5 (nI (sn n K L g n)))) 8 B) 18 F ∧ J' = J ∧ (∀ r, r ≠ g → B r = I 8 r) ∧ (∀ i, i < n → B g i = nI (o i)) ∧ (∀ r, r ≠ 1 → F r = I 18 r) ∧ OR n K L g o (fun _ _ => True)
set_option maxRecDepth 100000 in
set_option maxHeartbeats 4000000 in
theorem l_X4_find_45 {X : Pk} {Z : Zk} {I : SI} {J : SJ} (hA : AJ Z.2.2.1) (C : Cx X cX4_find 5 RX4 Z 13 600) {n : Nat} {T : Nat → Nat → Nat} {K : Nat → Nat → Nat} {L : Nat → Nat → Nat → Nat} (hv : CV I n T L) (hc : CC I n K) {g : Nat} (hg : g < 2) {Q : State → Prop} {v : Nat} (hvn : v < n) (hex : ∀ B F o, (∀ r, r ≠ g → B r = I 8 r) → (∀ i, i < n → B g i = nI (o i)) → (∀ r, r ≠ 1 → F r = I 18 r) → OR n K L g o (fun a _ => a < v ∨ a = v) → G X 5 Z Q (sK (sK (sK I 2 (up2 (I 2) g 5 (nI (sn n K L g v)))) 8 B) 18 F) J 82 [(0, .ref (Z.2.2.1 19 0)), (1, .ref (Z.2.2.1 2 g)), (2, .int (nI v)), (3, .int (nI (1 + ct (fun a => dc (v < a ∧ ∃ f, syn n K L g v a f)) n))), (4, .int (nI n))] []) : ∀ k w B F o, n - w < k → v < w → w ≤ n → (∀ r, r ≠ g → B r = I 8 r) → (∀ i, i < n → B g i = nI (o i)) → (∀ r, r ≠ 1 → F r = I 18 r) → OR n K L g o (fun a b => a < v ∨ (a = v ∧ b < w)) → G X 5 Z Q (sK (sK (sK I 2 (up2 (I 2) g 5 (nI (sn n K L g v)))) 8 B) 18 F) J 45 [(0, .ref (Z.2.2.1 19 0)), (1, .ref (Z.2.2.1 2 g)), (2, .int (nI v)), (3, .int (nI (1 + ct (fun a => dc (v < a ∧ ∃ f, syn n K L g v a f)) w))), (4, .int (nI w))] [] := by
  obtain ⟨⟨hn1, hn9⟩, -⟩ := id hv
  intro k
  induction k with
  | zero => intro w B F o h; exact absurd h (by omega)
  | succ k ih =>
    intro w B F o hk hvw hwn hB1 hB2 hF hor
    have hct := ct_le (fun a => dc (v < a ∧ ∃ f, syn n K L g v a f)) w
    have hv2 := (hv.of2 (I' := sK (sK (sK I 2 (up2 (I 2) g 5 (nI (sn n K L g v)))) 8 B) 18 F) (fun a => (congrFun (congrFun ((sK_ne (by decide)).trans ((sK_ne (by decide)).trans (sK_self _ _ _))) a) 0).trans (by rw [up2_at, if_neg (by omega)])) ((sK_ne (by decide)).trans ((sK_ne (by decide)).trans (sK_ne (by decide)))) ((sK_ne (by decide)).trans ((sK_ne (by decide)).trans (sK_ne (by decide)))))
    have hc2 := (hc.of (I' := sK (sK (sK I 2 (up2 (I 2) g 5 (nI (sn n K L g v)))) 8 B) 18 F) ((sK_ne (by decide)).trans ((sK_ne (by decide)).trans (sK_ne (by decide)))))
    refine g_ild C dX4_find_45 rfl ?_
    refine g_aldn C dX4_find_47 rfl ?_
    refine g_get C 2 g (by decide) (show g < 2 by omega) u1 rfl 0 rfl fX4_16 rfl rfl dX4_find_48 ?_
    refine g_top (y := (nI n)) (hv2.sz hg) ?_
    refine n_icmp_ge (tgt := 82) C dX4_find_51 rfl (by omega) (by omega) (fun c51 => ?_) (fun c51 => ?_)
    · have e : w = n := by omega
      subst e
      refine g_lv [0, 1, 2, 3, 4] rfl ?_
      exact hex B F o hB1 hB2 hF (hor.mono (fun a b h1 h2 h3 _ => h3.elim Or.inl (fun q => Or.inr ⟨q, h2⟩)))
    · refine g_aldn C dX4_find_54 rfl ?_
      refine g_get C 19 0 (by decide) (by decide) u4 rfl 0 rfl fX4_10 rfl rfl dX4_find_55 ?_
      refine g_aldn C dX4_find_58 rfl ?_
      refine g_ildn C dX4_find_59 rfl ?_
      refine g_ild C dX4_find_60 rfl ?_
      refine g_callV (As := [.ref (Z.2.2.1 2 g), .int (nI v), .int (nI w)]) (st := []) C (c_X2_findSymmetry hA hv2 hc2 hg (q := 1) (by decide) (show v < w by omega) (show w < n by omega)) wX2_findSymmetry iX2_findSymmetry sX2_findSymmetry mX4_29 17 1 (by decide) (by decide) rfl rfl rfl rfl rfl rfl rfl rfl dX4_find_62 ?_
      rintro v9 I9 J9 ⟨b, F2, h91, h92, h93, k1, k2, k3⟩
      rw [h91, h92, h93, sK_sK]
      rw [sK_self] at k1
      clear h91 h92 h93 v9 I9 J9
      show G X _ Z _ (sK (sK (sK I 2 (up2 (I 2) g 5 (nI (sn n K L g v)))) 8 B) 18 F2) J 65 [(0, .ref (Z.2.2.1 19 0)), (1, .ref (Z.2.2.1 2 g)), (2, .int (nI v)), (3, .int (nI (1 + ct (fun a => dc (v < a ∧ ∃ f, syn n K L g v a f)) w))), (4, .int (nI w))] [.int (bI b)]
      refine b_if_eq (tgt := 76) C dX4_find_65 rfl (fun c65 => ?_) (fun c65 => ?_)
      · refine g_iinc (lv' := [(4, .int (nI (w + 1))), (0, .ref (Z.2.2.1 19 0)), (1, .ref (Z.2.2.1 2 g)), (2, .int (nI v)), (3, .int (nI (1 + ct (fun a => dc (v < a ∧ ∃ f, syn n K L g v a f)) w)))]) C ((nI (w + 1))) dX4_find_76 rfl (inc1 _) rfl rfl ?_
        refine g_goto (tgt := 45) C dX4_find_79 rfl ?_
        refine g_lv (lv1 := [(0, .ref (Z.2.2.1 19 0)), (1, .ref (Z.2.2.1 2 g)), (2, .int (nI v)), (3, .int (nI (1 + ct (fun a => dc (v < a ∧ ∃ f, syn n K L g v a f)) (w + 1)))), (4, .int (nI (w + 1)))]) [1, 2, 3, 4, 0] (by rw [show 1 + ct (fun a => dc (v < a ∧ ∃ f, syn n K L g v a f)) (w + 1) = 1 + ct (fun a => dc (v < a ∧ ∃ f, syn n K L g v a f)) w by simp only [ct]; rw [if_neg (fun q => (dc_t.mp q).2.elim (fun f2 h2 => k3 c65 f2 h2))]; rfl]; rfl) ?_
        exact ih (w + 1) B F2 o (by omega) (by omega) (by omega) hB1 hB2 (fun r hr => (k1 r hr).trans (hF r hr)) (hor.mono (fun a b h1 h2 h3 h4 => by rcases h3 with h3 | ⟨h3, h5⟩; exact Or.inl h3; rcases Nat.lt_or_eq_of_le (Nat.le_of_lt_succ h5) with h6 | h6; exact Or.inr ⟨h3, h6⟩; subst h3; subst h6; exact h4.elim (fun f2 h7 => absurd h7 (k3 c65 f2))))
      · refine g_iinc (lv' := [(3, .int (nI (1 + ct (fun a => dc (v < a ∧ ∃ f, syn n K L g v a f)) w + 1))), (0, .ref (Z.2.2.1 19 0)), (1, .ref (Z.2.2.1 2 g)), (2, .int (nI v)), (4, .int (nI w))]) C ((nI (1 + ct (fun a => dc (v < a ∧ ∃ f, syn n K L g v a f)) w + 1))) dX4_find_68 rfl (inc1 _) rfl rfl ?_
        obtain ⟨f1, m1, m2⟩ := k2 c65
        refine g_aldn C dX4_find_71 rfl ?_
        refine g_aldn C dX4_find_72 rfl ?_
        refine g_callV (As := [.ref (Z.2.2.1 2 g)]) (st := []) C (c_X4_joinOrbits hA (hv.of2 (I' := sK (sK (sK I 2 (up2 (I 2) g 5 (nI (sn n K L g v)))) 8 B) 18 F2) (fun a => (congrFun (congrFun ((sK_ne (by decide)).trans ((sK_ne (by decide)).trans (sK_self _ _ _))) a) 0).trans (by rw [up2_at, if_neg (by omega)])) ((sK_ne (by decide)).trans ((sK_ne (by decide)).trans (sK_ne (by decide)))) ((sK_ne (by decide)).trans ((sK_ne (by decide)).trans (sK_ne (by decide))))) hg (o := o) (f := f1) (fun i hi => (congrFun (congrFun ((sK_ne (by decide)).trans (sK_self _ _ _)) g) i).trans (hB2 i hi)) hor.1 (fun i hi => ⟨(congrFun (congrFun (sK_self _ _ _) 1) i).trans (m1 i hi), (m2.1 i hi).1⟩)) wX4_joinOrbits iX4_joinOrbits sX4_joinOrbits mX4_33 19 0 (by decide) (by decide) rfl rfl rfl rfl rfl rfl rfl rfl dX4_find_73 ?_
        rintro v9 I9 J9 ⟨B3, o3, h91, h92, h93, j1, j2, j3⟩
        rw [h91, h92, h93, sk3b _ (by decide)]
        rw [show (sK (sK (sK I 2 (up2 (I 2) g 5 (nI (sn n K L g v)))) 8 B) 18 F2) 8 = B from (sK_ne (by decide)).trans (sK_self _ _ _)] at j1
        clear h91 h92 h93 v9 I9 J9
        show G X _ Z _ (sK (sK (sK I 2 (up2 (I 2) g 5 (nI (sn n K L g v)))) 8 B3) 18 F2) J 76 [(3, .int (nI (1 + ct (fun a => dc (v < a ∧ ∃ f, syn n K L g v a f)) w + 1))), (0, .ref (Z.2.2.1 19 0)), (1, .ref (Z.2.2.1 2 g)), (2, .int (nI v)), (4, .int (nI w))] []
        refine g_iinc (lv' := [(4, .int (nI (w + 1))), (3, .int (nI (1 + ct (fun a => dc (v < a ∧ ∃ f, syn n K L g v a f)) w + 1))), (0, .ref (Z.2.2.1 19 0)), (1, .ref (Z.2.2.1 2 g)), (2, .int (nI v))]) C ((nI (w + 1))) dX4_find_76 rfl (inc1 _) rfl rfl ?_
        refine g_goto (tgt := 45) C dX4_find_79 rfl ?_
        refine g_lv (lv1 := [(0, .ref (Z.2.2.1 19 0)), (1, .ref (Z.2.2.1 2 g)), (2, .int (nI v)), (3, .int (nI (1 + ct (fun a => dc (v < a ∧ ∃ f, syn n K L g v a f)) (w + 1)))), (4, .int (nI (w + 1)))]) [2, 3, 4, 1, 0] (by rw [show 1 + ct (fun a => dc (v < a ∧ ∃ f, syn n K L g v a f)) (w + 1) = 1 + ct (fun a => dc (v < a ∧ ∃ f, syn n K L g v a f)) w + 1 by simp only [ct]; rw [if_pos (dc_t.mpr ⟨by omega, f1, m2⟩)]; omega]; rfl) ?_
        exact ih (w + 1) B3 F2 o3 (by omega) (by omega) (by omega) (fun r hr => (j1 r hr).trans (hB1 r hr)) j2 (fun r hr => (k1 r hr).trans (hF r hr)) (hor.join m2 j3 (fun a b h1 h2 h3 h4 => by rcases h3 with h3 | ⟨h3, h5⟩; exact Or.inl (Or.inl h3); rcases Nat.lt_or_eq_of_le (Nat.le_of_lt_succ h5) with h6 | h6; exact Or.inl (Or.inr ⟨h3, h6⟩); exact Or.inr ⟨h3, h6⟩))

set_option maxRecDepth 100000 in
set_option maxHeartbeats 4000000 in
theorem l_X4_find_30 {X : Pk} {Z : Zk} {I : SI} {J : SJ} (hA : AJ Z.2.2.1) (hr : (xE X).sig.returnType = none) (C : Cx X cX4_find 5 RX4 Z 13 600) {n : Nat} {T : Nat → Nat → Nat} {K : Nat → Nat → Nat} {L : Nat → Nat → Nat → Nat} (hv : CV I n T L) (hc : CC I n K) {g : Nat} (hg : g < 2) : ∀ k v B F o, n - v < k → v ≤ n → (∀ r, r ≠ g → B r = I 8 r) → (∀ i, i < n → B g i = nI (o i)) → (∀ r, r ≠ 1 → F r = I 18 r) → OR n K L g o (fun a _ => a < v) → G X 5 Z (QG X Z (syPost n K L g I J)) (sK (sK (sK I 2 (up2 (I 2) g 5 (nI (sn n K L g v)))) 8 B) 18 F) J 30 [(0, .ref (Z.2.2.1 19 0)), (1, .ref (Z.2.2.1 2 g)), (2, .int (nI v))] [] := by
  obtain ⟨⟨hn1, hn9⟩, -⟩ := id hv
  intro k
  induction k with
  | zero => intro v B F o h; exact absurd h (by omega)
  | succ k ih =>
    intro v B F o hk hvn hB1 hB2 hF hor
    have hv2 := (hv.of2 (I' := sK (sK (sK I 2 (up2 (I 2) g 5 (nI (sn n K L g v)))) 8 B) 18 F) (fun a => (congrFun (congrFun ((sK_ne (by decide)).trans ((sK_ne (by decide)).trans (sK_self _ _ _))) a) 0).trans (by rw [up2_at, if_neg (by omega)])) ((sK_ne (by decide)).trans ((sK_ne (by decide)).trans (sK_ne (by decide)))) ((sK_ne (by decide)).trans ((sK_ne (by decide)).trans (sK_ne (by decide)))))
    refine g_ildn C dX4_find_30 rfl ?_
    refine g_aldn C dX4_find_31 rfl ?_
    refine g_get C 2 g (by decide) (show g < 2 by omega) u1 rfl 0 rfl fX4_16 rfl rfl dX4_find_32 ?_
    refine g_top (y := (nI n)) (hv2.sz hg) ?_
    refine n_icmp_ge (tgt := 98) C dX4_find_35 rfl (by omega) (by omega) (fun c35 => ?_) (fun c35 => ?_)
    · exact g_return C hr dX4_find_98 ⟨B, F, o, rfl, by rw [show v = n by omega], rfl, hB1, hB2, hF, hor.mono (fun a b h1 h2 _ _ => by omega)⟩
    · refine g_iconst C ((nI 1)) dX4_find_38 (by decide) ?_
      refine g_istn (lv' := [(3, .int (nI 1)), (0, .ref (Z.2.2.1 19 0)), (1, .ref (Z.2.2.1 2 g)), (2, .int (nI v))]) C dX4_find_39 rfl rfl ?_
      refine g_ildn C dX4_find_40 rfl ?_
      refine g_iconst C ((nI 1)) dX4_find_41 (by decide) ?_
      refine g_iadd (v := (nI (v + 1))) C dX4_find_42 (nI_add _ _) ?_
      refine g_ist (lv' := [(4, .int (nI (v + 1))), (3, .int (nI 1)), (0, .ref (Z.2.2.1 19 0)), (1, .ref (Z.2.2.1 2 g)), (2, .int (nI v))]) C dX4_find_43 rfl rfl ?_
      refine g_lv (lv1 := [(0, .ref (Z.2.2.1 19 0)), (1, .ref (Z.2.2.1 2 g)), (2, .int (nI v)), (3, .int (nI (1 + ct (fun a => dc (v < a ∧ ∃ f, syn n K L g v a f)) (v + 1)))), (4, .int (nI (v + 1)))]) [2, 3, 4, 1, 0] (by rw [show ct (fun a => dc (v < a ∧ ∃ f, syn n K L g v a f)) (v + 1) = 0 from ct_none _ (fun i hi => dc_f (fun q => by omega))]; rfl) ?_
      refine l_X4_find_45 hA C hv hc hg (show v < n by omega) ?_ (n + 1) (v + 1) B F o (by omega) (by omega) (by omega) hB1 hB2 hF (hor.mono (fun a b h1 h2 h3 _ => h3.elim id (fun q => by omega)))
      clear hB1 hB2 hF hor hv2 B F o
      intro B F o hB1 hB2 hF hor
      have hsn := sn_le (K := K) (L := L) (g := g) hn9 (v + 1) (by omega)
      refine g_aldn C dX4_find_82 rfl ?_
      refine g_dup C dX4_find_83 rfl ?_
      refine g_get C 2 g (by decide) (show g < 2 by omega) u1 rfl 5 rfl fX4_26 rfl rfl dX4_find_84 ?_
      refine g_top (y := (nI (sn n K L g v))) ((congrFun (congrFun ((sK_ne (by decide)).trans ((sK_ne (by decide)).trans (sK_self _ _ _))) g) 5).trans up2_self) ?_
      refine g_ildn C dX4_find_87 rfl ?_
      refine g_imul (v := (nI ((sn n K L g v) * (1 + ct (fun a => dc (v < a ∧ ∃ f, syn n K L g v a f)) n)))) C dX4_find_88 (pk_mul _ _) ?_
      refine g_put C 2 g (by decide) (show g < 2 by omega) tyX1 tyX1_ok nmX1 u1 rfl 5 rfl fX4_26 rfl (fun _ _ => rfl) (by simp [va_up]) rfl rfl rfl dX4_find_89 ?_
      refine g_I (I1 := sK (sK (sK I 2 (up2 (I 2) g 5 (nI (sn n K L g (v + 1))))) 8 B) 18 F) (by rw [sk3a _ (by decide) (by decide), show (sK (sK (sK I 2 (up2 (I 2) g 5 (nI (sn n K L g v)))) 8 B) 18 F) 2 = up2 (I 2) g 5 (nI (sn n K L g v)) from (sK_ne (by decide)).trans ((sK_ne (by decide)).trans (sK_self _ _ _)), up2_up2]; rfl) ?_
      refine g_iinc (lv' := [(2, .int (nI (v + 1))), (0, .ref (Z.2.2.1 19 0)), (1, .ref (Z.2.2.1 2 g)), (3, .int (nI (1 + ct (fun a => dc (v < a ∧ ∃ f, syn n K L g v a f)) n))), (4, .int (nI n))]) C ((nI (v + 1))) dX4_find_92 rfl (inc1 _) rfl rfl ?_
      refine g_goto (tgt := 30) C dX4_find_95 rfl ?_
      refine g_lv [1, 2, 0] rfl ?_
      exact ih (v + 1) B F o (by omega) (by omega) hB1 hB2 hF (hor.mono (fun a b h1 h2 h3 _ => by omega))

set_option maxRecDepth 100000 in
set_option maxHeartbeats 4000000 in
theorem l_X4_find_2 {X : Pk} {Z : Zk} {I : SI} {J : SJ} (hA : AJ Z.2.2.1) (hr : (xE X).sig.returnType = none) (C : Cx X cX4_find 5 RX4 Z 13 600) {n : Nat} {T : Nat → Nat → Nat} {K : Nat → Nat → Nat} {L : Nat → Nat → Nat → Nat} (hv : CV I n T L) (hc : CC I n K) {g : Nat} (hg : g < 2) : ∀ k v B, n - v < k → v ≤ n → (∀ r, r ≠ g → B r = I 8 r) → (∀ i, i < v → B g i = nI i) → G X 5 Z (QG X Z (syPost n K L g I J)) (sK I 8 B) J 2 [(0, .ref (Z.2.2.1 19 0)), (1, .ref (Z.2.2.1 2 g)), (2, .int (nI v))] [] := by
  obtain ⟨⟨hn1, hn9⟩, -⟩ := id hv
  intro k
  induction k with
  | zero => intro v B h; exact absurd h (by omega)
  | succ k ih =>
    intro v B hk hvn hB1 hB2
    refine g_ildn C dX4_find_2 rfl ?_
    refine g_aldn C dX4_find_3 rfl ?_
    refine g_get C 2 g (by decide) (show g < 2 by omega) u1 rfl 0 rfl fX4_16 rfl rfl dX4_find_4 ?_
    refine g_top (y := (nI n)) ((hv.of (sK_ne (by decide)) (sK_ne (by decide)) (sK_ne (by decide)) : CV (sK I 8 B) n T L).sz hg) ?_
    refine n_icmp_ge (tgt := 23) C dX4_find_7 rfl (by omega) (by omega) (fun c7 => ?_) (fun c7 => ?_)
    · refine g_aldn C dX4_find_23 rfl ?_
      refine g_iconst C ((nI 1)) dX4_find_24 (by decide) ?_
      refine g_put C 2 g (by decide) (show g < 2 by omega) tyX1 tyX1_ok nmX1 u1 rfl 5 rfl fX4_26 rfl (fun _ _ => rfl) (by simp [va_up]) rfl rfl rfl dX4_find_25 ?_
      refine g_I (I1 := sK (sK I 8 B) 2 (up2 (I 2) g 5 (nI 1))) (by rw [sK_ne (by decide : (2 : Nat) ≠ 8)]) ?_
      refine g_iconst C ((nI 0)) dX4_find_28 (by decide) ?_
      refine g_istn (lv' := [(2, .int (nI 0)), (0, .ref (Z.2.2.1 19 0)), (1, .ref (Z.2.2.1 2 g))]) C dX4_find_29 rfl rfl ?_
      refine g_lv [1, 2, 0] rfl ?_
      refine g_I (I1 := sK (sK (sK I 2 (up2 (I 2) g 5 (nI (sn n K L g 0)))) 8 B) 18 (I 18)) (by rw [sK_swap _ (by decide : (8 : Nat) ≠ 2)]; exact (sK_id _ 18).symm) ?_
      exact l_X4_find_30 hA hr C hv hc hg (n + 1) 0 B (I 18) (fun i => i) (by omega) (by omega) hB1 (fun i hi => hB2 i (by omega)) (fun _ _ => rfl) ((OR.z n K L g (fun _ _ => rfl)).mono (fun a b h1 h2 h3 _ => by omega))
    · refine g_aldn C dX4_find_10 rfl ?_
      refine g_get C 2 g (by decide) (show g < 2 by omega) u1 rfl 4 rfl fX4_22 rfl rfl dX4_find_11 ?_
      refine g_ildn C dX4_find_14 rfl ?_
      refine g_ildn C dX4_find_15 rfl ?_
      refine g_iast C 8 g (by decide) (show g < 2 by omega) (fun _ _ => rfl) v (show v < 9 by omega) rfl dX4_find_16 ?_
      refine g_I (I1 := sK I 8 (up2 B g v (nI v))) (by rw [sK_self, sK_sK]) ?_
      refine g_iinc (lv' := [(2, .int (nI (v + 1))), (0, .ref (Z.2.2.1 19 0)), (1, .ref (Z.2.2.1 2 g))]) C ((nI (v + 1))) dX4_find_17 rfl (inc1 _) rfl rfl ?_
      refine g_goto (tgt := 2) C dX4_find_20 rfl ?_
      refine g_lv [1, 2, 0] rfl ?_
      refine ih (v + 1) _ (by omega) (by omega) (fun r hr => by rw [up2_row hr]; exact hB1 r hr) (fun i hi => ?_)
      rw [up2_at]
      by_cases e : i = v
      · rw [if_pos ⟨rfl, e⟩, e]
      · rw [if_neg (fun q => e q.2)]; exact hB2 i (by omega)

set_option maxRecDepth 100000 in
set_option maxHeartbeats 4000000 in
/-- SymmetryFinder.find -/
theorem c_X4_find {l : Launch} {Y : Yk} (hA : AJ Y.2.2) {I : SI} {J : SJ} {n : Nat} {T : Nat → Nat → Nat} {K : Nat → Nat → Nat} {L : Nat → Nat → Nat → Nat} (hv : CV I n T L) (hc : CC I n K) {g : Nat} (hg : g < 2)  : MX l Y yX4_find cX4_find 5 (none) 13 600 [.ref (Y.2.2 19 0), .ref (Y.2.2 2 g)] I J (syPost n K L g I J) := by
  refine MX.of hA (by decide) (own := RX4) rfl rfl rfl ?_
  intro X Z hl hY1 hY2 hY3 C hr
  obtain ⟨D0, ca0, ad0⟩ := Y
  dsimp only at hA hY1 hY2 hY3
  subst hY1; subst hY2; subst hY3; subst hl
  show G X 5 Z (QG X Z _) I J 0 [(0, .ref (Z.2.2.1 19 0)), (1, .ref (Z.2.2.1 2 g))] []
  refine g_iconst C ((nI 0)) dX4_find_0 (by decide) ?_
  refine g_istn (lv' := [(2, .int (nI 0)), (0, .ref (Z.2.2.1 19 0)), (1, .ref (Z.2.2.1 2 g))]) C dX4_find_1 rfl rfl ?_
  refine g_lv [1, 2, 0] rfl ?_
  refine g_I (I1 := sK I 8 (I 8)) (sK_id _ _).symm ?_
  exact l_X4_find_2 hA hr C hv hc hg (n + 1) 0 (I 8) (by omega) (by omega) (fun _ _ => rfl) (fun i hi => absurd hi (by omega))
end
section
/-! ===== longs compared; compareRows, longerRow, lesserLikes ===== -/
def cmpN (a b : Nat) : Int32 := if b < a then 1 else if a = b then 0 else -1
theorem lcmpN {a b : Nat} (ha : a < 2 ^ 63) (hb : b < 2 ^ 63) : lg_cmp (lN a) (lN b) = cmpN a b := by
  unfold lg_cmp cmpN
  by_cases h1 : b < a
  · rw [if_pos h1, if_pos ((pk_lLT hb ha).mpr h1)]
  · rw [if_neg h1, if_neg (fun q => h1 ((pk_lLT hb ha).mp q))]
    by_cases h2 : a = b
    · rw [if_pos h2, if_pos ((pk_lEQ ha hb).mpr h2)]
    · rw [if_neg h2, if_neg (fun q => h2 ((pk_lEQ ha hb).mp q))]
theorem cmp_gt {a b : Nat} (h : b < a) : cmpN a b = 1 := if_pos h
theorem cmp_eq {a b : Nat} (h : a = b) : cmpN a b = 0 := by unfold cmpN; rw [if_neg (by omega), if_pos h]
theorem cmp_lt {a b : Nat} (h : a < b) : cmpN a b = -1 := by unfold cmpN; rw [if_neg (by omega), if_neg (by omega)]
section GCMP
variable {X : Pk} {cc : ByteArray} {nL : Nat} {own : String} {Z : Zk} {fr lo : Nat} {Q : State → Prop} {I : SI} {J : SJ} {pc : Nat} {lv lv' : List (Nat × Value)} {st : List Value}
theorem c_if_eq (C : Cx X cc nL own Z fr lo) {a b : Nat} {off : Int} {tgt : Nat} (d : decode cc pc = .ok (.ifCond .eq off, 3)) (ht : (pc : Int) + off = (tgt : Int)) (kt : a = b → G X nL Z Q I J tgt lv st) (kf : a ≠ b → G X nL Z Q I J (pc + 3) lv st) : G X nL Z Q I J pc lv (.int (cmpN a b) :: st) := by
  rcases Nat.lt_trichotomy a b with h | h | h
  · rw [cmp_lt h]; exact g_if_eq C d ht (fun q => by first | exact kt (by omega) | exact absurd q (by decide)) (fun q => by first | exact kf (by omega) | exact absurd q (by decide))
  · rw [cmp_eq h]; exact g_if_eq C d ht (fun q => by first | exact kt (by omega) | exact absurd q (by decide)) (fun q => by first | exact kf (by omega) | exact absurd q (by decide))
  · rw [cmp_gt h]; exact g_if_eq C d ht (fun q => by first | exact kt (by omega) | exact absurd q (by decide)) (fun q => by first | exact kf (by omega) | exact absurd q (by decide))
theorem c_if_ne (C : Cx X cc nL own Z fr lo) {a b : Nat} {off : Int} {tgt : Nat} (d : decode cc pc = .ok (.ifCond .ne off, 3)) (ht : (pc : Int) + off = (tgt : Int)) (kt : a ≠ b → G X nL Z Q I J tgt lv st) (kf : a = b → G X nL Z Q I J (pc + 3) lv st) : G X nL Z Q I J pc lv (.int (cmpN a b) :: st) := by
  rcases Nat.lt_trichotomy a b with h | h | h
  · rw [cmp_lt h]; exact g_if_ne C d ht (fun q => by first | exact kt (by omega) | exact absurd q (by decide)) (fun q => by first | exact kf (by omega) | exact absurd q (by decide))
  · rw [cmp_eq h]; exact g_if_ne C d ht (fun q => by first | exact kt (by omega) | exact absurd q (by decide)) (fun q => by first | exact kf (by omega) | exact absurd q (by decide))
  · rw [cmp_gt h]; exact g_if_ne C d ht (fun q => by first | exact kt (by omega) | exact absurd q (by decide)) (fun q => by first | exact kf (by omega) | exact absurd q (by decide))
theorem c_if_le (C : Cx X cc nL own Z fr lo) {a b : Nat} {off : Int} {tgt : Nat} (d : decode cc pc = .ok (.ifCond .le off, 3)) (ht : (pc : Int) + off = (tgt : Int)) (kt : a ≤ b → G X nL Z Q I J tgt lv st) (kf : b < a → G X nL Z Q I J (pc + 3) lv st) : G X nL Z Q I J pc lv (.int (cmpN a b) :: st) := by
  rcases Nat.lt_trichotomy a b with h | h | h
  · rw [cmp_lt h]; exact g_if_le C d ht (fun q => by first | exact kt (by omega) | exact absurd q (by decide)) (fun q => by first | exact kf (by omega) | exact absurd q (by decide))
  · rw [cmp_eq h]; exact g_if_le C d ht (fun q => by first | exact kt (by omega) | exact absurd q (by decide)) (fun q => by first | exact kf (by omega) | exact absurd q (by decide))
  · rw [cmp_gt h]; exact g_if_le C d ht (fun q => by first | exact kt (by omega) | exact absurd q (by decide)) (fun q => by first | exact kf (by omega) | exact absurd q (by decide))
theorem c_if_gt (C : Cx X cc nL own Z fr lo) {a b : Nat} {off : Int} {tgt : Nat} (d : decode cc pc = .ok (.ifCond .gt off, 3)) (ht : (pc : Int) + off = (tgt : Int)) (kt : b < a → G X nL Z Q I J tgt lv st) (kf : a ≤ b → G X nL Z Q I J (pc + 3) lv st) : G X nL Z Q I J pc lv (.int (cmpN a b) :: st) := by
  rcases Nat.lt_trichotomy a b with h | h | h
  · rw [cmp_lt h]; exact g_if_gt C d ht (fun q => by first | exact kt (by omega) | exact absurd q (by decide)) (fun q => by first | exact kf (by omega) | exact absurd q (by decide))
  · rw [cmp_eq h]; exact g_if_gt C d ht (fun q => by first | exact kt (by omega) | exact absurd q (by decide)) (fun q => by first | exact kf (by omega) | exact absurd q (by decide))
  · rw [cmp_gt h]; exact g_if_gt C d ht (fun q => by first | exact kt (by omega) | exact absurd q (by decide)) (fun q => by first | exact kf (by omega) | exact absurd q (by decide))
theorem c_if_ge (C : Cx X cc nL own Z fr lo) {a b : Nat} {off : Int} {tgt : Nat} (d : decode cc pc = .ok (.ifCond .ge off, 3)) (ht : (pc : Int) + off = (tgt : Int)) (kt : b ≤ a → G X nL Z Q I J tgt lv st) (kf : a < b → G X nL Z Q I J (pc + 3) lv st) : G X nL Z Q I J pc lv (.int (cmpN a b) :: st) := by
  rcases Nat.lt_trichotomy a b with h | h | h
  · rw [cmp_lt h]; exact g_if_ge C d ht (fun q => by first | exact kt (by omega) | exact absurd q (by decide)) (fun q => by first | exact kf (by omega) | exact absurd q (by decide))
  · rw [cmp_eq h]; exact g_if_ge C d ht (fun q => by first | exact kt (by omega) | exact absurd q (by decide)) (fun q => by first | exact kf (by omega) | exact absurd q (by decide))
  · rw [cmp_gt h]; exact g_if_ge C d ht (fun q => by first | exact kt (by omega) | exact absurd q (by decide)) (fun q => by first | exact kf (by omega) | exact absurd q (by decide))
theorem c_if_lt (C : Cx X cc nL own Z fr lo) {a b : Nat} {off : Int} {tgt : Nat} (d : decode cc pc = .ok (.ifCond .lt off, 3)) (ht : (pc : Int) + off = (tgt : Int)) (kt : a < b → G X nL Z Q I J tgt lv st) (kf : b ≤ a → G X nL Z Q I J (pc + 3) lv st) : G X nL Z Q I J pc lv (.int (cmpN a b) :: st) := by
  rcases Nat.lt_trichotomy a b with h | h | h
  · rw [cmp_lt h]; exact g_if_lt C d ht (fun q => by first | exact kt (by omega) | exact absurd q (by decide)) (fun q => by first | exact kf (by omega) | exact absurd q (by decide))
  · rw [cmp_eq h]; exact g_if_lt C d ht (fun q => by first | exact kt (by omega) | exact absurd q (by decide)) (fun q => by first | exact kf (by omega) | exact absurd q (by decide))
  · rw [cmp_gt h]; exact g_if_lt C d ht (fun q => by first | exact kt (by omega) | exact absurd q (by decide)) (fun q => by first | exact kf (by omega) | exact absurd q (by decide))
end GCMP
set_option maxRecDepth 100000 in
set_option maxHeartbeats 4000000 in
theorem l_X5_compareRows_2 {X : Pk} {Z : Zk} {fr lo : Nat} {I : SI} {J : SJ} (C : Cx X cX5_compareRows 4 RX5 Z fr lo) (hr : (xE X).sig.returnType = some .int) {k1 r1 k2 r2 m1 m2 n : Nat} (hk1 : k1 < 38) (hr1 : r1 < cnt k1) (hk2 : k2 < 38) (hr2 : r2 < cnt k2) (hs1 : ∀ f g, SSr Z.2.1 Z.2.2.1 k1 r1 f g = .inl (Z.2.1 1, m1, .inr (.inl g))) (hs2 : ∀ f g, SSr Z.2.1 Z.2.2.1 k2 r2 f g = .inl (Z.2.1 1, m2, .inr (.inl g))) (hm1 : n ≤ m1) (hm2 : n ≤ m2) (hb1 : Nat.ble m1 1000 = true) (hb2 : Nat.ble m2 1000 = true) {A B : Nat → Nat} (hA1 : ∀ i, i < n → J k1 r1 i = lN (A i) ∧ A i < 2 ^ 60) (hB1 : ∀ i, i < n → J k2 r2 i = lN (B i) ∧ B i < 2 ^ 60) : ∀ k i, n - i < k → i ≤ n → (∀ a, a < i → A a = B a) → G X 4 Z (QG X Z (fun v' I' J' => (∃ c : Int32, v' = some (.int c) ∧ ((c = -1 ∧ lx n A B) ∨ (c = 0 ∧ ∀ i, i < n → A i = B i) ∨ (c = 1 ∧ lx n B A))) ∧ I' = I ∧ J' = J)) I J 2 [(0, .ref (Z.2.2.1 k1 r1)), (1, .ref (Z.2.2.1 k2 r2)), (2, .int (nI n)), (3, .int (nI i))] [] := by
  have q1 := Nat.ble_eq.mp hb1
  have q2 := Nat.ble_eq.mp hb2
  intro k
  induction k with
  | zero => intro i h; exact absurd h (by omega)
  | succ k ih =>
    intro i hk hin9 hin
    have z1 : i < n → A i < 2 ^ 60 := fun h => (hA1 i h).2
    have z2 : i < n → B i < 2 ^ 60 := fun h => (hB1 i h).2
    refine g_ildn C dX5_compareRows_2 rfl ?_
    refine g_ildn C dX5_compareRows_3 rfl ?_
    refine n_icmp_ge (tgt := 39) C dX5_compareRows_4 rfl (by omega) (by omega) (fun c4 => ?_) (fun c4 => ?_)
    · refine g_iconst C ((nI 0)) dX5_compareRows_39 (by decide) ?_
      exact g_ireturn C hr dX5_compareRows_40 ⟨⟨0, rfl, Or.inr (Or.inl ⟨rfl, fun a ha => hin a (by omega)⟩)⟩, rfl, rfl⟩
    · refine g_aldn C dX5_compareRows_7 rfl ?_
      refine g_ildn C dX5_compareRows_8 rfl ?_
      refine g_lald C k1 r1 hk1 hr1 hs1 i (by omega) hb1 dX5_compareRows_9 (v := (lN (A i))) (hA1 i (by omega)).1 ?_
      refine g_aldn C dX5_compareRows_10 rfl ?_
      refine g_ildn C dX5_compareRows_11 rfl ?_
      refine g_lald C k2 r2 hk2 hr2 hs2 i (by omega) hb2 dX5_compareRows_12 (v := (lN (B i))) (hB1 i (by omega)).1 ?_
      refine g_lcmp (v := (cmpN (A i) (B i))) C dX5_compareRows_13 (lcmpN (by omega) (by omega)) ?_
      refine c_if_eq (tgt := 33) C dX5_compareRows_14 rfl (fun c14 => ?_) (fun c14 => ?_)
      · refine g_iinc (lv' := [(3, .int (nI (i + 1))), (0, .ref (Z.2.2.1 k1 r1)), (1, .ref (Z.2.2.1 k2 r2)), (2, .int (nI n))]) C ((nI (i + 1))) dX5_compareRows_33 rfl (inc1 _) rfl rfl ?_
        refine g_goto (tgt := 2) C dX5_compareRows_36 rfl ?_
        refine g_lv [1, 2, 3, 0] rfl ?_
        exact ih (i + 1) (by omega) (by omega) (fun a ha => (Nat.lt_or_eq_of_le (Nat.le_of_lt_succ ha)).elim (hin a) (fun e => by rw [e]; exact c14))
      · refine g_aldn C dX5_compareRows_17 rfl ?_
        refine g_ildn C dX5_compareRows_18 rfl ?_
        refine g_lald C k1 r1 hk1 hr1 hs1 i (by omega) hb1 dX5_compareRows_19 (v := (lN (A i))) (hA1 i (by omega)).1 ?_
        refine g_aldn C dX5_compareRows_20 rfl ?_
        refine g_ildn C dX5_compareRows_21 rfl ?_
        refine g_lald C k2 r2 hk2 hr2 hs2 i (by omega) hb2 dX5_compareRows_22 (v := (lN (B i))) (hB1 i (by omega)).1 ?_
        refine g_lcmp (v := (cmpN (A i) (B i))) C dX5_compareRows_23 (lcmpN (by omega) (by omega)) ?_
        refine c_if_ge (tgt := 31) C dX5_compareRows_24 rfl (fun c24 => ?_) (fun c24 => ?_)
        · refine g_iconst C ((nI 1)) dX5_compareRows_31 (by decide) ?_
          exact g_ireturn C hr dX5_compareRows_32 ⟨⟨1, rfl, Or.inr (Or.inr ⟨rfl, i, by omega, fun a ha => (hin a ha).symm, by omega⟩)⟩, rfl, rfl⟩
        · refine g_iconst C ((-1)) dX5_compareRows_27 (by decide) ?_
          refine g_goto (tgt := 32) C dX5_compareRows_28 rfl ?_
          exact g_ireturn C hr dX5_compareRows_32 ⟨⟨-1, rfl, Or.inl ⟨rfl, i, by omega, hin, by omega⟩⟩, rfl, rfl⟩

set_option maxRecDepth 100000 in
set_option maxHeartbeats 4000000 in
/-- compareRows -/
theorem c_X5_compareRows {l : Launch} {Y : Yk} (hA : AJ Y.2.2) {I : SI} {J : SJ} {k1 r1 k2 r2 m1 m2 n : Nat} (hk1 : k1 < 38) (hr1 : r1 < cnt k1) (hk2 : k2 < 38) (hr2 : r2 < cnt k2) (hs1 : ∀ f g, SSr Y.2.1 Y.2.2 k1 r1 f g = .inl (Y.2.1 1, m1, .inr (.inl g))) (hs2 : ∀ f g, SSr Y.2.1 Y.2.2 k2 r2 f g = .inl (Y.2.1 1, m2, .inr (.inl g))) (hm1 : n ≤ m1) (hm2 : n ≤ m2) (hb1 : Nat.ble m1 1000 = true) (hb2 : Nat.ble m2 1000 = true) {A B : Nat → Nat} (hA1 : ∀ i, i < n → J k1 r1 i = lN (A i) ∧ A i < 2 ^ 60) (hB1 : ∀ i, i < n → J k2 r2 i = lN (B i) ∧ B i < 2 ^ 60)  : MX l Y yX5_compareRows cX5_compareRows 4 (some .int) 0 0 [.ref (Y.2.2 k1 r1), .ref (Y.2.2 k2 r2), .int (nI n)] I J (fun v' I' J' => (∃ c : Int32, v' = some (.int c) ∧ ((c = -1 ∧ lx n A B) ∨ (c = 0 ∧ ∀ i, i < n → A i = B i) ∨ (c = 1 ∧ lx n B A))) ∧ I' = I ∧ J' = J) := by
  refine MX.of hA (by decide) (own := RX5) rfl rfl rfl ?_
  intro X Z hl hY1 hY2 hY3 C hr
  obtain ⟨D0, ca0, ad0⟩ := Y
  dsimp only at hA hY1 hY2 hY3 hs1 hs2
  subst hY1; subst hY2; subst hY3; subst hl
  show G X 4 Z (QG X Z _) I J 0 [(0, .ref (Z.2.2.1 k1 r1)), (1, .ref (Z.2.2.1 k2 r2)), (2, .int (nI n))] []
  refine g_iconst C ((nI 0)) dX5_compareRows_0 (by decide) ?_
  refine g_istn (lv' := [(3, .int (nI 0)), (0, .ref (Z.2.2.1 k1 r1)), (1, .ref (Z.2.2.1 k2 r2)), (2, .int (nI n))]) C dX5_compareRows_1 rfl rfl ?_
  refine g_lv [1, 2, 3, 0] rfl ?_
  exact l_X5_compareRows_2 C hr hk1 hr1 hk2 hr2 hs1 hs2 hm1 hm2 hb1 hb2 hA1 hB1 (n + 1) 0 (by omega) (by omega) (fun a h => absurd h (by omega))

set_option maxRecDepth 100000 in
set_option maxHeartbeats 4000000 in
/-- longerRow -/
theorem c_X0_longerRow {l : Launch} {Y : Yk} (hA : AJ Y.2.2) {I : SI} {J : SJ} {n : Nat} {T : Nat → Nat → Nat} {L : Nat → Nat → Nat → Nat} (hv : CV I n T L) {g : Nat} (hg : g < 2) {dp w v x : Nat} (hdp : dp < 9) (hwn : w < n) (hvn : v < n) (hx : J 22 dp w = lN x) (hx2 : x < 2 ^ 56)  : MX l Y yX0_longerRow cX0_longerRow 5 (some .long) 1 40 [.ref (Y.2.2 20 0), .ref (Y.2.2 2 g), .int (nI dp), .int (nI w), .int (nI v)] I J (fun v' I' J' => v' = some (.long (lN (x * 16 + pr L g w v))) ∧ I' = I ∧ J' = J) := by
  refine MX.of hA (by decide) (own := RX0) rfl rfl rfl ?_
  intro X Z hl hY1 hY2 hY3 C hr
  obtain ⟨D0, ca0, ad0⟩ := Y
  dsimp only at hA hY1 hY2 hY3
  subst hY1; subst hY2; subst hY3; subst hl
  show G X 5 Z (QG X Z _) I J 0 [(0, .ref (Z.2.2.1 20 0)), (1, .ref (Z.2.2.1 2 g)), (2, .int (nI dp)), (3, .int (nI w)), (4, .int (nI v))] []
  obtain ⟨⟨hn1, hn9⟩, -⟩ := id hv
  have hpr : pr L g w v < 16 := by have := hv.l4 hg hwn hvn; have := hv.l4 hg hvn hwn; unfold pr; omega
  refine g_aldn C dX0_longerRow_0 rfl ?_
  refine g_get C 20 0 (by decide) (by decide) u0 rfl 0 rfl fX0_11 rfl rfl dX0_longerRow_1 ?_
  refine g_ildn C dX0_longerRow_4 rfl ?_
  refine g_aald C 21 0 4 (by decide) (by decide) (fun _ _ => rfl) rfl rfl dp (show dp < 9 by omega) rfl dX0_longerRow_5 ?_
  refine g_ildn C dX0_longerRow_6 rfl ?_
  refine g_lald C 22 dp (by decide) (show dp < 9 by omega) (fun _ _ => rfl) w (show w < 9 by omega) rfl dX0_longerRow_7 (v := (lN x)) hx ?_
  refine g_iconst C ((nI 4)) dX0_longerRow_8 (by decide) ?_
  refine g_lshl (v := (lN (x * 16))) C dX0_longerRow_9 (wb_shl x (k := 4) (by decide)) ?_
  refine g_aldn C dX0_longerRow_10 rfl ?_
  refine g_ildn C dX0_longerRow_11 rfl ?_
  refine g_ild C dX0_longerRow_12 rfl ?_
  refine g_callV (As := [.int (nI w), .int (nI v)]) (st := [.long (lN (x * 16))]) C (c_X1_pair hA hv hg hwn hvn) wX1_pair iX1_pair sX1_pair mX0_88 2 g (by decide) (show g < 2 by omega) rfl rfl rfl rfl rfl rfl rfl rfl dX0_longerRow_14 ?_
  rintro v9 I9 J9 ⟨h91, h92, h93⟩
  rw [h91, h92, h93]
  clear h91 h92 h93 v9 I9 J9
  show G X _ Z _ I J 17 [(0, .ref (Z.2.2.1 20 0)), (1, .ref (Z.2.2.1 2 g)), (2, .int (nI dp)), (3, .int (nI w)), (4, .int (nI v))] [.int (nI (pr L g w v)), .long (lN (x * 16))]
  refine g_i2l (v := (lN (pr L g w v))) C dX0_longerRow_17 (nI_l (by omega)) ?_
  refine g_lor (v := (lN (x * 16 + pr L g w v))) C dX0_longerRow_18 (g_or (k := 4) (p := 16) (by decide) hpr (by omega)) ?_
  exact g_lreturn C hr dX0_longerRow_19 ⟨rfl, rfl, rfl⟩

/-- m's bits are the lesser ones that are like v, among the first j -/
def lks (n : Nat) (T : Nat → Nat → Nat) (L : Nat → Nat → Nat → Nat) (g v j m : Nat) : Prop := m < 2 ^ 9 ∧ ∀ u, m.testBit u = true ↔ u < j ∧ alk n T L g u v
set_option maxRecDepth 100000 in
set_option maxHeartbeats 4000000 in
theorem l_X0_lesserLikes_4 {X : Pk} {Z : Zk} {I : SI} {J : SJ} (hA : AJ Z.2.2.1) (C : Cx X cX0_lesserLikes 4 RX0 Z 2 80) (hr : (xE X).sig.returnType = some .int) {n : Nat} {T : Nat → Nat → Nat} {L : Nat → Nat → Nat → Nat} (hv : CV I n T L) {g : Nat} (hg : g < 2) {v : Nat} (hvn : v < n) : ∀ k u m, v - u < k → u ≤ v → lks n T L g v u m → G X 4 Z (QG X Z (fun v' I' J' => (∃ m, v' = some (.int (nI m)) ∧ lks n T L g v v m) ∧ I' = I ∧ J' = J)) I J 4 [(0, .ref (Z.2.2.1 2 g)), (1, .int (nI v)), (2, .int (nI m)), (3, .int (nI u))] [] := by
  obtain ⟨⟨hn1, hn9⟩, -⟩ := id hv
  intro k
  induction k with
  | zero => intro u m h; exact absurd h (by omega)
  | succ k ih =>
    intro u m hk huv hm
    have hm9 := hm.1
    refine g_ildn C dX0_lesserLikes_4 rfl ?_
    refine g_ildn C dX0_lesserLikes_5 rfl ?_
    refine n_icmp_ge (tgt := 30) C dX0_lesserLikes_6 rfl (by omega) (by omega) (fun c6 => ?_) (fun c6 => ?_)
    · refine g_ildn C dX0_lesserLikes_30 rfl ?_
      exact g_ireturn C hr dX0_lesserLikes_31 ⟨⟨m, rfl, (show u = v by omega) ▸ hm⟩, rfl, rfl⟩
    · refine g_aldn C dX0_lesserLikes_9 rfl ?_
      refine g_ildn C dX0_lesserLikes_10 rfl ?_
      refine g_ildn C dX0_lesserLikes_11 rfl ?_
      refine g_callV (As := [.int (nI u), .int (nI v)]) (st := []) C (c_X1_isAlike hA hv hg (show u < n by omega) hvn) wX1_isAlike iX1_isAlike sX1_isAlike mX0_55 2 g (by decide) (show g < 2 by omega) rfl rfl rfl rfl rfl rfl rfl rfl dX0_lesserLikes_12 ?_
      rintro v9 I9 J9 ⟨b, h91, hb, h92, h93⟩
      rw [h91, h92, h93]
      clear h91 h92 h93 v9 I9 J9
      show G X _ Z _ I J 15 [(0, .ref (Z.2.2.1 2 g)), (1, .int (nI v)), (2, .int (nI m)), (3, .int (nI u))] [.int (bI b)]
      refine b_if_eq (tgt := 24) C dX0_lesserLikes_15 rfl (fun c15 => ?_) (fun c15 => ?_)
      · refine g_iinc (lv' := [(3, .int (nI (u + 1))), (0, .ref (Z.2.2.1 2 g)), (1, .int (nI v)), (2, .int (nI m))]) C ((nI (u + 1))) dX0_lesserLikes_24 rfl (inc1 _) rfl rfl ?_
        refine g_goto (tgt := 4) C dX0_lesserLikes_27 rfl ?_
        refine g_lv [1, 2, 3, 0] rfl ?_
        refine ih (u + 1) m (by omega) (by omega) ⟨hm.1, fun a => (hm.2 a).trans ⟨fun q => ⟨by omega, q.2⟩, fun q => ⟨?_, q.2⟩⟩⟩
        rcases Nat.lt_or_eq_of_le (Nat.le_of_lt_succ q.1) with h3 | h3
        · exact h3
        · subst h3; exact absurd (hb.mpr q.2) (by rw [c15]; decide)
      · refine g_ildn C dX0_lesserLikes_18 rfl ?_
        refine g_iconst C ((nI 1)) dX0_lesserLikes_19 (by decide) ?_
        refine g_ildn C dX0_lesserLikes_20 rfl ?_
        refine g_ishl (v := (nI (2 ^ u))) C dX0_lesserLikes_21 (shl1 u (by omega)) ?_
        refine g_ior (v := (nI (m ||| 2 ^ u))) C dX0_lesserLikes_22 (orI _ _) ?_
        refine g_istn (lv' := [(2, .int (nI (m ||| 2 ^ u))), (0, .ref (Z.2.2.1 2 g)), (1, .int (nI v)), (3, .int (nI u))]) C dX0_lesserLikes_23 rfl rfl ?_
        refine g_iinc (lv' := [(3, .int (nI (u + 1))), (2, .int (nI (m ||| 2 ^ u))), (0, .ref (Z.2.2.1 2 g)), (1, .int (nI v))]) C ((nI (u + 1))) dX0_lesserLikes_24 rfl (inc1 _) rfl rfl ?_
        refine g_goto (tgt := 4) C dX0_lesserLikes_27 rfl ?_
        refine g_lv [2, 3, 1, 0] rfl ?_
        refine ih (u + 1) (m ||| 2 ^ u) (by omega) (by omega) ⟨Nat.or_lt_two_pow hm.1 (Nat.pow_lt_pow_right (by decide) (by omega)), fun a => ?_⟩
        rw [Nat.testBit_or, Nat.testBit_two_pow, Bool.or_eq_true, hm.2 a, decide_eq_true_iff]
        constructor
        · rintro (⟨h1, h2⟩ | e)
          · exact ⟨by omega, h2⟩
          · subst e; exact ⟨by omega, hb.mp c15⟩
        · rintro ⟨h1, h2⟩
          rcases Nat.lt_or_eq_of_le (Nat.le_of_lt_succ h1) with h3 | h3
          · exact Or.inl ⟨h3, h2⟩
          · exact Or.inr h3.symm

set_option maxRecDepth 100000 in
set_option maxHeartbeats 4000000 in
/-- lesserLikes -/
theorem c_X0_lesserLikes {l : Launch} {Y : Yk} (hA : AJ Y.2.2) {I : SI} {J : SJ} {n : Nat} {T : Nat → Nat → Nat} {L : Nat → Nat → Nat → Nat} (hv : CV I n T L) {g : Nat} (hg : g < 2) {v : Nat} (hvn : v < n)  : MX l Y yX0_lesserLikes cX0_lesserLikes 4 (some .int) 2 80 [.ref (Y.2.2 2 g), .int (nI v)] I J (fun v' I' J' => (∃ m, v' = some (.int (nI m)) ∧ lks n T L g v v m) ∧ I' = I ∧ J' = J) := by
  refine MX.of hA (by decide) (own := RX0) rfl rfl rfl ?_
  intro X Z hl hY1 hY2 hY3 C hr
  obtain ⟨D0, ca0, ad0⟩ := Y
  dsimp only at hA hY1 hY2 hY3
  subst hY1; subst hY2; subst hY3; subst hl
  show G X 4 Z (QG X Z _) I J 0 [(0, .ref (Z.2.2.1 2 g)), (1, .int (nI v))] []
  refine g_iconst C ((nI 0)) dX0_lesserLikes_0 (by decide) ?_
  refine g_istn (lv' := [(2, .int (nI 0)), (0, .ref (Z.2.2.1 2 g)), (1, .int (nI v))]) C dX0_lesserLikes_1 rfl rfl ?_
  refine g_iconst C ((nI 0)) dX0_lesserLikes_2 (by decide) ?_
  refine g_istn (lv' := [(3, .int (nI 0)), (2, .int (nI 0)), (0, .ref (Z.2.2.1 2 g)), (1, .int (nI v))]) C dX0_lesserLikes_3 rfl rfl ?_
  refine g_lv [2, 3, 1, 0] rfl ?_
  exact l_X0_lesserLikes_4 hA C hr hv hg hvn (v + 1) 0 0 (by omega) (by omega) ⟨by decide, fun a => ⟨fun q => absurd q (by simp), fun q => absurd q.1 (by omega)⟩⟩
end
section
/-! ===== rows of numbers: their order, insertion, counting ===== -/
theorem lx_irr {n : Nat} {A : Nat → Nat} (h : lx n A A) : False := by
  obtain ⟨k, _, _, h3⟩ := h
  omega
theorem lx_tr {n : Nat} {A B D : Nat → Nat} (h1 : lx n A B) (h2 : lx n B D) : lx n A D := by
  obtain ⟨a, a1, a2, a3⟩ := h1
  obtain ⟨b, b1, b2, b3⟩ := h2
  rcases Nat.lt_trichotomy a b with h | h | h
  · exact ⟨a, a1, fun j hj => (a2 j hj).trans (b2 j (by omega)), by rw [← b2 a h]; exact a3⟩
  · subst h
    exact ⟨a, a1, fun j hj => (a2 j hj).trans (b2 j hj), by omega⟩
  · exact ⟨b, b1, fun j hj => (a2 j (by omega)).trans (b2 j hj), by rw [a2 b h]; exact b3⟩
theorem lx_l {n : Nat} {A A' B : Nat → Nat} (h : lx n A B) (e : ∀ i, i < n → A i = A' i) : lx n A' B := by
  obtain ⟨a, a1, a2, a3⟩ := h
  exact ⟨a, a1, fun j hj => by rw [← e j (by omega)]; exact a2 j hj, by rw [← e a a1]; exact a3⟩
theorem lx_r {n : Nat} {A B B' : Nat → Nat} (h : lx n A B) (e : ∀ i, i < n → B i = B' i) : lx n A B' := by
  obtain ⟨a, a1, a2, a3⟩ := h
  exact ⟨a, a1, fun j hj => by rw [← e j (by omega)]; exact a2 j hj, by rw [← e a a1]; exact a3⟩
theorem lx_tot (n : Nat) (A B : Nat → Nat) : lx n A B ∨ (∀ i, i < n → A i = B i) ∨ lx n B A := by
  induction n with
  | zero => exact Or.inr (Or.inl (fun i hi => absurd hi (by omega)))
  | succ n ih =>
    rcases ih with ⟨k, h1, h2⟩ | h | ⟨k, h1, h2⟩
    · exact Or.inl ⟨k, by omega, h2⟩
    · rcases Nat.lt_trichotomy (A n) (B n) with q | q | q
      · exact Or.inl ⟨n, by omega, h, q⟩
      · exact Or.inr (Or.inl (fun i hi => (Nat.lt_or_eq_of_le (Nat.le_of_lt_succ hi)).elim (h i) (fun e => by rw [e]; exact q)))
      · exact Or.inr (Or.inr ⟨n, by omega, fun j hj => (h j hj).symm, q⟩)
    · exact Or.inr (Or.inr ⟨k, by omega, h2⟩)
theorem lxe_of {n : Nat} {A B : Nat → Nat} (h : ¬ lx n B A) : lxe n A B := by
  rcases lx_tot n A B with q | q | q
  · exact Or.inl q
  · exact Or.inr q
  · exact absurd q h
theorem lxe_no {n : Nat} {A B : Nat → Nat} (h : lxe n A B) : ¬ lx n B A := fun q => by
  rcases h with h | h
  · exact lx_irr (lx_tr h q)
  · exact lx_irr (lx_l q (fun i hi => (h i hi).symm))
theorem lxe_rf (n : Nat) (A : Nat → Nat) : lxe n A A := Or.inr (fun _ _ => rfl)
theorem lxe_tr {n : Nat} {A B D : Nat → Nat} (h1 : lxe n A B) (h2 : lxe n B D) : lxe n A D := by
  rcases h1 with h1 | h1
  · rcases h2 with h2 | h2
    · exact Or.inl (lx_tr h1 h2)
    · exact Or.inl (lx_r h1 h2)
  · rcases h2 with h2 | h2
    · exact Or.inl (lx_l h2 (fun i hi => (h1 i hi).symm))
    · exact Or.inr (fun i hi => (h1 i hi).trans (h2 i hi))
theorem lxe_as {n : Nat} {A B : Nat → Nat} (h1 : lxe n A B) (h2 : lxe n B A) : ∀ i, i < n → A i = B i := by
  rcases h1 with h1 | h1
  · exact absurd h1 (lxe_no h2)
  · exact h1
/-- x comes in at place a -/
def ins (s : Nat → Nat) (a x : Nat) : Nat → Nat := fun i => if i < a then s i else if i = a then x else s (i - 1)
theorem ins_lt {s : Nat → Nat} {a x i : Nat} (h : i < a) : ins s a x i = s i := if_pos h
theorem ins_at (s : Nat → Nat) (a x : Nat) : ins s a x a = x := by unfold ins; rw [if_neg (by omega), if_pos rfl]
theorem ins_gt {s : Nat → Nat} {a x i : Nat} (h : a ≤ i) : ins s a x (i + 1) = s i := by unfold ins; rw [if_neg (by omega), if_neg (by omega), Nat.add_sub_cancel]
def srt (s : Nat → Nat) (m : Nat) : Prop := ∀ i, i + 1 < m → s i ≤ s (i + 1)
theorem srt_le {s : Nat → Nat} {m : Nat} (h : srt s m) : ∀ j i, i ≤ j → j < m → s i ≤ s j := by
  intro j
  induction j with
  | zero => intro i hi _; rw [show i = 0 by omega]; exact Nat.le_refl _
  | succ j ih =>
    intro i hi hj
    rcases Nat.lt_or_eq_of_le hi with q | q
    · exact Nat.le_trans (ih i (by omega) (by omega)) (h j hj)
    · subst q; exact Nat.le_refl _
theorem ins_srt {s : Nat → Nat} {a m x : Nat} (h : srt s m) (ha : a ≤ m) (h1 : a = 0 ∨ s (a - 1) ≤ x) (h2 : ∀ j, a ≤ j → j < m → x < s j) : srt (ins s a x) (m + 1) := by
  intro i hi
  rcases Nat.lt_trichotomy (i + 1) a with q | q | q
  · rw [ins_lt (by omega), ins_lt q]; exact h i (by omega)
  · subst q
    rw [ins_lt (by omega), ins_at]
    rcases h1 with h1 | h1
    · omega
    · exact h1
  · rw [ins_gt (by omega)]
    rcases Nat.lt_or_eq_of_le (show a ≤ i by omega) with q2 | q2
    · obtain ⟨i', rfl⟩ : ∃ i', i = i' + 1 := ⟨i - 1, by omega⟩
      rw [ins_gt (by omega)]
      exact h i' (by omega)
    · subst q2
      rw [ins_at]
      exact Nat.le_of_lt (h2 a (Nat.le_refl a) (by omega))
theorem ct_congr {p q : Nat → Bool} : ∀ m, (∀ i, i < m → p i = q i) → ct p m = ct q m
  | 0, _ => rfl
  | m + 1, h => by
    show ct p m + _ = ct q m + _
    rw [ct_congr m (fun i hi => h i (by omega)), h m (by omega)]
theorem ct_ins (q : Nat → Bool) (s : Nat → Nat) (a x : Nat) : ∀ m, a ≤ m → ct (fun j => q (ins s a x j)) (m + 1) = ct (fun j => q (s j)) m + (if q x then 1 else 0) := by
  intro m
  induction m with
  | zero =>
    intro ha
    have : a = 0 := by omega
    subst this
    show ct (fun j => q (ins s 0 x j)) 0 + (if q (ins s 0 x 0) then 1 else 0) = ct (fun j => q (s j)) 0 + _
    rw [ins_at]
    rfl
  | succ m ih =>
    intro ha
    show ct (fun j => q (ins s a x j)) (m + 1) + (if q (ins s a x (m + 1)) then 1 else 0) = (ct (fun j => q (s j)) m + (if q (s m) then 1 else 0)) + (if q x then 1 else 0)
    rcases Nat.lt_or_eq_of_le ha with h | h
    · rw [ih (by omega), ins_gt (by omega)]
      omega
    · subst h
      rw [ins_at, show ct (fun j => q (ins s (m + 1) x j)) (m + 1) = ct (fun j => q (s j)) (m + 1) from ct_congr _ (fun i hi => by rw [ins_lt hi])]
      rfl
theorem ct_mono (p : Nat → Bool) {a b : Nat} (h : a ≤ b) : ct p a ≤ ct p b := by
  induction b with
  | zero => rw [show a = 0 by omega]; exact Nat.le_refl _
  | succ b ih =>
    rcases Nat.lt_or_eq_of_le h with q | q
    · exact Nat.le_trans (ih (by omega)) (Nat.le_add_right _ _)
    · subst q; exact Nat.le_refl _
theorem ct_s (p : Nat → Bool) (m : Nat) : ct p (m + 1) = ct p m + (if p m then 1 else 0) := rfl
theorem ct_t {p : Nat → Bool} {m : Nat} (h : p m = true) : ct p (m + 1) = ct p m + 1 := by rw [ct_s, h]; rfl
theorem ct_f {p : Nat → Bool} {m : Nat} (h : p m = false) : ct p (m + 1) = ct p m := by rw [ct_s, h]; rfl
theorem wo_lt {a b : Nat} (ha : a < 2 ^ 9) : wo a b < 2 ^ 9 := Nat.xor_lt_two_pow ha (Nat.lt_of_le_of_lt Nat.and_le_left ha)
theorem wo_0 {a b : Nat} (h : wo a b = 0) : ∀ u, a.testBit u = true → b.testBit u = true := fun u hu => by
  have h1 := wo_bit a b u
  rw [h, Nat.zero_testBit, hu] at h1
  cases hb : b.testBit u with
  | true => rfl
  | false => rw [hb] at h1; exact absurd h1 (by decide)
theorem wo_n {a b : Nat} (h : wo a b ≠ 0) : ¬ ∀ u, a.testBit u = true → b.testBit u = true := fun hq => h (by
  apply Nat.eq_of_testBit_eq
  intro u
  rw [wo_bit, Nat.zero_testBit]
  cases ha : a.testBit u with
  | false => rfl
  | true => rw [hq u ha]; rfl)
end
section
/-! ===== FormFinder: candidates, isBoundLess, promisesLess, leastBounded ===== -/
/-- v may stand next: it isn't taken, and all lesser ones that are like it are -/
def opn (tk : Nat) (lk : Nat → Nat) (v : Nat) : Prop := tk.testBit v = false ∧ ∀ u, (lk v).testBit u = true → tk.testBit u = true
/-- among the first j: fd's bits are those that may stand next and have the least row le -/
def cnd (tk : Nat) (lk r : Nat → Nat) (j fd le : Nat) : Prop := fd < 2 ^ 9 ∧ le ≤ 2 ^ 40 ∧ (∀ u, fd.testBit u = true ↔ u < j ∧ opn tk lk u ∧ r u = le) ∧ (∀ u, u < j → opn tk lk u → le ≤ r u) ∧ (le = 2 ^ 40 ∨ ∃ u, u < j ∧ opn tk lk u ∧ r u = le)
theorem cnd.no {tk : Nat} {lk r : Nat → Nat} {j fd le : Nat} (h : cnd tk lk r j fd le) (hno : ¬ opn tk lk j ∨ le < r j) : cnd tk lk r (j + 1) fd le := by
  obtain ⟨h1, h2, h3, h4, h5⟩ := h
  refine ⟨h1, h2, fun u => (h3 u).trans ⟨fun q => ⟨by omega, q.2⟩, fun q => ⟨?_, q.2⟩⟩, fun u hu ho => ?_, h5.elim Or.inl (fun ⟨u, a, b⟩ => Or.inr ⟨u, by omega, b⟩)⟩
  · rcases Nat.lt_or_eq_of_le (Nat.le_of_lt_succ q.1) with e | e
    · exact e
    · subst e; rcases hno with hno | hno
      · exact absurd q.2.1 hno
      · exact absurd q.2.2 (by omega)
  · rcases Nat.lt_or_eq_of_le (Nat.le_of_lt_succ hu) with e | e
    · exact h4 u e ho
    · subst e; rcases hno with hno | hno
      · exact absurd ho hno
      · omega
theorem cnd.eq {tk : Nat} {lk r : Nat → Nat} {j fd le : Nat} (hj : j < 9) (h : cnd tk lk r j fd le) (ho : opn tk lk j) (he : r j = le) : cnd tk lk r (j + 1) (fd ||| 2 ^ j) le := by
  obtain ⟨h1, h2, h3, h4, h5⟩ := h
  refine ⟨Nat.or_lt_two_pow h1 (Nat.pow_lt_pow_right (by decide) hj), h2, fun u => ?_, fun u hu hu2 => ?_, Or.inr ⟨j, by omega, ho, he⟩⟩
  · rw [Nat.testBit_or, Nat.testBit_two_pow, Bool.or_eq_true, h3 u, decide_eq_true_iff]
    constructor
    · rintro (⟨a, b⟩ | e)
      · exact ⟨by omega, b⟩
      · subst e; exact ⟨by omega, ho, he⟩
    · rintro ⟨a, b⟩
      rcases Nat.lt_or_eq_of_le (Nat.le_of_lt_succ a) with e | e
      · exact Or.inl ⟨e, b⟩
      · exact Or.inr e.symm
  · rcases Nat.lt_or_eq_of_le (Nat.le_of_lt_succ hu) with e | e
    · exact h4 u e hu2
    · subst e; omega
theorem cnd.lt {tk : Nat} {lk r : Nat → Nat} {j fd le : Nat} (hj : j < 9) (h : cnd tk lk r j fd le) (ho : opn tk lk j) (he : r j < le) : cnd tk lk r (j + 1) (0 ||| 2 ^ j) (r j) := by
  obtain ⟨h1, h2, h3, h4, h5⟩ := h
  refine ⟨Nat.or_lt_two_pow (by decide) (Nat.pow_lt_pow_right (by decide) hj), by omega, fun u => ?_, fun u hu hu2 => ?_, Or.inr ⟨j, by omega, ho, rfl⟩⟩
  · rw [Nat.testBit_or, Nat.testBit_two_pow, Bool.or_eq_true, decide_eq_true_iff, Nat.zero_testBit]
    constructor
    · rintro (a | e)
      · exact absurd a (by decide)
      · subst e; exact ⟨by omega, ho, rfl⟩
    · rintro ⟨a, b, d⟩
      rcases Nat.lt_or_eq_of_le (Nat.le_of_lt_succ a) with e | e
      · exact absurd (h4 u e b) (by omega)
      · exact Or.inr e.symm
  · rcases Nat.lt_or_eq_of_le (Nat.le_of_lt_succ hu) with e | e
    · have := h4 u e hu2; omega
    · subst e; omega
set_option maxRecDepth 100000 in
set_option maxHeartbeats 4000000 in
theorem l_X0_candidates_11 {X : Pk} {Z : Zk} {fr lo : Nat} {I : SI} {J : SJ} (C : Cx X cX0_candidates 8 RX0 Z fr lo) (hr : (xE X).sig.returnType = some .int) {n : Nat} {T : Nat → Nat → Nat} {L : Nat → Nat → Nat → Nat} (hv : CV I n T L) {g : Nat} (hg : g < 2) {dp tk : Nat} (hdp : dp < 9) (htk : tk < 2 ^ 9) {lk r : Nat → Nat} (hlk : ∀ v, v < n → I 26 0 v = nI (lk v) ∧ lk v < 2 ^ 9) (hrw : ∀ v, v < n → tk.testBit v = false → J 22 dp v = lN (r v) ∧ r v < 2 ^ 40) : ∀ k v fd le, n - v < k → v ≤ n → cnd tk lk r v fd le → G X 8 Z (QG X Z (fun v' I' J' => ∃ fd le, v' = some (.int (nI fd)) ∧ I' = I ∧ J' = sK J 23 (up2 (J 23) 0 dp (lN le)) ∧ cnd tk lk r n fd le)) I J 11 [(0, .ref (Z.2.2.1 20 0)), (1, .ref (Z.2.2.1 2 g)), (2, .int (nI dp)), (3, .int (nI tk)), (4, .long (lN le)), (6, .int (nI fd)), (7, .int (nI v))] [] := by
  obtain ⟨⟨hn1, hn9⟩, -⟩ := id hv
  intro k
  induction k with
  | zero => intro v fd le h; exact absurd h (by omega)
  | succ k ih =>
    intro v fd le hk hvn hc
    have hdv : tk / 2 ^ v ≤ tk := Nat.div_le_self _ _
    have hfd := hc.1
    have hle := hc.2.1
    refine g_ild C dX0_candidates_11 rfl ?_
    refine g_aldn C dX0_candidates_13 rfl ?_
    refine g_get C 2 g (by decide) (show g < 2 by omega) u1 rfl 0 rfl fX0_40 rfl rfl dX0_candidates_14 ?_
    refine g_top (y := (nI n)) (hv.sz hg) ?_
    refine n_icmp_ge (tgt := 102) C dX0_candidates_17 rfl (by omega) (by omega) (fun c17 => ?_) (fun c17 => ?_)
    · refine g_aldn C dX0_candidates_102 rfl ?_
      refine g_get C 20 0 (by decide) (by decide) u0 rfl 1 rfl fX0_16 rfl rfl dX0_candidates_103 ?_
      refine g_ildn C dX0_candidates_106 rfl ?_
      refine g_lld C dX0_candidates_107 rfl ?_
      refine g_last C 23 0 (by decide) (by decide) (fun _ _ => rfl) dp (show dp < 9 by omega) rfl dX0_candidates_109 ?_
      refine g_J (J1 := sK J 23 (up2 (J 23) 0 dp (lN le))) rfl ?_
      refine g_ild C dX0_candidates_110 rfl ?_
      exact g_ireturn C hr dX0_candidates_112 ⟨fd, le, rfl, rfl, rfl, (show v = n by omega) ▸ hc⟩
    · refine g_ildn C dX0_candidates_20 rfl ?_
      refine g_ild C dX0_candidates_21 rfl ?_
      refine g_ishr (v := (nI (tk / 2 ^ v))) C dX0_candidates_23 (shrI (by omega) (by omega)) ?_
      refine g_iconst C ((nI 1)) dX0_candidates_24 (by decide) ?_
      refine g_iand (v := (nI (tk / 2 ^ v % 2))) C dX0_candidates_25 (and1 _) ?_
      refine n_if_ne (tgt := 96) C dX0_candidates_26 rfl (by omega) (fun c26 => ?_) (fun c26 => ?_)
      · refine g_iinc (lv' := [(7, .int (nI (v + 1))), (0, .ref (Z.2.2.1 20 0)), (1, .ref (Z.2.2.1 2 g)), (2, .int (nI dp)), (3, .int (nI tk)), (4, .long (lN le)), (6, .int (nI fd))]) C ((nI (v + 1))) dX0_candidates_96 rfl (inc1 _) rfl rfl ?_
        refine g_goto (tgt := 11) C dX0_candidates_99 rfl ?_
        refine g_lv [1, 2, 3, 4, 5, 6, 0] rfl ?_
        exact ih (v + 1) fd le (by omega) (by omega) (hc.no (by first | exact Or.inl (fun q => absurd q.1 (by rw [bit_t (show tk / 2 ^ v % 2 = 1 by omega)]; decide)) | exact Or.inl (fun q => wo_n c40 q.2) | exact Or.inr c55))
      · have hbf : tk.testBit v = false := bit_f (by omega)
        have hlv := (hlk v (by omega)).2
        have hwl : wo (lk v) tk < 2 ^ 9 := wo_lt hlv
        refine g_aldn C dX0_candidates_29 rfl ?_
        refine g_get C 20 0 (by decide) (by decide) u0 rfl 3 rfl fX0_23 rfl rfl dX0_candidates_30 ?_
        refine g_ild C dX0_candidates_33 rfl ?_
        refine g_iald C 26 0 (by decide) (by decide) (fun _ _ => rfl) v (show v < 9 by omega) rfl dX0_candidates_35 (v := (nI (lk v))) (hlk v (by omega)).1 ?_
        refine g_ildn C dX0_candidates_36 rfl ?_
        refine g_iconst C ((-1)) dX0_candidates_37 (by decide) ?_
        refine g_ixor (v := (nI tk ^^^ (-1))) C dX0_candidates_38 rfl ?_
        refine g_iand (v := (nI (wo (lk v) tk))) C dX0_candidates_39 (notI _ _) ?_
        refine n_if_ne (tgt := 96) C dX0_candidates_40 rfl (by omega) (fun c40 => ?_) (fun c40 => ?_)
        · refine g_iinc (lv' := [(7, .int (nI (v + 1))), (0, .ref (Z.2.2.1 20 0)), (1, .ref (Z.2.2.1 2 g)), (2, .int (nI dp)), (3, .int (nI tk)), (4, .long (lN le)), (6, .int (nI fd))]) C ((nI (v + 1))) dX0_candidates_96 rfl (inc1 _) rfl rfl ?_
          refine g_goto (tgt := 11) C dX0_candidates_99 rfl ?_
          refine g_lv [1, 2, 3, 4, 5, 6, 0] rfl ?_
          exact ih (v + 1) fd le (by omega) (by omega) (hc.no (by first | exact Or.inl (fun q => absurd q.1 (by rw [bit_t (show tk / 2 ^ v % 2 = 1 by omega)]; decide)) | exact Or.inl (fun q => wo_n c40 q.2) | exact Or.inr c55))
        · have hop : opn tk lk v := ⟨hbf, wo_0 c40⟩
          have hrv := (hrw v (by omega) hbf).2
          refine g_aldn C dX0_candidates_43 rfl ?_
          refine g_get C 20 0 (by decide) (by decide) u0 rfl 0 rfl fX0_11 rfl rfl dX0_candidates_44 ?_
          refine g_ildn C dX0_candidates_47 rfl ?_
          refine g_aald C 21 0 4 (by decide) (by decide) (fun _ _ => rfl) rfl rfl dp (show dp < 9 by omega) rfl dX0_candidates_48 ?_
          refine g_ild C dX0_candidates_49 rfl ?_
          refine g_lald C 22 dp (by decide) (show dp < 9 by omega) (fun _ _ => rfl) v (show v < 9 by omega) rfl dX0_candidates_51 (v := (lN (r v))) (hrw v (by omega) hbf).1 ?_
          refine g_lld C dX0_candidates_52 rfl ?_
          refine g_lcmp (v := (cmpN (r v) le)) C dX0_candidates_54 (lcmpN (by omega) (by omega)) ?_
          refine c_if_gt (tgt := 96) C dX0_candidates_55 rfl (fun c55 => ?_) (fun c55 => ?_)
          · refine g_iinc (lv' := [(7, .int (nI (v + 1))), (0, .ref (Z.2.2.1 20 0)), (1, .ref (Z.2.2.1 2 g)), (2, .int (nI dp)), (3, .int (nI tk)), (4, .long (lN le)), (6, .int (nI fd))]) C ((nI (v + 1))) dX0_candidates_96 rfl (inc1 _) rfl rfl ?_
            refine g_goto (tgt := 11) C dX0_candidates_99 rfl ?_
            refine g_lv [1, 2, 3, 4, 5, 6, 0] rfl ?_
            exact ih (v + 1) fd le (by omega) (by omega) (hc.no (by first | exact Or.inl (fun q => absurd q.1 (by rw [bit_t (show tk / 2 ^ v % 2 = 1 by omega)]; decide)) | exact Or.inl (fun q => wo_n c40 q.2) | exact Or.inr c55))
          · refine g_aldn C dX0_candidates_58 rfl ?_
            refine g_get C 20 0 (by decide) (by decide) u0 rfl 0 rfl fX0_11 rfl rfl dX0_candidates_59 ?_
            refine g_ildn C dX0_candidates_62 rfl ?_
            refine g_aald C 21 0 4 (by decide) (by decide) (fun _ _ => rfl) rfl rfl dp (show dp < 9 by omega) rfl dX0_candidates_63 ?_
            refine g_ild C dX0_candidates_64 rfl ?_
            refine g_lald C 22 dp (by decide) (show dp < 9 by omega) (fun _ _ => rfl) v (show v < 9 by omega) rfl dX0_candidates_66 (v := (lN (r v))) (hrw v (by omega) hbf).1 ?_
            refine g_lld C dX0_candidates_67 rfl ?_
            refine g_lcmp (v := (cmpN (r v) le)) C dX0_candidates_69 (lcmpN (by omega) (by omega)) ?_
            refine c_if_ge (tgt := 87) C dX0_candidates_70 rfl (fun c70 => ?_) (fun c70 => ?_)
            · refine g_ild C dX0_candidates_87 rfl ?_
              refine g_iconst C ((nI 1)) dX0_candidates_89 (by decide) ?_
              refine g_ild C dX0_candidates_90 rfl ?_
              refine g_ishl (v := (nI (2 ^ v))) C dX0_candidates_92 (shl1 v (by omega)) ?_
              refine g_ior (v := (nI (fd ||| 2 ^ v))) C dX0_candidates_93 (orI _ _) ?_
              refine g_ist (lv' := [(6, .int (nI (fd ||| 2 ^ v))), (0, .ref (Z.2.2.1 20 0)), (1, .ref (Z.2.2.1 2 g)), (2, .int (nI dp)), (3, .int (nI tk)), (4, .long (lN le)), (7, .int (nI v))]) C dX0_candidates_94 rfl rfl ?_
              refine g_iinc (lv' := [(7, .int (nI (v + 1))), (6, .int (nI (fd ||| 2 ^ v))), (0, .ref (Z.2.2.1 20 0)), (1, .ref (Z.2.2.1 2 g)), (2, .int (nI dp)), (3, .int (nI tk)), (4, .long (lN le))]) C ((nI (v + 1))) dX0_candidates_96 rfl (inc1 _) rfl rfl ?_
              refine g_goto (tgt := 11) C dX0_candidates_99 rfl ?_
              refine g_lv [2, 3, 4, 5, 6, 1, 0] rfl ?_
              exact ih (v + 1) _ _ (by omega) (by omega) (hc.eq (by omega) hop (by omega))
            · refine g_iconst C ((nI 0)) dX0_candidates_73 (by decide) ?_
              refine g_ist (lv' := [(6, .int (nI 0)), (0, .ref (Z.2.2.1 20 0)), (1, .ref (Z.2.2.1 2 g)), (2, .int (nI dp)), (3, .int (nI tk)), (4, .long (lN le)), (7, .int (nI v))]) C dX0_candidates_74 rfl rfl ?_
              refine g_aldn C dX0_candidates_76 rfl ?_
              refine g_get C 20 0 (by decide) (by decide) u0 rfl 0 rfl fX0_11 rfl rfl dX0_candidates_77 ?_
              refine g_ildn C dX0_candidates_80 rfl ?_
              refine g_aald C 21 0 4 (by decide) (by decide) (fun _ _ => rfl) rfl rfl dp (show dp < 9 by omega) rfl dX0_candidates_81 ?_
              refine g_ild C dX0_candidates_82 rfl ?_
              refine g_lald C 22 dp (by decide) (show dp < 9 by omega) (fun _ _ => rfl) v (show v < 9 by omega) rfl dX0_candidates_84 (v := (lN (r v))) (hrw v (by omega) hbf).1 ?_
              refine g_lst (lv' := [(4, .long (lN (r v))), (6, .int (nI 0)), (0, .ref (Z.2.2.1 20 0)), (1, .ref (Z.2.2.1 2 g)), (2, .int (nI dp)), (3, .int (nI tk)), (7, .int (nI v))]) C dX0_candidates_85 rfl rfl ?_
              refine g_ild C dX0_candidates_87 rfl ?_
              refine g_iconst C ((nI 1)) dX0_candidates_89 (by decide) ?_
              refine g_ild C dX0_candidates_90 rfl ?_
              refine g_ishl (v := (nI (2 ^ v))) C dX0_candidates_92 (shl1 v (by omega)) ?_
              refine g_ior (v := (nI (0 ||| 2 ^ v))) C dX0_candidates_93 (orI _ _) ?_
              refine g_ist (lv' := [(6, .int (nI (0 ||| 2 ^ v))), (4, .long (lN (r v))), (0, .ref (Z.2.2.1 20 0)), (1, .ref (Z.2.2.1 2 g)), (2, .int (nI dp)), (3, .int (nI tk)), (7, .int (nI v))]) C dX0_candidates_94 rfl rfl ?_
              refine g_iinc (lv' := [(7, .int (nI (v + 1))), (6, .int (nI (0 ||| 2 ^ v))), (4, .long (lN (r v))), (0, .ref (Z.2.2.1 20 0)), (1, .ref (Z.2.2.1 2 g)), (2, .int (nI dp)), (3, .int (nI tk))]) C ((nI (v + 1))) dX0_candidates_96 rfl (inc1 _) rfl rfl ?_
              refine g_goto (tgt := 11) C dX0_candidates_99 rfl ?_
              refine g_lv [3, 4, 5, 6, 2, 1, 0] rfl ?_
              exact ih (v + 1) _ _ (by omega) (by omega) (hc.lt (by omega) hop c70)

set_option maxRecDepth 100000 in
set_option maxHeartbeats 4000000 in
/-- candidates -/
theorem c_X0_candidates {l : Launch} {Y : Yk} (hA : AJ Y.2.2) {I : SI} {J : SJ} {n : Nat} {T : Nat → Nat → Nat} {L : Nat → Nat → Nat → Nat} (hv : CV I n T L) {g : Nat} (hg : g < 2) {dp tk : Nat} (hdp : dp < 9) (htk : tk < 2 ^ 9) {lk r : Nat → Nat} (hlk : ∀ v, v < n → I 26 0 v = nI (lk v) ∧ lk v < 2 ^ 9) (hrw : ∀ v, v < n → tk.testBit v = false → J 22 dp v = lN (r v) ∧ r v < 2 ^ 40)  : MX l Y yX0_candidates cX0_candidates 8 (some .int) 0 0 [.ref (Y.2.2 20 0), .ref (Y.2.2 2 g), .int (nI dp), .int (nI tk)] I J (fun v' I' J' => ∃ fd le, v' = some (.int (nI fd)) ∧ I' = I ∧ J' = sK J 23 (up2 (J 23) 0 dp (lN le)) ∧ cnd tk lk r n fd le) := by
  refine MX.of hA (by decide) (own := RX0) rfl rfl rfl ?_
  intro X Z hl hY1 hY2 hY3 C hr
  obtain ⟨D0, ca0, ad0⟩ := Y
  dsimp only at hA hY1 hY2 hY3
  subst hY1; subst hY2; subst hY3; subst hl
  show G X 8 Z (QG X Z _) I J 0 [(0, .ref (Z.2.2.1 20 0)), (1, .ref (Z.2.2.1 2 g)), (2, .int (nI dp)), (3, .int (nI tk))] []
  refine g_ldc2 C qX0_32 dX0_candidates_0 ?_
  refine g_topl (y := lN 1099511627776) rfl ?_
  refine g_lst (lv' := [(4, .long (lN 1099511627776)), (0, .ref (Z.2.2.1 20 0)), (1, .ref (Z.2.2.1 2 g)), (2, .int (nI dp)), (3, .int (nI tk))]) C dX0_candidates_3 rfl rfl ?_
  refine g_iconst C ((nI 0)) dX0_candidates_5 (by decide) ?_
  refine g_ist (lv' := [(6, .int (nI 0)), (4, .long (lN 1099511627776)), (0, .ref (Z.2.2.1 20 0)), (1, .ref (Z.2.2.1 2 g)), (2, .int (nI dp)), (3, .int (nI tk))]) C dX0_candidates_6 rfl rfl ?_
  refine g_iconst C ((nI 0)) dX0_candidates_8 (by decide) ?_
  refine g_ist (lv' := [(7, .int (nI 0)), (6, .int (nI 0)), (4, .long (lN 1099511627776)), (0, .ref (Z.2.2.1 20 0)), (1, .ref (Z.2.2.1 2 g)), (2, .int (nI dp)), (3, .int (nI tk))]) C dX0_candidates_9 rfl rfl ?_
  refine g_lv [3, 4, 5, 6, 2, 1, 0] rfl ?_
  exact l_X0_candidates_11 C hr hv hg hdp htk hlk hrw (n + 1) 0 0 1099511627776 (by omega) (by omega) ⟨by decide, by decide, fun u => ⟨fun q => absurd q (by simp), fun q => absurd q.1 (by omega)⟩, fun u hu => absurd hu (by omega), Or.inl rfl⟩

set_option maxRecDepth 100000 in
set_option maxHeartbeats 4000000 in
/-- isBoundLess -/
theorem c_X0_isBoundLess {l : Launch} {Y : Yk} (hA : AJ Y.2.2) {I : SI} {J : SJ} {n dp v w : Nat} (hn9 : n ≤ 9) (hdp : dp < 9) (hvn : v < n) (hwn : w < n) {A B : Nat → Nat} (hA1 : ∀ i, i < n → J 25 (dp * 9 + v) i = lN (A i) ∧ A i < 2 ^ 60) (hB1 : ∀ i, i < n → J 25 (dp * 9 + w) i = lN (B i) ∧ B i < 2 ^ 60)  : MX l Y yX0_isBoundLess cX0_isBoundLess 6 (some .boolean) 1 40 [.ref (Y.2.2 20 0), .int (nI n), .int (nI dp), .int (nI v), .int (nI w)] I J (fun v' I' J' => (∃ b : Bool, v' = some (.int (bI b)) ∧ (b = true ↔ lx n (A) (B))) ∧ I' = I ∧ J' = J) := by
  refine MX.of hA (by decide) (own := RX0) rfl rfl rfl ?_
  intro X Z hl hY1 hY2 hY3 C hr
  obtain ⟨D0, ca0, ad0⟩ := Y
  dsimp only at hA hY1 hY2 hY3
  subst hY1; subst hY2; subst hY3; subst hl
  show G X 6 Z (QG X Z _) I J 0 [(0, .ref (Z.2.2.1 20 0)), (1, .int (nI n)), (2, .int (nI dp)), (3, .int (nI v)), (4, .int (nI w))] []
  refine g_ildn C dX0_isBoundLess_0 rfl ?_
  refine g_bipush C ((nI 9)) dX0_isBoundLess_1 (by decide) ?_
  refine g_imul (v := (nI (dp * 9))) C dX0_isBoundLess_3 (pk_mul _ _) ?_
  refine g_ist (lv' := [(5, .int (nI (dp * 9))), (0, .ref (Z.2.2.1 20 0)), (1, .int (nI n)), (2, .int (nI dp)), (3, .int (nI v)), (4, .int (nI w))]) C dX0_isBoundLess_4 rfl rfl ?_
  refine g_aldn C dX0_isBoundLess_6 rfl ?_
  refine g_get C 20 0 (by decide) (by decide) u0 rfl 2 rfl fX0_20 rfl rfl dX0_isBoundLess_7 ?_
  refine g_ild C dX0_isBoundLess_10 rfl ?_
  refine g_ildn C dX0_isBoundLess_12 rfl ?_
  refine g_iadd (v := (nI (dp * 9 + v))) C dX0_isBoundLess_13 (nI_add _ _) ?_
  refine g_aald C 24 0 4 (by decide) (by decide) (fun _ _ => rfl) rfl rfl (dp * 9 + v) (show dp * 9 + v < 81 by omega) rfl dX0_isBoundLess_14 ?_
  refine g_aldn C dX0_isBoundLess_15 rfl ?_
  refine g_get C 20 0 (by decide) (by decide) u0 rfl 2 rfl fX0_20 rfl rfl dX0_isBoundLess_16 ?_
  refine g_ild C dX0_isBoundLess_19 rfl ?_
  refine g_ild C dX0_isBoundLess_21 rfl ?_
  refine g_iadd (v := (nI (dp * 9 + w))) C dX0_isBoundLess_23 (nI_add _ _) ?_
  refine g_aald C 24 0 4 (by decide) (by decide) (fun _ _ => rfl) rfl rfl (dp * 9 + w) (show dp * 9 + w < 81 by omega) rfl dX0_isBoundLess_24 ?_
  refine g_ildn C dX0_isBoundLess_25 rfl ?_
  refine g_callN (As := [.ref (Z.2.2.1 25 (dp * 9 + v)), .ref (Z.2.2.1 25 (dp * 9 + w)), .int (nI n)]) (st := []) C (c_X5_compareRows hA (k1 := 25) (r1 := dp * 9 + v) (k2 := 25) (r2 := dp * 9 + w) (m1 := 9) (m2 := 9) (by decide) (show dp * 9 + v < 81 by omega) (by decide) (show dp * 9 + w < 81 by omega) (fun _ _ => rfl) (fun _ _ => rfl) (by omega) (by omega) rfl rfl (A := A) (B := B) hA1 hB1) wX5_compareRows tX5_compareRows C.2.2.2.2.2.1.2 rfl rfl rfl rfl dX0_isBoundLess_26 ?_
  rintro v9 I9 J9 ⟨⟨c, h91, hc⟩, h92, h93⟩
  rw [h91, h92, h93]
  clear h91 h92 h93 v9 I9 J9
  show G X _ Z _ I J 29 [(5, .int (nI (dp * 9))), (0, .ref (Z.2.2.1 20 0)), (1, .int (nI n)), (2, .int (nI dp)), (3, .int (nI v)), (4, .int (nI w))] [.int c]
  refine g_if_ge (tgt := 36) C dX0_isBoundLess_29 rfl (fun c29 => ?_) (fun c29 => ?_)
  · refine g_iconst C ((nI 0)) dX0_isBoundLess_36 (by decide) ?_
    exact g_zreturn C hr (by decide) dX0_isBoundLess_37 ⟨⟨false, rfl, ⟨fun h => absurd h (by decide), fun h => by rcases hc with ⟨e, _⟩ | ⟨_, q⟩ | ⟨_, q⟩; exact absurd c29 (by rw [e]; decide); exact (lx_irr (lx_r h (fun i hi => (q i hi).symm))).elim; exact (lx_irr (lx_tr h q)).elim⟩⟩, rfl, rfl⟩
  · refine g_iconst C ((nI 1)) dX0_isBoundLess_32 (by decide) ?_
    refine g_goto (tgt := 37) C dX0_isBoundLess_33 rfl ?_
    exact g_zreturn C hr (by decide) dX0_isBoundLess_37 ⟨⟨true, rfl, ⟨fun _ => by rcases hc with ⟨_, q⟩ | ⟨e, _⟩ | ⟨e, _⟩; exact q; exact absurd (by rw [e]; decide) c29; exact absurd (by rw [e]; decide) c29, fun _ => rfl⟩⟩, rfl, rfl⟩

set_option maxRecDepth 100000 in
set_option maxHeartbeats 4000000 in
/-- promisesLess -/
theorem c_X0_promisesLess {l : Launch} {Y : Yk} (hA : AJ Y.2.2) {I : SI} {J : SJ} {n : Nat} {T : Nat → Nat → Nat} {L : Nat → Nat → Nat → Nat} (hv : CV I n T L) {g : Nat} (hg : g < 2) {dp v : Nat} (hdp : dp < 9) (hvn : v < n) {A B : Nat → Nat} (hA1 : ∀ i, i < n → J 25 (dp * 9 + v) i = lN (A i) ∧ A i < 2 ^ 60) (hB1 : ∀ i, i < n → J 9 g i = lN (B i) ∧ B i < 2 ^ 60)  : MX l Y yX0_promisesLess cX0_promisesLess 4 (some .boolean) 1 40 [.ref (Y.2.2 20 0), .ref (Y.2.2 2 g), .int (nI dp), .int (nI v)] I J (fun v' I' J' => (∃ b : Bool, v' = some (.int (bI b)) ∧ (b = true ↔ lx n (A) (B))) ∧ I' = I ∧ J' = J) := by
  refine MX.of hA (by decide) (own := RX0) rfl rfl rfl ?_
  intro X Z hl hY1 hY2 hY3 C hr
  obtain ⟨D0, ca0, ad0⟩ := Y
  dsimp only at hA hY1 hY2 hY3
  subst hY1; subst hY2; subst hY3; subst hl
  show G X 4 Z (QG X Z _) I J 0 [(0, .ref (Z.2.2.1 20 0)), (1, .ref (Z.2.2.1 2 g)), (2, .int (nI dp)), (3, .int (nI v))] []
  obtain ⟨⟨hn1, hn9⟩, -⟩ := id hv
  refine g_aldn C dX0_promisesLess_0 rfl ?_
  refine g_get C 20 0 (by decide) (by decide) u0 rfl 2 rfl fX0_20 rfl rfl dX0_promisesLess_1 ?_
  refine g_ildn C dX0_promisesLess_4 rfl ?_
  refine g_bipush C ((nI 9)) dX0_promisesLess_5 (by decide) ?_
  refine g_imul (v := (nI (dp * 9))) C dX0_promisesLess_7 (pk_mul _ _) ?_
  refine g_ildn C dX0_promisesLess_8 rfl ?_
  refine g_iadd (v := (nI (dp * 9 + v))) C dX0_promisesLess_9 (nI_add _ _) ?_
  refine g_aald C 24 0 4 (by decide) (by decide) (fun _ _ => rfl) rfl rfl (dp * 9 + v) (show dp * 9 + v < 81 by omega) rfl dX0_promisesLess_10 ?_
  refine g_aldn C dX0_promisesLess_11 rfl ?_
  refine g_get C 2 g (by decide) (show g < 2 by omega) u1 rfl 7 rfl fX0_27 rfl rfl dX0_promisesLess_12 ?_
  refine g_aldn C dX0_promisesLess_15 rfl ?_
  refine g_get C 2 g (by decide) (show g < 2 by omega) u1 rfl 0 rfl fX0_40 rfl rfl dX0_promisesLess_16 ?_
  refine g_top (y := (nI n)) (hv.sz hg) ?_
  refine g_callN (As := [.ref (Z.2.2.1 25 (dp * 9 + v)), .ref (Z.2.2.1 9 g), .int (nI n)]) (st := []) C (c_X5_compareRows hA (k1 := 25) (r1 := dp * 9 + v) (k2 := 9) (r2 := g) (m1 := 9) (m2 := 9) (by decide) (show dp * 9 + v < 81 by omega) (by decide) (show g < 2 by omega) (fun _ _ => rfl) (fun _ _ => rfl) (by omega) (by omega) rfl rfl (A := A) (B := B) hA1 hB1) wX5_compareRows tX5_compareRows C.2.2.2.2.2.1.2 rfl rfl rfl rfl dX0_promisesLess_19 ?_
  rintro v9 I9 J9 ⟨⟨c, h91, hc⟩, h92, h93⟩
  rw [h91, h92, h93]
  clear h91 h92 h93 v9 I9 J9
  show G X _ Z _ I J 22 [(0, .ref (Z.2.2.1 20 0)), (1, .ref (Z.2.2.1 2 g)), (2, .int (nI dp)), (3, .int (nI v))] [.int c]
  refine g_if_ge (tgt := 29) C dX0_promisesLess_22 rfl (fun c22 => ?_) (fun c22 => ?_)
  · refine g_iconst C ((nI 0)) dX0_promisesLess_29 (by decide) ?_
    exact g_zreturn C hr (by decide) dX0_promisesLess_30 ⟨⟨false, rfl, ⟨fun h => absurd h (by decide), fun h => by rcases hc with ⟨e, _⟩ | ⟨_, q⟩ | ⟨_, q⟩; exact absurd c22 (by rw [e]; decide); exact (lx_irr (lx_r h (fun i hi => (q i hi).symm))).elim; exact (lx_irr (lx_tr h q)).elim⟩⟩, rfl, rfl⟩
  · refine g_iconst C ((nI 1)) dX0_promisesLess_25 (by decide) ?_
    refine g_goto (tgt := 30) C dX0_promisesLess_26 rfl ?_
    exact g_zreturn C hr (by decide) dX0_promisesLess_30 ⟨⟨true, rfl, ⟨fun _ => by rcases hc with ⟨_, q⟩ | ⟨e, _⟩ | ⟨e, _⟩; exact q; exact absurd (by rw [e]; decide) c22; exact absurd (by rw [e]; decide) c22, fun _ => rfl⟩⟩, rfl, rfl⟩

/-- z is the place of the least bound among the open ones below j; - 1 if none is open -/
def lst (n : Nat) (op : Nat) (b : Nat → Nat → Nat) (j : Nat) (z : Int32) : Prop := (z = -1 ∧ ∀ u, u < j → op.testBit u = false) ∨ ∃ l, z = nI l ∧ l < j ∧ op.testBit l = true ∧ ∀ u, u < j → op.testBit u = true → ¬ lx n (b u) (b l)
set_option maxRecDepth 100000 in
set_option maxHeartbeats 4000000 in
theorem l_X0_leastBounded_6 {X : Pk} {Z : Zk} {I : SI} {J : SJ} (hA : AJ Z.2.2.1) (C : Cx X cX0_leastBounded 6 RX0 Z 2 80) (hr : (xE X).sig.returnType = some .int) {n dp op : Nat} (hn9 : n ≤ 9) (hdp : dp < 9) (hop : op < 2 ^ 9) {b : Nat → Nat → Nat} (hb : ∀ v, v < n → op.testBit v = true → ∀ i, i < n → J 25 (dp * 9 + v) i = lN (b v i) ∧ b v i < 2 ^ 60) : ∀ k v z, n - v < k → v ≤ n → lst n op b v z → G X 6 Z (QG X Z (fun v' I' J' => (∃ z : Int32, v' = some (.int z) ∧ lst n op b n z) ∧ I' = I ∧ J' = J)) I J 6 [(0, .ref (Z.2.2.1 20 0)), (1, .int (nI n)), (2, .int (nI dp)), (3, .int (nI op)), (4, .int z), (5, .int (nI v))] [] := by
  intro k
  induction k with
  | zero => intro v z h; exact absurd h (by omega)
  | succ k ih =>
    intro v z hk hvn hz
    have hdv : op / 2 ^ v ≤ op := Nat.div_le_self _ _
    rcases hz with ⟨rfl, hno⟩ | ⟨l, rfl, h1, h2, h3⟩
    · refine g_ild C dX0_leastBounded_6 rfl ?_
      refine g_ildn C dX0_leastBounded_8 rfl ?_
      refine n_icmp_ge (tgt := 50) C dX0_leastBounded_9 rfl (by omega) (by omega) (fun c9 => ?_) (fun c9 => ?_)
      · refine g_ild C dX0_leastBounded_50 rfl ?_
        exact g_ireturn C hr dX0_leastBounded_52 ⟨⟨_, rfl, (show v = n by omega) ▸ (Or.inl ⟨rfl, hno⟩ : lst n op b v (-1))⟩, rfl, rfl⟩
      · refine g_ildn C dX0_leastBounded_12 rfl ?_
        refine g_ild C dX0_leastBounded_13 rfl ?_
        refine g_ishr (v := (nI (op / 2 ^ v))) C dX0_leastBounded_15 (shrI (by omega) (by omega)) ?_
        refine g_iconst C ((nI 1)) dX0_leastBounded_16 (by decide) ?_
        refine g_iand (v := (nI (op / 2 ^ v % 2))) C dX0_leastBounded_17 (and1 _) ?_
        refine g_iconst C ((nI 1)) dX0_leastBounded_18 (by decide) ?_
        refine n_icmp_ne (tgt := 44) C dX0_leastBounded_19 rfl (by omega) (by omega) (fun c19 => ?_) (fun c19 => ?_)
        · refine g_iinc (lv' := [(5, .int (nI (v + 1))), (0, .ref (Z.2.2.1 20 0)), (1, .int (nI n)), (2, .int (nI dp)), (3, .int (nI op)), (4, .int (-1))]) C ((nI (v + 1))) dX0_leastBounded_44 rfl (inc1 _) rfl rfl ?_
          refine g_goto (tgt := 6) C dX0_leastBounded_47 rfl ?_
          refine g_lv [1, 2, 3, 4, 5, 0] rfl ?_
          exact ih (v + 1) _ (by omega) (by omega) (Or.inl ⟨rfl, fun u hu => by rcases Nat.lt_or_eq_of_le (Nat.le_of_lt_succ hu) with e | e; exact hno u e; subst e; exact bit_f c19⟩)
        · have hbv : op.testBit v = true := bit_t c19
          refine g_ild C dX0_leastBounded_22 rfl ?_
          refine g_if_lt (tgt := 40) C dX0_leastBounded_24 rfl (fun c24 => ?_) (fun c24 => absurd (by decide) c24)
          · refine g_ild C dX0_leastBounded_40 rfl ?_
            refine g_ist (lv' := [(4, .int (nI v)), (0, .ref (Z.2.2.1 20 0)), (1, .int (nI n)), (2, .int (nI dp)), (3, .int (nI op)), (5, .int (nI v))]) C dX0_leastBounded_42 rfl rfl ?_
            refine g_iinc (lv' := [(5, .int (nI (v + 1))), (4, .int (nI v)), (0, .ref (Z.2.2.1 20 0)), (1, .int (nI n)), (2, .int (nI dp)), (3, .int (nI op))]) C ((nI (v + 1))) dX0_leastBounded_44 rfl (inc1 _) rfl rfl ?_
            refine g_goto (tgt := 6) C dX0_leastBounded_47 rfl ?_
            refine g_lv [2, 3, 4, 5, 1, 0] rfl ?_
            exact ih (v + 1) _ (by omega) (by omega) (Or.inr ⟨v, rfl, by omega, hbv, fun u hu h => by rcases Nat.lt_or_eq_of_le (Nat.le_of_lt_succ hu) with e | e; exact absurd h (by rw [hno u e]; decide); subst e; exact lx_irr⟩)
    · refine g_ild C dX0_leastBounded_6 rfl ?_
      refine g_ildn C dX0_leastBounded_8 rfl ?_
      refine n_icmp_ge (tgt := 50) C dX0_leastBounded_9 rfl (by omega) (by omega) (fun c9 => ?_) (fun c9 => ?_)
      · refine g_ild C dX0_leastBounded_50 rfl ?_
        exact g_ireturn C hr dX0_leastBounded_52 ⟨⟨_, rfl, (show v = n by omega) ▸ (Or.inr ⟨l, rfl, h1, h2, h3⟩ : lst n op b v (nI l))⟩, rfl, rfl⟩
      · refine g_ildn C dX0_leastBounded_12 rfl ?_
        refine g_ild C dX0_leastBounded_13 rfl ?_
        refine g_ishr (v := (nI (op / 2 ^ v))) C dX0_leastBounded_15 (shrI (by omega) (by omega)) ?_
        refine g_iconst C ((nI 1)) dX0_leastBounded_16 (by decide) ?_
        refine g_iand (v := (nI (op / 2 ^ v % 2))) C dX0_leastBounded_17 (and1 _) ?_
        refine g_iconst C ((nI 1)) dX0_leastBounded_18 (by decide) ?_
        refine n_icmp_ne (tgt := 44) C dX0_leastBounded_19 rfl (by omega) (by omega) (fun c19 => ?_) (fun c19 => ?_)
        · refine g_iinc (lv' := [(5, .int (nI (v + 1))), (0, .ref (Z.2.2.1 20 0)), (1, .int (nI n)), (2, .int (nI dp)), (3, .int (nI op)), (4, .int (nI l))]) C ((nI (v + 1))) dX0_leastBounded_44 rfl (inc1 _) rfl rfl ?_
          refine g_goto (tgt := 6) C dX0_leastBounded_47 rfl ?_
          refine g_lv [1, 2, 3, 4, 5, 0] rfl ?_
          exact ih (v + 1) _ (by omega) (by omega) (Or.inr ⟨l, rfl, by omega, h2, fun u hu h => by rcases Nat.lt_or_eq_of_le (Nat.le_of_lt_succ hu) with e | e; exact h3 u e h; subst e; first | exact absurd h (by rw [bit_f c19]; decide) | exact (fun q2 => absurd (hq.mpr q2) (by rw [c37]; decide))⟩)
        · have hbv : op.testBit v = true := bit_t c19
          refine g_ild C dX0_leastBounded_22 rfl ?_
          refine n_if_lt (tgt := 40) C dX0_leastBounded_24 rfl (by omega) (fun c24 => absurd c24 (by omega)) (fun c24 => ?_)
          · refine g_aldn C dX0_leastBounded_27 rfl ?_
            refine g_ildn C dX0_leastBounded_28 rfl ?_
            refine g_ildn C dX0_leastBounded_29 rfl ?_
            refine g_ild C dX0_leastBounded_30 rfl ?_
            refine g_ild C dX0_leastBounded_32 rfl ?_
            refine g_callV (As := [.int (nI n), .int (nI dp), .int (nI v), .int (nI l)]) (st := []) C (c_X0_isBoundLess hA hn9 hdp (show v < n by omega) (show l < n by omega) (A := b v) (B := b l) (hb v (by omega) hbv) (hb l (by omega) h2)) wX0_isBoundLess iX0_isBoundLess sX0_isBoundLess mX0_92 20 0 (by decide) (by decide) rfl rfl rfl rfl rfl rfl rfl rfl dX0_leastBounded_34 ?_
            rintro v9 I9 J9 ⟨⟨q, h91, hq⟩, h92, h93⟩
            rw [h91, h92, h93]
            clear h91 h92 h93 v9 I9 J9
            show G X _ Z _ I J 37 [(0, .ref (Z.2.2.1 20 0)), (1, .int (nI n)), (2, .int (nI dp)), (3, .int (nI op)), (4, .int (nI l)), (5, .int (nI v))] [.int (bI q)]
            refine b_if_eq (tgt := 44) C dX0_leastBounded_37 rfl (fun c37 => ?_) (fun c37 => ?_)
            · refine g_iinc (lv' := [(5, .int (nI (v + 1))), (0, .ref (Z.2.2.1 20 0)), (1, .int (nI n)), (2, .int (nI dp)), (3, .int (nI op)), (4, .int (nI l))]) C ((nI (v + 1))) dX0_leastBounded_44 rfl (inc1 _) rfl rfl ?_
              refine g_goto (tgt := 6) C dX0_leastBounded_47 rfl ?_
              refine g_lv [1, 2, 3, 4, 5, 0] rfl ?_
              exact ih (v + 1) _ (by omega) (by omega) (Or.inr ⟨l, rfl, by omega, h2, fun u hu h => by rcases Nat.lt_or_eq_of_le (Nat.le_of_lt_succ hu) with e | e; exact h3 u e h; subst e; first | exact absurd h (by rw [bit_f c19]; decide) | exact (fun q2 => absurd (hq.mpr q2) (by rw [c37]; decide))⟩)
            · refine g_ild C dX0_leastBounded_40 rfl ?_
              refine g_ist (lv' := [(4, .int (nI v)), (0, .ref (Z.2.2.1 20 0)), (1, .int (nI n)), (2, .int (nI dp)), (3, .int (nI op)), (5, .int (nI v))]) C dX0_leastBounded_42 rfl rfl ?_
              refine g_iinc (lv' := [(5, .int (nI (v + 1))), (4, .int (nI v)), (0, .ref (Z.2.2.1 20 0)), (1, .int (nI n)), (2, .int (nI dp)), (3, .int (nI op))]) C ((nI (v + 1))) dX0_leastBounded_44 rfl (inc1 _) rfl rfl ?_
              refine g_goto (tgt := 6) C dX0_leastBounded_47 rfl ?_
              refine g_lv [2, 3, 4, 5, 1, 0] rfl ?_
              exact ih (v + 1) _ (by omega) (by omega) (Or.inr ⟨v, rfl, by omega, hbv, fun u hu h => by rcases Nat.lt_or_eq_of_le (Nat.le_of_lt_succ hu) with e | e; exact fun q2 => h3 u e h (lx_tr q2 (hq.mp c37)); subst e; exact lx_irr⟩)

set_option maxRecDepth 100000 in
set_option maxHeartbeats 4000000 in
/-- leastBounded -/
theorem c_X0_leastBounded {l : Launch} {Y : Yk} (hA : AJ Y.2.2) {I : SI} {J : SJ} {n dp op : Nat} (hn9 : n ≤ 9) (hdp : dp < 9) (hop : op < 2 ^ 9) {b : Nat → Nat → Nat} (hb : ∀ v, v < n → op.testBit v = true → ∀ i, i < n → J 25 (dp * 9 + v) i = lN (b v i) ∧ b v i < 2 ^ 60)  : MX l Y yX0_leastBounded cX0_leastBounded 6 (some .int) 2 80 [.ref (Y.2.2 20 0), .int (nI n), .int (nI dp), .int (nI op)] I J (fun v' I' J' => (∃ z : Int32, v' = some (.int z) ∧ lst n op b n z) ∧ I' = I ∧ J' = J) := by
  refine MX.of hA (by decide) (own := RX0) rfl rfl rfl ?_
  intro X Z hl hY1 hY2 hY3 C hr
  obtain ⟨D0, ca0, ad0⟩ := Y
  dsimp only at hA hY1 hY2 hY3
  subst hY1; subst hY2; subst hY3; subst hl
  show G X 6 Z (QG X Z _) I J 0 [(0, .ref (Z.2.2.1 20 0)), (1, .int (nI n)), (2, .int (nI dp)), (3, .int (nI op))] []
  refine g_iconst C ((-1)) dX0_leastBounded_0 (by decide) ?_
  refine g_ist (lv' := [(4, .int (-1)), (0, .ref (Z.2.2.1 20 0)), (1, .int (nI n)), (2, .int (nI dp)), (3, .int (nI op))]) C dX0_leastBounded_1 rfl rfl ?_
  refine g_iconst C ((nI 0)) dX0_leastBounded_3 (by decide) ?_
  refine g_ist (lv' := [(5, .int (nI 0)), (4, .int (-1)), (0, .ref (Z.2.2.1 20 0)), (1, .int (nI n)), (2, .int (nI dp)), (3, .int (nI op))]) C dX0_leastBounded_4 rfl rfl ?_
  refine g_lv [2, 3, 4, 5, 1, 0] rfl ?_
  exact l_X0_leastBounded_6 hA C hr hn9 hdp hop hb (n + 1) 0 _ (by omega) (by omega) (Or.inl ⟨rfl, fun u hu => absurd hu (by omega)⟩)
end
section
/-! ===== FormFinder: bound ===== -/
/-- the rest: neither v nor taken -/
def sel (tk v : Nat) (a : Nat) : Bool := decide (a ≠ v) && !tk.testBit a
theorem sel_t {tk v a : Nat} (h1 : a ≠ v) (h2 : tk.testBit a = false) : sel tk v a = true := by unfold sel; rw [decide_eq_true h1, h2]; rfl
theorem sel_v {tk v a : Nat} (h : a = v) : sel tk v a = false := by unfold sel; rw [decide_eq_false (fun q => q h)]; rfl
theorem sel_f {tk v a : Nat} (h : tk.testBit a = true) : sel tk v a = false := by unfold sel; rw [h]; cases decide (a ≠ v) <;> rfl
/-- only row R of the bounds, and there behind place dp, is another -/
def bD (J : SJ) (dp R : Nat) (D : Nat → Nat → Int64) : Prop := (∀ r, r ≠ R → D r = J 25 r) ∧ ∀ i, i ≤ dp → D R i = J 23 0 i
/-- s is what stands behind place dp: the values y of the chosen ones below w, in order -/
def bS (tk v : Nat) (y : Nat → Nat) (YB w m : Nat) (s : Nat → Nat) : Prop := m = ct (sel tk v) w ∧ srt s m ∧ (∀ j, j < m → s j < YB) ∧ ∀ q : Nat → Bool, ct (fun j => q (s j)) m = ct (fun a => sel tk v a && q (y a)) w
theorem bS.no {tk v YB w m : Nat} {y s : Nat → Nat} (h : bS tk v y YB w m s) (hn : sel tk v w = false) : bS tk v y YB (w + 1) m s :=
  ⟨by rw [ct_f hn]; exact h.1, h.2.1, h.2.2.1, fun q => by rw [ct_f (p := fun a => sel tk v a && q (y a)) (by rw [hn]; rfl)]; exact h.2.2.2 q⟩
theorem bS.put {tk v YB w m a : Nat} {y s : Nat → Nat} (h : bS tk v y YB w m s) (hs : sel tk v w = true) (hy : y w < YB) (ha : a ≤ m) (h1 : a = 0 ∨ s (a - 1) ≤ y w) (h2 : ∀ j, a ≤ j → j < m → y w < s j) : bS tk v y YB (w + 1) (m + 1) (ins s a (y w)) := by
  refine ⟨by rw [ct_t hs, ← h.1], ins_srt h.2.1 ha h1 h2, fun j hj => ?_, fun q => ?_⟩
  · rcases Nat.lt_trichotomy j a with e | e | e
    · rw [ins_lt e]; exact h.2.2.1 j (by omega)
    · subst e; rw [ins_at]; exact hy
    · obtain ⟨i, rfl⟩ : ∃ i, j = i + 1 := ⟨j - 1, by omega⟩
      rw [ins_gt (by omega)]; exact h.2.2.1 i (by omega)
  · rw [ct_ins q s a (y w) m ha, h.2.2.2 q, ct_s (fun a => sel tk v a && q (y a)) w, hs]
    rfl
set_option maxRecDepth 100000 in
set_option maxHeartbeats 4000000 in
theorem l_X0_bound_77 {X : Pk} {Z : Zk} {fr lo : Nat} {Q : State → Prop} {I : SI} {J : SJ} (C : Cx X cX0_bound 11 RX0 Z fr lo) {n g dp tk v w m : Nat} {L : Nat → Nat → Nat → Nat} {r s : Nat → Nat} (hn9 : n ≤ 9) (hvn : v < n) (hdp : dp + 1 + m < n) (hs : ∀ j, j < m → s j < 2 ^ 40) (hx : r w * 16 + pr L g w v < 2 ^ 40) (hex : ∀ a D, a ≤ m → bD J dp (dp * 9 + v) D → (∀ j, j < a → D (dp * 9 + v) (dp + 1 + j) = lN (s j)) → (∀ j, a ≤ j → j < m → D (dp * 9 + v) (dp + 1 + j + 1) = lN (s j)) → (∀ j, a ≤ j → j < m → r w * 16 + pr L g w v < s j) → (a = 0 ∨ s (a - 1) ≤ r w * 16 + pr L g w v) → G X 11 Z Q I (sK J 25 D) 116 [(0, .ref (Z.2.2.1 20 0)), (1, .ref (Z.2.2.1 2 g)), (2, .int (nI dp)), (3, .int (nI tk)), (4, .int (nI v)), (5, .ref (Z.2.2.1 25 (dp * 9 + v))), (6, .int (nI (dp + 1 + m))), (7, .int (nI w)), (8, .long (lN (r w * 16 + pr L g w v))), (10, .int (nI (dp + 1 + a)))] []) : ∀ k a D, a < k → a ≤ m → bD J dp (dp * 9 + v) D → (∀ j, j < a → D (dp * 9 + v) (dp + 1 + j) = lN (s j)) → (∀ j, a ≤ j → j < m → D (dp * 9 + v) (dp + 1 + j + 1) = lN (s j)) → (∀ j, a ≤ j → j < m → r w * 16 + pr L g w v < s j) → G X 11 Z Q I (sK J 25 D) 77 [(0, .ref (Z.2.2.1 20 0)), (1, .ref (Z.2.2.1 2 g)), (2, .int (nI dp)), (3, .int (nI tk)), (4, .int (nI v)), (5, .ref (Z.2.2.1 25 (dp * 9 + v))), (6, .int (nI (dp + 1 + m))), (7, .int (nI w)), (8, .long (lN (r w * 16 + pr L g w v))), (10, .int (nI (dp + 1 + a)))] [] := by
  intro k
  induction k with
  | zero => intro a D h; exact absurd h (by omega)
  | succ k ih =>
    intro a D hk ham hD1 hD3 hD4 h5
    have hsa : 0 < a → s (a - 1) < 2 ^ 40 := fun h => hs _ (by omega)
    refine g_ild C dX0_bound_77 rfl ?_
    refine g_ildn C dX0_bound_79 rfl ?_
    refine g_iconst C ((nI 1)) dX0_bound_80 (by decide) ?_
    refine g_iadd (v := (nI (dp + 1))) C dX0_bound_81 (nI_add _ _) ?_
    refine n_icmp_le (tgt := 116) C dX0_bound_82 rfl (by omega) (by omega) (fun c82 => ?_) (fun c82 => ?_)
    · refine g_lv [0, 1, 2, 3, 4, 5, 6, 7, 8, 9] rfl ?_
      exact hex a D ham hD1 hD3 hD4 h5 (by first | exact Or.inl (by omega) | exact Or.inr c95)
    · refine g_ald C dX0_bound_85 rfl ?_
      refine g_ild C dX0_bound_87 rfl ?_
      refine g_iconst C ((nI 1)) dX0_bound_89 (by decide) ?_
      refine g_isub (v := (nI (dp + 1 + a - 1))) C dX0_bound_90 (pk_sub (by omega)) ?_
      refine g_lald C 25 (dp * 9 + v) (by decide) (show dp * 9 + v < 81 by omega) (fun _ _ => rfl) (dp + 1 + a - 1) (show dp + 1 + a - 1 < 9 by omega) rfl dX0_bound_91 (v := (lN (s (a - 1)))) (by have := hD3 (a - 1) (by omega); rw [sK_self, show dp + 1 + a - 1 = dp + 1 + (a - 1) by omega]; exact this) ?_
      refine g_lld C dX0_bound_92 rfl ?_
      refine g_lcmp (v := (cmpN (s (a - 1)) (r w * 16 + pr L g w v))) C dX0_bound_94 (lcmpN (by omega) (by omega)) ?_
      refine c_if_le (tgt := 116) C dX0_bound_95 rfl (fun c95 => ?_) (fun c95 => ?_)
      · refine g_lv [0, 1, 2, 3, 4, 5, 6, 7, 8, 9] rfl ?_
        exact hex a D ham hD1 hD3 hD4 h5 (by first | exact Or.inl (by omega) | exact Or.inr c95)
      · refine g_ald C dX0_bound_98 rfl ?_
        refine g_ild C dX0_bound_100 rfl ?_
        refine g_ald C dX0_bound_102 rfl ?_
        refine g_ild C dX0_bound_104 rfl ?_
        refine g_iconst C ((nI 1)) dX0_bound_106 (by decide) ?_
        refine g_isub (v := (nI (dp + 1 + a - 1))) C dX0_bound_107 (pk_sub (by omega)) ?_
        refine g_lald C 25 (dp * 9 + v) (by decide) (show dp * 9 + v < 81 by omega) (fun _ _ => rfl) (dp + 1 + a - 1) (show dp + 1 + a - 1 < 9 by omega) rfl dX0_bound_108 (v := (lN (s (a - 1)))) (by have := hD3 (a - 1) (by omega); rw [sK_self, show dp + 1 + a - 1 = dp + 1 + (a - 1) by omega]; exact this) ?_
        refine g_last C 25 (dp * 9 + v) (by decide) (show dp * 9 + v < 81 by omega) (fun _ _ => rfl) (dp + 1 + a) (show dp + 1 + a < 9 by omega) rfl dX0_bound_109 ?_
        refine g_J (J1 := sK J 25 (up2 D (dp * 9 + v) (dp + 1 + a) (lN (s (a - 1))))) (by rw [sK_self, sK_sK]) ?_
        refine g_iinc (lv' := [(10, .int (nI (dp + 1 + a - 1))), (0, .ref (Z.2.2.1 20 0)), (1, .ref (Z.2.2.1 2 g)), (2, .int (nI dp)), (3, .int (nI tk)), (4, .int (nI v)), (5, .ref (Z.2.2.1 25 (dp * 9 + v))), (6, .int (nI (dp + 1 + m))), (7, .int (nI w)), (8, .long (lN (r w * 16 + pr L g w v)))]) C ((nI (dp + 1 + a - 1))) dX0_bound_110 rfl (dec1 (by omega)) rfl rfl ?_
        refine g_goto (tgt := 77) C dX0_bound_113 rfl ?_
        refine g_lv (lv1 := [(0, .ref (Z.2.2.1 20 0)), (1, .ref (Z.2.2.1 2 g)), (2, .int (nI dp)), (3, .int (nI tk)), (4, .int (nI v)), (5, .ref (Z.2.2.1 25 (dp * 9 + v))), (6, .int (nI (dp + 1 + m))), (7, .int (nI w)), (8, .long (lN (r w * 16 + pr L g w v))), (10, .int (nI (dp + 1 + (a - 1))))]) [1, 2, 3, 4, 5, 6, 7, 8, 9, 0] (by rw [show dp + 1 + (a - 1) = dp + 1 + a - 1 by omega]; rfl) ?_
        refine ih (a - 1) _ (by omega) (by omega) ⟨fun r0 hr0 => by rw [up2_row hr0]; exact hD1.1 r0 hr0, fun i hi => by rw [up2_ne (by omega)]; exact hD1.2 i hi⟩ (fun j hj => by rw [up2_ne (by omega)]; exact hD3 j (by omega)) (fun j hj hj2 => ?_) (fun j hj hj2 => ?_)
        · by_cases e : j = a - 1
          · subst e; rw [show dp + 1 + (a - 1) + 1 = dp + 1 + a by omega, up2_self]
          · rw [up2_ne (by omega)]; exact hD4 j (by omega) hj2
        · by_cases e : j = a - 1
          · subst e; exact c95
          · exact h5 j (by omega) hj2

set_option maxRecDepth 100000 in
set_option maxHeartbeats 4000000 in
theorem l_X0_bound_36 {X : Pk} {Z : Zk} {I : SI} {J : SJ} (hA : AJ Z.2.2.1) (C : Cx X cX0_bound 11 RX0 Z 2 80) {Q : State → Prop} {n : Nat} {T : Nat → Nat → Nat} {L : Nat → Nat → Nat → Nat} (hv : CV I n T L) {g : Nat} (hg : g < 2) {dp tk v : Nat} (hdp : dp < 9) (htk : tk < 2 ^ 9) (hvn : v < n) {r : Nat → Nat} (hrw : ∀ a, a < n → tk.testBit a = false → J 22 dp a = lN (r a)) {YB : Nat} (hYB : YB ≤ 2 ^ 40) (hy : ∀ a, a < n → tk.testBit a = false → r a * 16 + pr L g a v < YB) (hcnt : ct (sel tk v) n + (dp + 1) ≤ n) (hex : ∀ m s D, bD J dp (dp * 9 + v) D → bS tk v (fun a => r a * 16 + pr L g a v) YB n m s → (∀ j, j < m → D (dp * 9 + v) (dp + 1 + j) = lN (s j)) → G X 11 Z Q I (sK J 25 D) 132 [(0, .ref (Z.2.2.1 20 0)), (1, .ref (Z.2.2.1 2 g)), (2, .int (nI dp)), (3, .int (nI tk)), (4, .int (nI v)), (5, .ref (Z.2.2.1 25 (dp * 9 + v))), (6, .int (nI (dp + 1 + m)))] []) : ∀ k w m s D, n - w < k → w ≤ n → bD J dp (dp * 9 + v) D → bS tk v (fun a => r a * 16 + pr L g a v) YB w m s → (∀ j, j < m → D (dp * 9 + v) (dp + 1 + j) = lN (s j)) → G X 11 Z Q I (sK J 25 D) 36 [(0, .ref (Z.2.2.1 20 0)), (1, .ref (Z.2.2.1 2 g)), (2, .int (nI dp)), (3, .int (nI tk)), (4, .int (nI v)), (5, .ref (Z.2.2.1 25 (dp * 9 + v))), (6, .int (nI (dp + 1 + m))), (7, .int (nI w))] [] := by
  obtain ⟨⟨hn1, hn9⟩, -⟩ := id hv
  intro k
  induction k with
  | zero => intro w m s D h; exact absurd h (by omega)
  | succ k ih =>
    intro w m s D hk hwn hD1 hS hD3
    have hdv : tk / 2 ^ w ≤ tk := Nat.div_le_self _ _
    have hmm := ct_mono (sel tk v) hwn
    rw [← hS.1] at hmm
    refine g_ild C dX0_bound_36 rfl ?_
    refine g_aldn C dX0_bound_38 rfl ?_
    refine g_get C 2 g (by decide) (show g < 2 by omega) u1 rfl 0 rfl fX0_40 rfl rfl dX0_bound_39 ?_
    refine g_top (y := (nI n)) (hv.sz hg) ?_
    refine n_icmp_ge (tgt := 132) C dX0_bound_42 rfl (by omega) (by omega) (fun c42 => ?_) (fun c42 => ?_)
    · have e : w = n := by omega
      subst e
      refine g_lv [0, 1, 2, 3, 4, 5, 6] rfl ?_
      exact hex m s D hD1 hS hD3
    · refine g_ild C dX0_bound_45 rfl ?_
      refine g_ild C dX0_bound_47 rfl ?_
      refine n_icmp_eq (tgt := 126) C dX0_bound_49 rfl (by omega) (by omega) (fun c49 => ?_) (fun c49 => ?_)
      · refine g_iinc (lv' := [(7, .int (nI (w + 1))), (0, .ref (Z.2.2.1 20 0)), (1, .ref (Z.2.2.1 2 g)), (2, .int (nI dp)), (3, .int (nI tk)), (4, .int (nI v)), (5, .ref (Z.2.2.1 25 (dp * 9 + v))), (6, .int (nI (dp + 1 + m)))]) C ((nI (w + 1))) dX0_bound_126 rfl (inc1 _) rfl rfl ?_
        refine g_goto (tgt := 36) C dX0_bound_129 rfl ?_
        refine g_lv [1, 2, 3, 4, 5, 6, 7, 0] rfl ?_
        exact ih (w + 1) m s D (by omega) (by omega) hD1 (hS.no (by first | exact sel_v c49 | exact sel_f (bit_t (by omega)))) hD3
      · refine g_ildn C dX0_bound_52 rfl ?_
        refine g_ild C dX0_bound_53 rfl ?_
        refine g_ishr (v := (nI (tk / 2 ^ w))) C dX0_bound_55 (shrI (by omega) (by omega)) ?_
        refine g_iconst C ((nI 1)) dX0_bound_56 (by decide) ?_
        refine g_iand (v := (nI (tk / 2 ^ w % 2))) C dX0_bound_57 (and1 _) ?_
        refine n_if_ne (tgt := 126) C dX0_bound_58 rfl (by omega) (fun c58 => ?_) (fun c58 => ?_)
        · refine g_iinc (lv' := [(7, .int (nI (w + 1))), (0, .ref (Z.2.2.1 20 0)), (1, .ref (Z.2.2.1 2 g)), (2, .int (nI dp)), (3, .int (nI tk)), (4, .int (nI v)), (5, .ref (Z.2.2.1 25 (dp * 9 + v))), (6, .int (nI (dp + 1 + m)))]) C ((nI (w + 1))) dX0_bound_126 rfl (inc1 _) rfl rfl ?_
          refine g_goto (tgt := 36) C dX0_bound_129 rfl ?_
          refine g_lv [1, 2, 3, 4, 5, 6, 7, 0] rfl ?_
          exact ih (w + 1) m s D (by omega) (by omega) hD1 (hS.no (by first | exact sel_v c49 | exact sel_f (bit_t (by omega)))) hD3
        · have hbf : tk.testBit w = false := bit_f (by omega)
          have hsl : sel tk v w = true := sel_t c49 hbf
          have hyw := hy w (by omega) hbf
          have hm1 := ct_mono (sel tk v) (show w + 1 ≤ n by omega)
          rw [ct_t hsl, ← hS.1] at hm1
          refine g_aldn C dX0_bound_61 rfl ?_
          refine g_aldn C dX0_bound_62 rfl ?_
          refine g_ildn C dX0_bound_63 rfl ?_
          refine g_ild C dX0_bound_64 rfl ?_
          refine g_ild C dX0_bound_66 rfl ?_
          refine g_callV (As := [.ref (Z.2.2.1 2 g), .int (nI dp), .int (nI w), .int (nI v)]) (st := []) C (c_X0_longerRow hA hv hg (dp := dp) (w := w) (v := v) (x := r w) hdp (show w < n by omega) hvn ((congrFun (congrFun (sK_ne (by decide)) dp) w).trans (hrw w (by omega) hbf)) (by omega)) wX0_longerRow iX0_longerRow sX0_longerRow mX0_84 20 0 (by decide) (by decide) rfl rfl rfl rfl rfl rfl rfl rfl dX0_bound_68 ?_
          rintro v9 I9 J9 ⟨h91, h92, h93⟩
          rw [h91, h92, h93]
          clear h91 h92 h93 v9 I9 J9
          show G X _ Z _ I (sK J 25 D) 71 [(0, .ref (Z.2.2.1 20 0)), (1, .ref (Z.2.2.1 2 g)), (2, .int (nI dp)), (3, .int (nI tk)), (4, .int (nI v)), (5, .ref (Z.2.2.1 25 (dp * 9 + v))), (6, .int (nI (dp + 1 + m))), (7, .int (nI w))] [.long (lN (r w * 16 + pr L g w v))]
          refine g_lst (lv' := [(8, .long (lN (r w * 16 + pr L g w v))), (0, .ref (Z.2.2.1 20 0)), (1, .ref (Z.2.2.1 2 g)), (2, .int (nI dp)), (3, .int (nI tk)), (4, .int (nI v)), (5, .ref (Z.2.2.1 25 (dp * 9 + v))), (6, .int (nI (dp + 1 + m))), (7, .int (nI w))]) C dX0_bound_71 rfl rfl ?_
          refine g_ild C dX0_bound_73 rfl ?_
          refine g_ist (lv' := [(10, .int (nI (dp + 1 + m))), (8, .long (lN (r w * 16 + pr L g w v))), (0, .ref (Z.2.2.1 20 0)), (1, .ref (Z.2.2.1 2 g)), (2, .int (nI dp)), (3, .int (nI tk)), (4, .int (nI v)), (5, .ref (Z.2.2.1 25 (dp * 9 + v))), (6, .int (nI (dp + 1 + m))), (7, .int (nI w))]) C dX0_bound_75 rfl rfl ?_
          refine g_lv (lv1 := [(0, .ref (Z.2.2.1 20 0)), (1, .ref (Z.2.2.1 2 g)), (2, .int (nI dp)), (3, .int (nI tk)), (4, .int (nI v)), (5, .ref (Z.2.2.1 25 (dp * 9 + v))), (6, .int (nI (dp + 1 + m))), (7, .int (nI w)), (8, .long (lN (r w * 16 + pr L g w v))), (10, .int (nI (dp + 1 + m)))]) [2, 3, 4, 5, 6, 7, 8, 9, 1, 0] rfl ?_
          refine l_X0_bound_77 (L := L) (r := r) (s := s) C hn9 hvn (by omega) (fun j hj => Nat.lt_of_lt_of_le (hS.2.2.1 j hj) hYB) (by omega) ?_ (m + 1) m D (by omega) (by omega) hD1 hD3 (fun j h1 h2 => absurd h1 (by omega)) (fun j h1 h2 => absurd h1 (by omega))
          clear hD1 hD3 D
          intro a D ham hD1 hD3 hD4 h5 h6
          refine g_ald C dX0_bound_116 rfl ?_
          refine g_ild C dX0_bound_118 rfl ?_
          refine g_lld C dX0_bound_120 rfl ?_
          refine g_last C 25 (dp * 9 + v) (by decide) (show dp * 9 + v < 81 by omega) (fun _ _ => rfl) (dp + 1 + a) (show dp + 1 + a < 9 by omega) rfl dX0_bound_122 ?_
          refine g_J (J1 := sK J 25 (up2 D (dp * 9 + v) (dp + 1 + a) (lN (r w * 16 + pr L g w v)))) (by rw [sK_self, sK_sK]) ?_
          refine g_iinc (lv' := [(6, .int (nI (dp + 1 + m + 1))), (0, .ref (Z.2.2.1 20 0)), (1, .ref (Z.2.2.1 2 g)), (2, .int (nI dp)), (3, .int (nI tk)), (4, .int (nI v)), (5, .ref (Z.2.2.1 25 (dp * 9 + v))), (7, .int (nI w)), (8, .long (lN (r w * 16 + pr L g w v))), (10, .int (nI (dp + 1 + a)))]) C ((nI (dp + 1 + m + 1))) dX0_bound_123 rfl (inc1 _) rfl rfl ?_
          refine g_iinc (lv' := [(7, .int (nI (w + 1))), (6, .int (nI (dp + 1 + m + 1))), (0, .ref (Z.2.2.1 20 0)), (1, .ref (Z.2.2.1 2 g)), (2, .int (nI dp)), (3, .int (nI tk)), (4, .int (nI v)), (5, .ref (Z.2.2.1 25 (dp * 9 + v))), (8, .long (lN (r w * 16 + pr L g w v))), (10, .int (nI (dp + 1 + a)))]) C ((nI (w + 1))) dX0_bound_126 rfl (inc1 _) rfl rfl ?_
          refine g_goto (tgt := 36) C dX0_bound_129 rfl ?_
          refine g_lv (lv1 := [(0, .ref (Z.2.2.1 20 0)), (1, .ref (Z.2.2.1 2 g)), (2, .int (nI dp)), (3, .int (nI tk)), (4, .int (nI v)), (5, .ref (Z.2.2.1 25 (dp * 9 + v))), (6, .int (nI (dp + 1 + (m + 1)))), (7, .int (nI (w + 1)))]) [2, 3, 4, 5, 6, 7, 1, 0] rfl ?_
          refine ih (w + 1) (m + 1) (ins s a (r w * 16 + pr L g w v)) _ (by omega) (by omega) ⟨fun r0 hr0 => by rw [up2_row hr0]; exact hD1.1 r0 hr0, fun i hi => by rw [up2_ne (by omega)]; exact hD1.2 i hi⟩ (hS.put (y := (fun a => r a * 16 + pr L g a v)) hsl hyw ham h6 h5) (fun j hj => ?_)
          rcases Nat.lt_trichotomy j a with e | e | e
          · rw [ins_lt e, up2_ne (by omega)]; exact hD3 j e
          · subst e; rw [ins_at, up2_self]
          · obtain ⟨i, rfl⟩ : ∃ i, j = i + 1 := ⟨j - 1, by omega⟩
            rw [ins_gt (by omega), up2_ne (by omega)]; exact hD4 i (by omega) (by omega)

set_option maxRecDepth 100000 in
set_option maxHeartbeats 4000000 in
theorem l_X0_bound_137 {X : Pk} {Z : Zk} {fr lo : Nat} {I : SI} {J : SJ} (C : Cx X cX0_bound 11 RX0 Z fr lo) (hr : (xE X).sig.returnType = none) {n g dp tk v m YB : Nat} {L : Nat → Nat → Nat → Nat} {r s : Nat → Nat} (hn9 : n ≤ 9) (hvn : v < n) (hdp : dp + 1 + m ≤ n) (hm : m = ct (sel tk v) n) (hS : bS tk v (fun a => r a * 16 + pr L g a v) YB n m s) : ∀ k i D, dp + 1 + m - i < k → dp + 2 ≤ i → i ≤ dp + 2 + m → bD J dp (dp * 9 + v) D → (∀ j, j < m → dp + 1 + j < i → D (dp * 9 + v) (dp + 1 + j) = lN (s j * 16 ^ j)) → (∀ j, j < m → i ≤ dp + 1 + j → D (dp * 9 + v) (dp + 1 + j) = lN (s j)) → G X 11 Z (QG X Z (fun v' I' J' => ∃ (D : Nat → Nat → Int64) (s : Nat → Nat), v' = none ∧ I' = I ∧ J' = sK J 25 D ∧ bD J dp (dp * 9 + v) D ∧ bS tk v (fun a => r a * 16 + pr L g a v) YB n (ct (sel tk v) n) s ∧ ∀ j, j < ct (sel tk v) n → D (dp * 9 + v) (dp + 1 + j) = lN (s j * 16 ^ j))) I (sK J 25 D) 137 [(0, .ref (Z.2.2.1 20 0)), (1, .ref (Z.2.2.1 2 g)), (2, .int (nI dp)), (3, .int (nI tk)), (4, .int (nI v)), (5, .ref (Z.2.2.1 25 (dp * 9 + v))), (6, .int (nI (dp + 1 + m))), (7, .int (nI i))] [] := by
  intro k
  induction k with
  | zero => intro i D h; exact absurd h (by omega)
  | succ k ih =>
    intro i D hk hi hi2 hD1 hD3 hD4
    refine g_ild C dX0_bound_137 rfl ?_
    refine g_ild C dX0_bound_139 rfl ?_
    refine n_icmp_ge (tgt := 166) C dX0_bound_141 rfl (by omega) (by omega) (fun c141 => ?_) (fun c141 => ?_)
    · exact g_return C hr dX0_bound_166 ⟨D, s, rfl, rfl, rfl, hD1, hm ▸ hS, fun j hj => hD3 j (by omega) (by omega)⟩
    · refine g_ald C dX0_bound_144 rfl ?_
      refine g_ild C dX0_bound_146 rfl ?_
      refine g_dup2 C dX0_bound_148 rfl rfl ?_
      refine g_lald C 25 (dp * 9 + v) (by decide) (show dp * 9 + v < 81 by omega) (fun _ _ => rfl) i (show i < 9 by omega) rfl dX0_bound_149 (v := (lN (s (i - (dp + 1))))) (by have := hD4 (i - (dp + 1)) (by omega) (by omega); rw [sK_self, show i = dp + 1 + (i - (dp + 1)) by omega]; rw [show dp + 1 + (i - (dp + 1)) - (dp + 1) = i - (dp + 1) by omega]; exact this) ?_
      refine g_iconst C ((nI 4)) dX0_bound_150 (by decide) ?_
      refine g_ild C dX0_bound_151 rfl ?_
      refine g_ildn C dX0_bound_153 rfl ?_
      refine g_isub (v := (nI (i - dp))) C dX0_bound_154 (pk_sub (by omega)) ?_
      refine g_iconst C ((nI 1)) dX0_bound_155 (by decide) ?_
      refine g_isub (v := (nI (i - dp - 1))) C dX0_bound_156 (pk_sub (by omega)) ?_
      refine g_imul (v := (nI (4 * (i - dp - 1)))) C dX0_bound_157 (pk_mul _ _) ?_
      refine g_lshl (v := (lN (s (i - (dp + 1)) * 2 ^ (4 * (i - dp - 1))))) C dX0_bound_158 (wb_shl _ (by omega)) ?_
      refine g_last C 25 (dp * 9 + v) (by decide) (show dp * 9 + v < 81 by omega) (fun _ _ => rfl) i (show i < 9 by omega) rfl dX0_bound_159 ?_
      refine g_J (J1 := sK J 25 (up2 D (dp * 9 + v) i (lN (s (i - (dp + 1)) * 2 ^ (4 * (i - dp - 1)))))) (by rw [sK_self, sK_sK]) ?_
      refine g_iinc (lv' := [(7, .int (nI (i + 1))), (0, .ref (Z.2.2.1 20 0)), (1, .ref (Z.2.2.1 2 g)), (2, .int (nI dp)), (3, .int (nI tk)), (4, .int (nI v)), (5, .ref (Z.2.2.1 25 (dp * 9 + v))), (6, .int (nI (dp + 1 + m)))]) C ((nI (i + 1))) dX0_bound_160 rfl (inc1 _) rfl rfl ?_
      refine g_goto (tgt := 137) C dX0_bound_163 rfl ?_
      refine g_lv [1, 2, 3, 4, 5, 6, 7, 0] rfl ?_
      refine ih (i + 1) _ (by omega) (by omega) (by omega) ⟨fun r0 hr0 => by rw [up2_row hr0]; exact hD1.1 r0 hr0, fun a ha => by rw [up2_ne (by omega)]; exact hD1.2 a ha⟩ (fun j hj hji => ?_) (fun j hj hji => by rw [up2_ne (by omega)]; exact hD4 j hj (by omega))
      by_cases e : dp + 1 + j = i
      · rw [← e, up2_self, show dp + 1 + j - (dp + 1) = j by omega, show dp + 1 + j - dp - 1 = j by omega, Nat.pow_mul]
      · rw [up2_ne e]; exact hD3 j hj (by omega)

set_option maxRecDepth 100000 in
set_option maxHeartbeats 4000000 in
/-- bound -/
theorem c_X0_bound {l : Launch} {Y : Yk} (hA : AJ Y.2.2) {I : SI} {J : SJ} {n : Nat} {T : Nat → Nat → Nat} {L : Nat → Nat → Nat → Nat} (hv : CV I n T L) {g : Nat} (hg : g < 2) {dp tk v : Nat} (hdp : dp < 9) (htk : tk < 2 ^ 9) (hvn : v < n) {r : Nat → Nat} (hrw : ∀ a, a < n → tk.testBit a = false → J 22 dp a = lN (r a)) {YB : Nat} (hYB : YB ≤ 2 ^ 40) (hy : ∀ a, a < n → tk.testBit a = false → r a * 16 + pr L g a v < YB) (hcnt : ct (sel tk v) n + (dp + 1) ≤ n)  : MX l Y yX0_bound cX0_bound 11 (none) 2 80 [.ref (Y.2.2 20 0), .ref (Y.2.2 2 g), .int (nI dp), .int (nI tk), .int (nI v)] I J (fun v' I' J' => ∃ (D : Nat → Nat → Int64) (s : Nat → Nat), v' = none ∧ I' = I ∧ J' = sK J 25 D ∧ bD J dp (dp * 9 + v) D ∧ bS tk v (fun a => r a * 16 + pr L g a v) YB n (ct (sel tk v) n) s ∧ ∀ j, j < ct (sel tk v) n → D (dp * 9 + v) (dp + 1 + j) = lN (s j * 16 ^ j)) := by
  refine MX.of hA (by decide) (own := RX0) rfl rfl rfl ?_
  intro X Z hl hY1 hY2 hY3 C hr
  obtain ⟨D0, ca0, ad0⟩ := Y
  dsimp only at hA hY1 hY2 hY3
  subst hY1; subst hY2; subst hY3; subst hl
  show G X 11 Z (QG X Z _) I J 0 [(0, .ref (Z.2.2.1 20 0)), (1, .ref (Z.2.2.1 2 g)), (2, .int (nI dp)), (3, .int (nI tk)), (4, .int (nI v))] []
  obtain ⟨⟨hn1, hn9⟩, -⟩ := id hv
  refine g_aldn C dX0_bound_0 rfl ?_
  refine g_get C 20 0 (by decide) (by decide) u0 rfl 2 rfl fX0_20 rfl rfl dX0_bound_1 ?_
  refine g_ildn C dX0_bound_4 rfl ?_
  refine g_bipush C ((nI 9)) dX0_bound_5 (by decide) ?_
  refine g_imul (v := (nI (dp * 9))) C dX0_bound_7 (pk_mul _ _) ?_
  refine g_ild C dX0_bound_8 rfl ?_
  refine g_iadd (v := (nI (dp * 9 + v))) C dX0_bound_10 (nI_add _ _) ?_
  refine g_aald C 24 0 4 (by decide) (by decide) (fun _ _ => rfl) rfl rfl (dp * 9 + v) (show dp * 9 + v < 81 by omega) rfl dX0_bound_11 ?_
  refine g_ast (lv' := [(5, .ref (Z.2.2.1 25 (dp * 9 + v))), (0, .ref (Z.2.2.1 20 0)), (1, .ref (Z.2.2.1 2 g)), (2, .int (nI dp)), (3, .int (nI tk)), (4, .int (nI v))]) C dX0_bound_12 rfl rfl ?_
  refine g_aldn C dX0_bound_14 rfl ?_
  refine g_get C 20 0 (by decide) (by decide) u0 rfl 1 rfl fX0_16 rfl rfl dX0_bound_15 ?_
  refine g_iconst C ((nI 0)) dX0_bound_18 (by decide) ?_
  refine g_ald C dX0_bound_19 rfl ?_
  refine g_iconst C ((nI 0)) dX0_bound_21 (by decide) ?_
  refine g_ildn C dX0_bound_22 rfl ?_
  refine g_iconst C ((nI 1)) dX0_bound_23 (by decide) ?_
  refine g_iadd (v := (nI (dp + 1))) C dX0_bound_24 (nI_add _ _) ?_
  refine g_copyl C mX0_78 23 0 25 (dp * 9 + v) (by decide) (by decide) (by decide) (show dp * 9 + v < 81 by omega) (fun _ _ => rfl) (fun _ _ => rfl) 0 0 (dp + 1) (by omega) (by omega) rfl rfl rfl rfl dX0_bound_25 ?_
  refine g_ildn C dX0_bound_28 rfl ?_
  refine g_iconst C ((nI 1)) dX0_bound_29 (by decide) ?_
  refine g_iadd (v := (nI (dp + 1))) C dX0_bound_30 (nI_add _ _) ?_
  refine g_ist (lv' := [(6, .int (nI (dp + 1))), (5, .ref (Z.2.2.1 25 (dp * 9 + v))), (0, .ref (Z.2.2.1 20 0)), (1, .ref (Z.2.2.1 2 g)), (2, .int (nI dp)), (3, .int (nI tk)), (4, .int (nI v))]) C dX0_bound_31 rfl rfl ?_
  refine g_iconst C ((nI 0)) dX0_bound_33 (by decide) ?_
  refine g_ist (lv' := [(7, .int (nI 0)), (6, .int (nI (dp + 1))), (5, .ref (Z.2.2.1 25 (dp * 9 + v))), (0, .ref (Z.2.2.1 20 0)), (1, .ref (Z.2.2.1 2 g)), (2, .int (nI dp)), (3, .int (nI tk)), (4, .int (nI v))]) C dX0_bound_34 rfl rfl ?_
  refine g_lv (lv1 := [(0, .ref (Z.2.2.1 20 0)), (1, .ref (Z.2.2.1 2 g)), (2, .int (nI dp)), (3, .int (nI tk)), (4, .int (nI v)), (5, .ref (Z.2.2.1 25 (dp * 9 + v))), (6, .int (nI (dp + 1 + 0))), (7, .int (nI 0))]) [3, 4, 5, 6, 7, 2, 1, 0] rfl ?_
  refine l_X0_bound_36 hA C hv hg hdp htk hvn hrw hYB hy hcnt ?_ (n + 1) 0 0 (fun _ => 0) _ (by omega) (by omega) ⟨fun r0 hr0 => va_up_ne _ _ hr0, fun i hi => by rw [va_up_self, pk_cpy_in (by omega) (by omega)]; congr 1; omega⟩ ⟨rfl, fun i hi => absurd hi (by omega), fun j hj => absurd hj (by omega), fun q => rfl⟩ (fun j hj => absurd hj (by omega))
  intro m s D hD1 hS hD3
  have hm : m = ct (sel tk v) n := hS.1
  refine g_ildn C dX0_bound_132 rfl ?_
  refine g_iconst C ((nI 2)) dX0_bound_133 (by decide) ?_
  refine g_iadd (v := (nI (dp + 2))) C dX0_bound_134 (nI_add _ _) ?_
  refine g_ist (lv' := [(7, .int (nI (dp + 2))), (0, .ref (Z.2.2.1 20 0)), (1, .ref (Z.2.2.1 2 g)), (2, .int (nI dp)), (3, .int (nI tk)), (4, .int (nI v)), (5, .ref (Z.2.2.1 25 (dp * 9 + v))), (6, .int (nI (dp + 1 + m)))]) C dX0_bound_135 rfl rfl ?_
  refine g_lv [1, 2, 3, 4, 5, 6, 7, 0] rfl ?_
  refine l_X0_bound_137 C hr hn9 hvn (by omega) hm hS (n + 1) (dp + 2) D (by omega) (by omega) (by omega) hD1 (fun j hj h => ?_) (fun j hj _ => hD3 j hj)
  have e : j = 0 := by omega
  subst e
  rw [Nat.pow_zero, Nat.mul_one]
  exact hD3 0 hj
end
section
/-! ===== forms: rows of a written graph, bounds, what is enough to try ===== -/
theorem ct_upd {p q : Nat → Bool} {k : Nat} (he : ∀ i, i ≠ k → p i = q i) : ∀ n, k < n → ct p n + (if q k then 1 else 0) = ct q n + (if p k then 1 else 0) := by
  intro n
  induction n with
  | zero => intro h; omega
  | succ n ih =>
    intro h
    rw [ct_s, ct_s]
    by_cases e : k = n
    · subst e
      rw [ct_congr (p := p) (q := q) k (fun i hi => he i (by omega))]
      omega
    · have := ih (by omega)
      rw [he n (Ne.symm e)]
      omega
theorem ct_pos {p : Nat → Bool} {n : Nat} (h : 0 < ct p n) : ∃ i, i < n ∧ p i = true := by
  induction n with
  | zero => exact absurd h (by show ¬ 0 < 0; omega)
  | succ n ih =>
    cases e : p n with
    | true => exact ⟨n, by omega, e⟩
    | false =>
      rw [ct_f e] at h
      obtain ⟨i, a, b⟩ := ih h
      exact ⟨i, by omega, b⟩
theorem ct_in {p : Nat → Bool} {n i : Nat} (hi : i < n) (h : p i = true) : 0 < ct p n := by
  have h1 := ct_mono p (show i + 1 ≤ n by omega)
  rw [ct_t h] at h1
  omega
theorem ct_one {m n : Nat} (h : m < n) : ct (fun i => decide (i = m)) n = 1 := by
  have h1 := ct_upd (p := fun _ => false) (q := fun i => decide (i = m)) (k := m) (fun i hi => (decide_eq_false hi).symm) n h
  rw [ct_none n (fun _ _ => rfl)] at h1
  simp at h1
  omega
theorem ct_add (p : Nat → Bool) (a : Nat) : ∀ t, ct p (a + t) = ct p a + ct (fun i => p (a + i)) t
  | 0 => rfl
  | t + 1 => by
    rw [← Nat.add_assoc, ct_s, ct_add p a t, ct_s]
    omega
theorem ct_all {p : Nat → Bool} : ∀ n, (∀ i, i < n → p i = true) → ct p n = n
  | 0, _ => rfl
  | n + 1, h => by rw [ct_t (h n (by omega)), ct_all n (fun i hi => h i (by omega))]
theorem ct_not (p : Nat → Bool) : ∀ n, ct (fun i => !p i) n + ct p n = n
  | 0 => rfl
  | n + 1 => by
    have := ct_not p n
    rw [ct_s, ct_s]
    cases p n <;> simp <;> omega
/-- a naming: all vertices, each once -/
def nmg (n : Nat) (f : Nat → Nat) : Prop := (∀ i, i < n → f i < n) ∧ ∀ i j, i < n → j < n → f i = f j → i = j
theorem ct_perm : ∀ (n : Nat) (f : Nat → Nat) (p : Nat → Bool), nmg n f → ct (fun i => p (f i)) n = ct p n := by
  intro n
  induction n with
  | zero => intro f p _; rfl
  | succ n ih =>
    intro f p h
    by_cases e : f n = n
    · have h1 : nmg n f := ⟨fun i hi => by have := h.1 i (by omega); have : f i ≠ n := fun q => absurd (h.2 i n (by omega) (by omega) (by rw [q, e])) (by omega); omega, fun i j hi hj q => h.2 i j (by omega) (by omega) q⟩
      rw [ct_s, ct_s, ih f p h1]
      show _ + (if p (f n) then 1 else 0) = _
      rw [e]
    · have hm : f n < n := by have := h.1 n (by omega); omega
      by_cases hk : ∃ k, k < n ∧ f k = n
      · obtain ⟨k, hk, ek⟩ := hk
        have h1 : nmg n (va_up f k (f n)) := by
          refine ⟨fun i hi => ?_, fun i j hi hj q => ?_⟩
          · by_cases q : i = k
            · subst q; rw [va_up_self]; exact hm
            · rw [va_up_ne _ _ q]
              have := h.1 i (by omega)
              have : f i ≠ n := fun z => q (h.2 i k (by omega) (by omega) (by rw [z, ek]))
              omega
          · by_cases qi : i = k <;> by_cases qj : j = k
            · omega
            · subst qi; rw [va_up_self, va_up_ne _ _ qj] at q
              exact absurd (h.2 n j (by omega) (by omega) q) (by omega)
            · subst qj; rw [va_up_self, va_up_ne _ _ qi] at q
              exact absurd (h.2 i n (by omega) (by omega) q) (by omega)
            · rw [va_up_ne _ _ qi, va_up_ne _ _ qj] at q
              exact h.2 i j (by omega) (by omega) q
        have h2 := ct_upd (p := fun i => p (f i)) (q := fun i => p (va_up f k (f n) i)) (k := k) (fun i hi => by show p (f i) = p (va_up f k (f n) i); rw [va_up_ne _ _ hi]) n hk
        rw [ih _ p h1] at h2
        have h3 : p (va_up f k (f n) k) = p (f n) := by rw [va_up_self]
        simp only [h3, ek] at h2
        rw [ct_s, ct_s]
        exact h2
      · exfalso
        have h1 : nmg n f := ⟨fun i hi => by have := h.1 i (by omega); have : f i ≠ n := fun q => hk ⟨i, hi, q⟩; omega, fun i j hi hj q => h.2 i j (by omega) (by omega) q⟩
        have h2 := ih f (fun w => decide (w = f n)) h1
        rw [ct_one hm] at h2
        obtain ⟨i, hi, q⟩ := ct_pos (show 0 < ct (fun i => decide (f i = f n)) n by rw [h2]; decide)
        exact absurd (h.2 i n (by omega) (by omega) (of_decide_eq_true q)) (by omega)
theorem nmg_sur {n : Nat} {f : Nat → Nat} (h : nmg n f) {w : Nat} (hw : w < n) : ∃ i, i < n ∧ f i = w := by
  have h1 := ct_perm n f (fun a => decide (a = w)) h
  rw [ct_one hw] at h1
  obtain ⟨i, hi, q⟩ := ct_pos (show 0 < ct (fun i => decide (f i = w)) n by rw [h1]; decide)
  exact ⟨i, hi, of_decide_eq_true q⟩
/-- the row of w, as far as f's first d vertices tell it -/
def rv (T : Nat → Nat → Nat) (L : Nat → Nat → Nat → Nat) (g : Nat) (f : Nat → Nat) : Nat → Nat → Nat
  | 0, w => T g w
  | d + 1, w => rv T L g f d w * 16 + pr L g w (f d)
/-- row i of the graph as f writes it -/
def Rq (T : Nat → Nat → Nat) (L : Nat → Nat → Nat → Nat) (g : Nat) (f : Nat → Nat) (i : Nat) : Nat := rv T L g f i (f i)
theorem rv_congr {T : Nat → Nat → Nat} {L : Nat → Nat → Nat → Nat} {g : Nat} {f f' : Nat → Nat} : ∀ d w, (∀ i, i < d → f i = f' i) → rv T L g f d w = rv T L g f' d w
  | 0, _, _ => rfl
  | d + 1, w, h => by
    show rv T L g f d w * 16 + pr L g w (f d) = rv T L g f' d w * 16 + pr L g w (f' d)
    rw [rv_congr d w (fun i hi => h i (by omega)), h d (by omega)]
theorem Rq_congr {T : Nat → Nat → Nat} {L : Nat → Nat → Nat → Nat} {g : Nat} {f f' : Nat → Nat} {i : Nat} (h : ∀ j, j ≤ i → f j = f' j) : Rq T L g f i = Rq T L g f' i := by
  unfold Rq
  rw [h i (Nat.le_refl i)]
  exact rv_congr i _ (fun j hj => h j (by omega))
/-- tints and labels are below 4 -/
def sm4 (n : Nat) (T : Nat → Nat → Nat) (L : Nat → Nat → Nat → Nat) (g : Nat) : Prop := (∀ v, v < n → T g v < 4) ∧ ∀ u v, u < n → v < n → L g u v < 4
theorem pr16 {n : Nat} {T : Nat → Nat → Nat} {L : Nat → Nat → Nat → Nat} {g u v : Nat} (h : sm4 n T L g) (hu : u < n) (hv : v < n) : pr L g u v < 16 := by
  have := h.2 u v hu hv
  have := h.2 v u hv hu
  unfold pr
  omega
theorem rv_lt {n : Nat} {T : Nat → Nat → Nat} {L : Nat → Nat → Nat → Nat} {g : Nat} {f : Nat → Nat} (h : sm4 n T L g) {w : Nat} (hw : w < n) : ∀ d, (∀ i, i < d → f i < n) → rv T L g f d w < 4 * 16 ^ d
  | 0, _ => by
    have := h.1 w hw
    show T g w < 4 * 16 ^ 0
    omega
  | d + 1, hf => by
    have h1 := rv_lt h hw d (fun i hi => hf i (by omega))
    have h2 := pr16 h hw (hf d (by omega))
    show rv T L g f d w * 16 + pr L g w (f d) < 4 * 16 ^ (d + 1)
    rw [Nat.pow_succ]
    omega
theorem rv_up {n : Nat} {T : Nat → Nat → Nat} {L : Nat → Nat → Nat → Nat} {g : Nat} {f : Nat → Nat} (h : sm4 n T L g) {w : Nat} (hw : w < n) (d : Nat) : ∀ j, (∀ i, i < d + j → f i < n) → rv T L g f d w * 16 ^ j ≤ rv T L g f (d + j) w ∧ rv T L g f (d + j) w < (rv T L g f d w + 1) * 16 ^ j
  | 0, _ => by simp
  | j + 1, hf => by
    have h1 := rv_up h hw d j (fun i hi => hf i (by omega))
    have h2 := pr16 h hw (hf (d + j) (by omega))
    have e : rv T L g f (d + (j + 1)) w = rv T L g f (d + j) w * 16 + pr L g w (f (d + j)) := rfl
    rw [e, Nat.pow_succ, ← Nat.mul_assoc, ← Nat.mul_assoc]
    omega
/-- the bound of what stands behind v: no written graph that begins so is less -/
theorem bound_le {n : Nat} {T : Nat → Nat → Nat} {L : Nat → Nat → Nat → Nat} {g d tk v YB m : Nat} {f s b : Nat → Nat} (h4 : sm4 n T L g) (htk : ∀ w, tk.testBit w = true ↔ ∃ j, j < d ∧ f j = w)
    (hb0 : ∀ i, i < d → b i = Rq T L g f i) (hb1 : b d = rv T L g f d v) (hb2 : ∀ j, j < m → b (d + 1 + j) = s j * 16 ^ j) (hS : bS tk v (fun a => rv T L g f d a * 16 + pr L g a v) YB n m s) (hm : d + 1 + m = n) {f' : Nat → Nat} (hf : nmg n f') (he : ∀ i, i < d → f' i = f i) (hv : f' d = v) : lxe n b (Rq T L g f') := by
  refine lxe_of (fun hlx => ?_)
  obtain ⟨k, hk, h1, h2⟩ := hlx
  have ey : ∀ i, rv T L g f' (d + 1) (f' i) = rv T L g f d (f' i) * 16 + pr L g (f' i) v := fun i => by
    show rv T L g f' d (f' i) * 16 + pr L g (f' i) (f' d) = _
    rw [rv_congr d (f' i) he, hv]
  have key : ∀ j, j < m → rv T L g f d (f' (d + 1 + j)) * 16 + pr L g (f' (d + 1 + j)) v = rv T L g f' (d + 1) (f' (d + 1 + j)) := fun j _ => (ey _).symm
  rcases Nat.lt_trichotomy k d with q | q | q
  · rw [hb0 k q] at h2
    have : Rq T L g f' k = Rq T L g f k := Rq_congr (fun j hj => he j (by omega))
    omega
  · subst q
    rw [hb1] at h2
    have : Rq T L g f' k = rv T L g f k v := by
      unfold Rq
      rw [hv]
      exact rv_congr k v he
    omega
  · obtain ⟨j, rfl⟩ : ∃ j, k = d + 1 + j := ⟨k - (d + 1), by omega⟩
    have hj : j < m := by omega
    rw [hb2 j hj] at h2
    have hfl : ∀ i, i < n → f' i < n := hf.1
    have up : ∀ i, i < m → rv T L g f' (d + 1) (f' (d + 1 + i)) * 16 ^ i ≤ Rq T L g f' (d + 1 + i) ∧ Rq T L g f' (d + 1 + i) < (rv T L g f' (d + 1) (f' (d + 1 + i)) + 1) * 16 ^ i := fun i hi => rv_up h4 (hfl _ (by omega)) (d + 1) i (fun a ha => hfl a (by omega))
    have pos : ∀ i, 0 < 16 ^ i := fun i => Nat.pow_pos (by decide)
    have lo : ∀ i, i < j → rv T L g f' (d + 1) (f' (d + 1 + i)) = s i := fun i hi => by
      have e := h1 (d + 1 + i) (by omega)
      rw [hb2 i (by omega)] at e
      obtain ⟨u1, u2⟩ := up i (by omega)
      rw [e] at u1 u2
      have a1 := Nat.le_of_mul_le_mul_right u1 (pos i)
      have a2 := Nat.lt_of_mul_lt_mul_right u2
      omega
    have hi' : rv T L g f' (d + 1) (f' (d + 1 + j)) < s j := Nat.lt_of_mul_lt_mul_right (Nat.lt_of_le_of_lt (up j hj).1 h2)
    -- counting
    have hct := hS.2.2.2 (fun t => decide (t < s j))
    rw [← ct_perm n f' _ hf] at hct
    have hl : ct (fun i => decide (s i < s j)) m = ct (fun i => decide (s i < s j)) j := by
      rw [show m = j + (m - j) by omega, ct_add, ct_none (m - j) (fun i hi => decide_eq_false (by have := srt_le hS.2.1 (j + i) j (by omega) (by omega); omega))]
      rfl
    have hsel : ∀ i, d < i → i < n → sel tk v (f' i) = true := fun i h3 h5 => by
      refine sel_t (fun e => absurd (hf.2 i d h5 (by omega) (by rw [e, hv])) (by omega)) ?_
      cases hb : tk.testBit (f' i) with
      | false => rfl
      | true =>
        obtain ⟨a, ha, e⟩ := (htk _).mp hb
        exact absurd (hf.2 a i (by omega) h5 (by rw [he a ha, e])) (by omega)
    have hr1 : ct (fun i => sel tk v (f' i) && decide (rv T L g f d (f' i) * 16 + pr L g (f' i) v < s j)) (d + 1 + j + 1) = ct (fun i => sel tk v (f' i) && decide (rv T L g f d (f' i) * 16 + pr L g (f' i) v < s j)) (d + 1 + j) + 1 := ct_t (by
      rw [hsel (d + 1 + j) (by omega) (by omega), key j hj, decide_eq_true hi']
      rfl)
    have hr2 := ct_add (fun i => sel tk v (f' i) && decide (rv T L g f d (f' i) * 16 + pr L g (f' i) v < s j)) (d + 1) j
    have hr3 : ct (fun i => (fun i => sel tk v (f' i) && decide (rv T L g f d (f' i) * 16 + pr L g (f' i) v < s j)) (d + 1 + i)) j = ct (fun i => decide (s i < s j)) j := ct_congr j (fun i hi => by
      show (sel tk v (f' (d + 1 + i)) && decide (rv T L g f d (f' (d + 1 + i)) * 16 + pr L g (f' (d + 1 + i)) v < s j)) = decide (s i < s j)
      rw [hsel (d + 1 + i) (by omega) (by omega), key i (by omega), lo i hi]
      rfl)
    have hr4 := ct_mono (fun i => sel tk v (f' i) && decide (rv T L g f d (f' i) * 16 + pr L g (f' i) v < s j)) (show d + 1 + j + 1 ≤ n by omega)
    rw [hl] at hct
    dsimp only at hr1 hr2 hr3 hr4 hct
    omega
/-- u and x are exchanged -/
def swp (u x w : Nat) : Nat := if w = u then x else if w = x then u else w
theorem swp_l (u x : Nat) : swp u x u = x := if_pos rfl
theorem swp_r (u x : Nat) : swp u x x = u := by
  unfold swp
  by_cases h : x = u
  · rw [if_pos h, h]
  · rw [if_neg h, if_pos rfl]
theorem swp_o {u x w : Nat} (h1 : w ≠ u) (h2 : w ≠ x) : swp u x w = w := by unfold swp; rw [if_neg h1, if_neg h2]
theorem swp_lt {n u x w : Nat} (hu : u < n) (hx : x < n) (hw : w < n) : swp u x w < n := by
  unfold swp
  split
  · exact hx
  · split
    · exact hu
    · exact hw
theorem swp_inv (u x w : Nat) : swp u x (swp u x w) = w := by
  by_cases h1 : w = u
  · subst h1; rw [swp_l, swp_r]
  · by_cases h2 : w = x
    · subst h2; rw [swp_r, swp_l]
    · rw [swp_o h1 h2, swp_o h1 h2]
theorem swp_nmg {n u x : Nat} {f : Nat → Nat} (hu : u < n) (hx : x < n) (h : nmg n f) : nmg n (fun i => swp u x (f i)) :=
  ⟨fun i hi => swp_lt hu hx (h.1 i hi), fun i j hi hj e => h.2 i j hi hj (by have := congrArg (swp u x) e; rw [swp_inv, swp_inv] at this; exact this)⟩
theorem alk_t {n : Nat} {T : Nat → Nat → Nat} {L : Nat → Nat → Nat → Nat} {g u x : Nat} (h : alk n T L g u x) (w : Nat) : T g (swp u x w) = T g w := by
  by_cases h1 : w = u
  · subst h1; rw [swp_l]; exact h.1.symm
  · by_cases h2 : w = x
    · subst h2; rw [swp_r]; exact h.1
    · rw [swp_o h1 h2]
theorem alk_l {n : Nat} {T : Nat → Nat → Nat} {L : Nat → Nat → Nat → Nat} {g u x : Nat} (h4 : sm4 n T L g) (h : alk n T L g u x) (hu : u < n) (hx : x < n) {a b : Nat} (ha : a < n) (hb : b < n) (hab : a ≠ b) : L g (swp u x a) (swp u x b) = L g a b := by
  have one : ∀ w, w < n → w ≠ u → w ≠ x → L g u w = L g x w ∧ L g w u = L g w x := fun w hw h1 h2 => by
    have e := h.2.2 w hw h1 h2
    unfold pr at e
    have := h4.2 u w hu hw
    have := h4.2 w u hw hu
    have := h4.2 x w hx hw
    have := h4.2 w x hw hx
    omega
  by_cases a1 : a = u
  · subst a1
    rw [swp_l]
    by_cases b1 : b = x
    · subst b1; rw [swp_r]; exact h.2.1.symm
    · rw [swp_o (Ne.symm hab) b1]; exact (one b hb (Ne.symm hab) b1).1.symm
  · by_cases a2 : a = x
    · subst a2
      rw [swp_r]
      by_cases b1 : b = u
      · subst b1; rw [swp_l]; exact h.2.1
      · rw [swp_o b1 (Ne.symm hab)]; exact (one b hb b1 (Ne.symm hab)).1
    · rw [swp_o a1 a2]
      by_cases b1 : b = u
      · subst b1; rw [swp_l]; exact (one a ha a1 a2).2.symm
      · by_cases b2 : b = x
        · subst b2; rw [swp_r]; exact (one a ha a1 a2).2
        · rw [swp_o b1 b2]
theorem alk_rv {n : Nat} {T : Nat → Nat → Nat} {L : Nat → Nat → Nat → Nat} {g u x : Nat} (h4 : sm4 n T L g) (h : alk n T L g u x) (hu : u < n) (hx : x < n) {f : Nat → Nat} {w : Nat} (hw : w < n) : ∀ d, (∀ i, i < d → f i < n ∧ f i ≠ w) → rv T L g (fun i => swp u x (f i)) d (swp u x w) = rv T L g f d w
  | 0, _ => alk_t h w
  | d + 1, hf => by
    have h1 := alk_rv h4 h hu hx hw d (fun i hi => hf i (by omega))
    obtain ⟨h2, h3⟩ := hf d (by omega)
    show rv T L g (fun i => swp u x (f i)) d (swp u x w) * 16 + pr L g (swp u x w) (swp u x (f d)) = rv T L g f d w * 16 + pr L g w (f d)
    rw [h1]
    unfold pr
    rw [alk_l h4 h hu hx hw h2 (Ne.symm h3), alk_l h4 h hu hx h2 hw h3]
theorem alk_Rq {n : Nat} {T : Nat → Nat → Nat} {L : Nat → Nat → Nat → Nat} {g u x : Nat} (h4 : sm4 n T L g) (h : alk n T L g u x) (hu : u < n) (hx : x < n) {f : Nat → Nat} (hf : nmg n f) {i : Nat} (hi : i < n) : Rq T L g (fun i => swp u x (f i)) i = Rq T L g f i :=
  alk_rv h4 h hu hx (hf.1 i hi) i (fun j hj => ⟨hf.1 j (by omega), fun e => absurd (hf.2 j i (by omega) hi e) (by omega)⟩)
/-- the candidates are enough: if B is no greater than what begins with one of them, it is no greater than anything -/
theorem cand_enough {n : Nat} {T : Nat → Nat → Nat} {L : Nat → Nat → Nat → Nat} {g d tk fd le : Nat} {f lk B : Nat → Nat} (hn9 : n ≤ 9) (hd : d < n) (h4 : sm4 n T L g) (hfn : ∀ i, i < d → f i < n) (htk : ∀ w, tk.testBit w = true ↔ ∃ j, j < d ∧ f j = w) (hlk : ∀ v, v < n → lks n T L g v v (lk v)) (hc : cnd tk lk (rv T L g f d) n fd le)
    (h : ∀ f', nmg n f' → (∀ i, i < d → f' i = f i) → fd.testBit (f' d) = true → lxe n B (Rq T L g f')) : ∀ f', nmg n f' → (∀ i, i < d → f' i = f i) → lxe n B (Rq T L g f') := by
  have main : ∀ N x, x < N → ∀ f', nmg n f' → (∀ i, i < d → f' i = f i) → f' d = x → lxe n B (Rq T L g f') := by
    intro N
    induction N with
    | zero => intro x hx; exact absurd hx (by omega)
    | succ N ih =>
      intro x hxN f' hf he hx
      have hxn : x < n := by rw [← hx]; exact hf.1 d hd
      have hxt : tk.testBit x = false := by
        cases hb : tk.testBit x with
        | false => rfl
        | true =>
          obtain ⟨j, hj, e⟩ := (htk x).mp hb
          exact absurd (hf.2 j d (by omega) hd (by rw [he j hj, e, hx])) (by omega)
      have swap : ∀ u, u < n → tk.testBit u = false → nmg n (fun i => swp u x (f' i)) ∧ (∀ i, i < d → swp u x (f' i) = f i) ∧ swp u x (f' d) = u := fun u hu hut => by
        refine ⟨swp_nmg hu hxn hf, fun i hi => ?_, by rw [hx, swp_r]⟩
        rw [he i hi]
        refine swp_o (fun e => ?_) (fun e => ?_)
        · have := (htk u).mpr ⟨i, hi, e⟩
          rw [hut] at this
          exact absurd this (by decide)
        · have := (htk x).mpr ⟨i, hi, e⟩
          rw [hxt] at this
          exact absurd this (by decide)
      by_cases ho : opn tk lk x
      · by_cases er : rv T L g f d x = le
        · exact h f' hf he (by rw [hx]; exact (hc.2.2.1 x).mpr ⟨hxn, ho, er⟩)
        · have hle := hc.2.2.2.1 x hxn ho
          have hlt := rv_lt (f := f) h4 hxn d hfn
          have hp : 16 ^ d ≤ 16 ^ 8 := Nat.pow_le_pow_right (by decide) (by omega)
          rcases hc.2.2.2.2 with q | ⟨u, hu, ou, eu⟩
          · exfalso
            have : (16 : Nat) ^ 8 = 4294967296 := by decide
            have : (2 : Nat) ^ 40 = 1099511627776 := by decide
            omega
          · obtain ⟨s1, s2, s3⟩ := swap u hu ou.1
            have hB := h _ s1 s2 (by show fd.testBit (swp u x (f' d)) = true; rw [s3]; exact (hc.2.2.1 u).mpr ⟨hu, ou, eu⟩)
            refine lxe_tr hB (Or.inl ⟨d, hd, fun j hj => Rq_congr (fun i hi => by show swp u x (f' i) = f' i; rw [s2 i (by omega), he i (by omega)]), ?_⟩)
            show rv T L g (fun i => swp u x (f' i)) d (swp u x (f' d)) < rv T L g f' d (f' d)
            rw [s3, hx, rv_congr d u (f' := f) (fun i hi => s2 i hi), rv_congr d x (f' := f) he, eu]
            omega
      · have hex : ∃ u, (lk x).testBit u = true ∧ tk.testBit u = false := by
          cases hdc : dc (∃ u, (lk x).testBit u = true ∧ tk.testBit u = false) with
          | true => exact dc_t.mp hdc
          | false =>
            refine absurd ⟨hxt, fun u hu => ?_⟩ ho
            cases hb : tk.testBit u with
            | true => rfl
            | false => rw [dc_t.mpr ⟨u, hu, hb⟩] at hdc; exact absurd hdc (by decide)
        obtain ⟨u, hu1, hu2⟩ := hex
        obtain ⟨hux, hal⟩ := ((hlk x hxn).2 u).mp hu1
        obtain ⟨s1, s2, s3⟩ := swap u (by omega) hu2
        have hB := ih u (by omega) _ s1 s2 s3
        exact lxe_tr hB (Or.inr (fun i hi => alk_Rq h4 hal (by omega) hxn hf hi))
  intro f' hf he
  exact main (f' d + 1) (f' d) (by omega) f' hf he rfl
end
section
/-! ===== write: what it keeps, what it finds ===== -/
theorem ct_img {n : Nat} : ∀ (d : Nat) (f : Nat → Nat) (p : Nat → Bool), (∀ i j, i < d → j < d → f i = f j → i = j) → (∀ i, i < d → f i < n) → (∀ a, a < n → (p a = true ↔ ∃ j, j < d ∧ f j = a)) → ct p n = d := by
  intro d
  induction d with
  | zero =>
    intro f p _ _ h
    refine ct_none n (fun a ha => ?_)
    cases hp : p a with
    | false => rfl
    | true => obtain ⟨j, hj, -⟩ := (h a ha).mp hp; omega
  | succ d ih =>
    intro f p hi hl h
    have h1 := ih f (fun a => p a && decide (a ≠ f d)) (fun i j a b => hi i j (by omega) (by omega)) (fun i hi => hl i (by omega)) (fun a ha => by
      rw [Bool.and_eq_true, h a ha, decide_eq_true_iff]
      constructor
      · rintro ⟨⟨j, hj, e⟩, hne⟩
        exact ⟨j, by have : j ≠ d := fun q => hne (by rw [← e, q]); omega, e⟩
      · rintro ⟨j, hj, e⟩
        exact ⟨⟨j, by omega, e⟩, fun q => by have := hi j d (by omega) (by omega) (by rw [e, q]); omega⟩)
    have h2 := ct_upd (p := p) (q := fun a => p a && decide (a ≠ f d)) (k := f d) (fun i hne => by show p i = (p i && decide (i ≠ f d)); rw [decide_eq_true hne, Bool.and_true]) n (hl d (by omega))
    have h3 : p (f d) = true := (h (f d) (hl d (by omega))).mpr ⟨d, by omega, rfl⟩
    have h4 : decide (f d ≠ f d) = false := decide_eq_false (fun q => q rfl)
    rw [h1] at h2
    simp only [h3, h4, Bool.and_false] at h2
    simpa using h2
theorem sel_ct {n d tk v : Nat} {f : Nat → Nat} (hf : ∀ i, i < d → f i < n) (hi : ∀ i j, i < d → j < d → f i = f j → i = j) (htk : ∀ w, tk.testBit w = true ↔ ∃ j, j < d ∧ f j = w) (hv : v < n) (hvt : tk.testBit v = false) : ct (sel tk v) n + (d + 1) = n := by
  have hno : ∀ j, j < d → f j ≠ v := fun j hj e => by
    have := (htk v).mpr ⟨j, hj, e⟩
    rw [hvt] at this
    exact absurd this (by decide)
  have h1 : ct (fun a => !sel tk v a) n = d + 1 := ct_img (d + 1) (va_up f d v) _ (fun i j h1 h2 e => by
      by_cases a : i = d <;> by_cases b : j = d
      · omega
      · subst a; rw [va_up_self, va_up_ne _ _ b] at e; exact absurd e.symm (hno j (by omega))
      · subst b; rw [va_up_self, va_up_ne _ _ a] at e; exact absurd e (hno i (by omega))
      · rw [va_up_ne _ _ a, va_up_ne _ _ b] at e; exact hi i j (by omega) (by omega) e) (fun i h1 => by
      by_cases a : i = d
      · subst a; rw [va_up_self]; exact hv
      · rw [va_up_ne _ _ a]; exact hf i (by omega)) (fun a ha => by
      constructor
      · intro h
        by_cases e : a = v
        · exact ⟨d, by omega, by rw [va_up_self]; exact e.symm⟩
        · cases ht : tk.testBit a with
          | false => rw [sel_t e ht] at h; exact absurd h (by decide)
          | true =>
            obtain ⟨j, hj, e2⟩ := (htk a).mp ht
            exact ⟨j, by omega, by rw [va_up_ne _ _ (by omega)]; exact e2⟩
      · rintro ⟨j, hj, e⟩
        by_cases q : j = d
        · subst q; rw [va_up_self] at e; rw [sel_v e.symm]; rfl
        · rw [va_up_ne _ _ q] at e; rw [sel_f ((htk a).mpr ⟨j, by omega, e⟩)]; rfl)
  have h2 := ct_not (sel tk v) n
  omega
/-- the longs that write changes -/
def CH (J : SJ) (A R C D : Nat → Nat → Int64) : SJ := sK (sK (sK (sK J 9 A) 22 R) 23 C) 25 D
theorem ch_id (J : SJ) : CH J (J 9) (J 22) (J 23) (J 25) = J := by
  unfold CH
  rw [sK_id]
  have : sK J 22 (J 22) = J := sK_id J 22
  rw [this]
  have : sK J 23 (J 23) = J := sK_id J 23
  rw [this]
  exact sK_id J 25
theorem ch9 (J : SJ) (A R C D A' : Nat → Nat → Int64) : sK (CH J A R C D) 9 A' = CH J A' R C D := by
  unfold CH
  rw [sK_swap _ (by decide : (25 : Nat) ≠ 9), sK_swap _ (by decide : (23 : Nat) ≠ 9), sK_swap _ (by decide : (22 : Nat) ≠ 9), sK_sK]
theorem ch22 (J : SJ) (A R C D R' : Nat → Nat → Int64) : sK (CH J A R C D) 22 R' = CH J A R' C D := by
  unfold CH
  rw [sK_swap _ (by decide : (25 : Nat) ≠ 22), sK_swap _ (by decide : (23 : Nat) ≠ 22), sK_sK]
theorem ch23 (J : SJ) (A R C D C' : Nat → Nat → Int64) : sK (CH J A R C D) 23 C' = CH J A R C' D := by
  unfold CH
  rw [sK_swap _ (by decide : (25 : Nat) ≠ 23), sK_sK]
theorem ch25 (J : SJ) (A R C D D' : Nat → Nat → Int64) : sK (CH J A R C D) 25 D' = CH J A R C D' := by
  unfold CH
  rw [sK_sK]
theorem ch_9 (J : SJ) (A R C D : Nat → Nat → Int64) : CH J A R C D 9 = A := (sK_ne (by decide)).trans ((sK_ne (by decide)).trans ((sK_ne (by decide)).trans (sK_self _ _ _)))
theorem ch_22 (J : SJ) (A R C D : Nat → Nat → Int64) : CH J A R C D 22 = R := (sK_ne (by decide)).trans ((sK_ne (by decide)).trans (sK_self _ _ _))
theorem ch_23 (J : SJ) (A R C D : Nat → Nat → Int64) : CH J A R C D 23 = C := (sK_ne (by decide)).trans (sK_self _ _ _)
theorem ch_25 (J : SJ) (A R C D : Nat → Nat → Int64) : CH J A R C D 25 = D := sK_self _ _ _
theorem ch_ch (J : SJ) (A R C D A' R' C' D' : Nat → Nat → Int64) : CH (CH J A R C D) A' R' C' D' = CH J A' R' C' D' := by
  show sK (sK (sK (sK (CH J A R C D) 9 A') 22 R') 23 C') 25 D' = _
  rw [ch9, ch22, ch23, ch25]
/-- B' is the least of B and all that begins as f's first d do -/
def MB (n : Nat) (T : Nat → Nat → Nat) (L : Nat → Nat → Nat → Nat) (g : Nat) (f : Nat → Nat) (d : Nat) (B B' : Nat → Nat) : Prop :=
  lxe n B' B ∧ (∀ f', nmg n f' → (∀ i, i < d → f' i = f i) → lxe n B' (Rq T L g f')) ∧ ((∀ i, i < n → B' i = B i) ∨ ∃ f', nmg n f' ∧ (∀ i, i < d → f' i = f i) ∧ ∀ i, i < n → B' i = Rq T L g f' i)
/-- of the candidates fd those that are no longer open are done -/
def WI (n : Nat) (T : Nat → Nat → Nat) (L : Nat → Nat → Nat → Nat) (g : Nat) (f : Nat → Nat) (d fd op : Nat) (B B' : Nat → Nat) : Prop :=
  lxe n B' B ∧ (∀ f', nmg n f' → (∀ i, i < d → f' i = f i) → fd.testBit (f' d) = true → op.testBit (f' d) = false → lxe n B' (Rq T L g f')) ∧ ((∀ i, i < n → B' i = B i) ∨ ∃ f', nmg n f' ∧ (∀ i, i < d → f' i = f i) ∧ ∀ i, i < n → B' i = Rq T L g f' i)
theorem WI.step {n : Nat} {T : Nat → Nat → Nat} {L : Nat → Nat → Nat → Nat} {g d fd op v : Nat} {f B B1 B2 : Nat → Nat} (h : WI n T L g f d fd op B B1) (hm : MB n T L g (va_up f d v) (d + 1) B1 B2) : WI n T L g f d fd (wo op (2 ^ v)) B B2 := by
  refine ⟨lxe_tr hm.1 h.1, fun f' h1 h2 h3 h4 => ?_, ?_⟩
  · by_cases e : f' d = v
    · exact hm.2.1 f' h1 (fun i hi => by
        rcases Nat.lt_or_eq_of_le (Nat.le_of_lt_succ hi) with q | q
        · rw [va_up_ne _ _ (by omega)]; exact h2 i q
        · subst q; rw [va_up_self]; exact e)
    · refine lxe_tr hm.1 (h.2.1 f' h1 h2 h3 ?_)
      rw [wo_bit, Nat.testBit_two_pow, decide_eq_false (Ne.symm e)] at h4
      simpa using h4
  · rcases hm.2.2 with q | ⟨f', h1, h2, h3⟩
    · rcases h.2.2 with q2 | ⟨f', h1, h2, h3⟩
      · exact Or.inl (fun i hi => (q i hi).trans (q2 i hi))
      · exact Or.inr ⟨f', h1, h2, fun i hi => (q i hi).trans (h3 i hi)⟩
    · exact Or.inr ⟨f', h1, fun i hi => by rw [h2 i (by omega), va_up_ne _ _ (by omega)], h3⟩
/-- bu is a bound of what has u at place d -/
def bnd (n : Nat) (T : Nat → Nat → Nat) (L : Nat → Nat → Nat → Nat) (g : Nat) (f : Nat → Nat) (d u : Nat) (bu : Nat → Nat) : Prop :=
  (∀ i, i < n → bu i < 2 ^ 60) ∧ (∀ f', nmg n f' → (∀ i, i < d → f' i = f i) → f' d = u → lxe n bu (Rq T L g f')) ∧ (d + 1 = n → ∀ i, i < n → bu i = Rq T L g (va_up f d u) i)
theorem p16 {d : Nat} (h : d ≤ 8) : 16 ^ d ≤ 4294967296 := Nat.le_trans (Nat.pow_le_pow_right (by decide) h) (by decide)
theorem bnd.mk {n : Nat} {T : Nat → Nat → Nat} {L : Nat → Nat → Nat → Nat} {g d tk v le : Nat} {f s : Nat → Nat} (hn9 : n ≤ 9) (hd : d < n) (h4 : sm4 n T L g) (hfn : ∀ i, i < d → f i < n) (htk : ∀ w, tk.testBit w = true ↔ ∃ j, j < d ∧ f j = w) (hle : le = rv T L g f d v) (hvn : v < n)
    (hS : bS tk v (fun a => rv T L g f d a * 16 + pr L g a v) (4 * 16 ^ (d + 1)) n (ct (sel tk v) n) s) (hm : ct (sel tk v) n + (d + 1) = n) : bnd n T L g f d v (fun i => if i < d then Rq T L g f i else if i = d then le else s (i - (d + 1)) * 16 ^ (i - (d + 1))) := by
  have hlt := rv_lt (f := f) h4 hvn d hfn
  have hp := p16 (show d ≤ 8 by omega)
  refine ⟨fun i hi => ?_, fun f' h1 h2 h3 => ?_, fun e i hi => ?_⟩
  · show (if i < d then Rq T L g f i else if i = d then le else s (i - (d + 1)) * 16 ^ (i - (d + 1))) < 2 ^ 60
    have e60 : (2 : Nat) ^ 60 = 1152921504606846976 := by decide
    split
    · rename_i q
      have := rv_lt (f := f) h4 (hfn i q) i (fun j hj => hfn j (by omega))
      have := p16 (show i ≤ 8 by omega)
      unfold Rq
      omega
    · split
      · omega
      · rename_i q1 q2
        have h5 := hS.2.2.1 (i - (d + 1)) (by omega)
        have h6 := p16 (show d + 1 + (i - (d + 1)) ≤ 8 by omega)
        have h7 : s (i - (d + 1)) * 16 ^ (i - (d + 1)) ≤ 4 * 16 ^ (d + 1) * 16 ^ (i - (d + 1)) := Nat.mul_le_mul (Nat.le_of_lt h5) (Nat.le_refl _)
        rw [Nat.mul_assoc, ← Nat.pow_add] at h7
        omega
  · refine bound_le (b := fun i => if i < d then Rq T L g f i else if i = d then le else s (i - (d + 1)) * 16 ^ (i - (d + 1))) h4 htk (fun i hi => if_pos hi) ?_ (fun j hj => ?_) hS (by omega) h1 h2 h3
    · show (if d < d then _ else if d = d then le else _) = _
      rw [if_neg (Nat.lt_irrefl d), if_pos rfl, hle]
    · show (if d + 1 + j < d then _ else if d + 1 + j = d then le else s (d + 1 + j - (d + 1)) * 16 ^ (d + 1 + j - (d + 1))) = _
      rw [if_neg (by omega), if_neg (by omega), show d + 1 + j - (d + 1) = j by omega]
  · show (if i < d then Rq T L g f i else if i = d then le else s (i - (d + 1)) * 16 ^ (i - (d + 1))) = _
    by_cases q : i < d
    · rw [if_pos q]
      exact Rq_congr (fun j hj => by rw [va_up_ne _ _ (by omega)])
    · have q2 : i = d := by omega
      subst q2
      rw [if_neg q, if_pos rfl, hle]
      unfold Rq
      rw [va_up_self]
      exact rv_congr i v (fun j hj => by rw [va_up_ne _ _ (by omega)])
/-- when no open one promises less, all candidates are done -/
theorem WI.fin {n : Nat} {T : Nat → Nat → Nat} {L : Nat → Nat → Nat → Nat} {g d tk fd le op : Nat} {f lk B B1 : Nat → Nat} (hn9 : n ≤ 9) (hd : d < n) (h4 : sm4 n T L g) (hfn : ∀ i, i < d → f i < n) (htk : ∀ w, tk.testBit w = true ↔ ∃ j, j < d ∧ f j = w) (hlk : ∀ v, v < n → lks n T L g v v (lk v)) (hc : cnd tk lk (rv T L g f d) n fd le) (h : WI n T L g f d fd op B B1)
    (ho : ∀ f', nmg n f' → (∀ i, i < d → f' i = f i) → op.testBit (f' d) = true → lxe n B1 (Rq T L g f')) : MB n T L g f d B B1 :=
  ⟨h.1, cand_enough hn9 hd h4 hfn htk hlk hc (fun f' h1 h2 h3 => by
    cases hb : op.testBit (f' d) with
    | true => exact ho f' h1 h2 hb
    | false => exact h.2.1 f' h1 h2 h3 hb), h.2.2⟩
end
section
/-! ===== FormFinder: writeVertex, write, find ===== -/
def fsPre (I : SI) (J : SJ) (n : Nat) (T : Nat → Nat → Nat) (L : Nat → Nat → Nat → Nat) (g : Nat) (lk f : Nat → Nat) (d tk : Nat) (B : Nat → Nat) : Prop :=
  CV I n T L ∧ (∀ v, v < n → I 26 0 v = nI (lk v) ∧ lks n T L g v v (lk v)) ∧ tkn tk f d ∧ (∀ i, i < d → f i < n) ∧ (∀ i j, i < d → j < d → f i = f j → i = j) ∧ (∀ i, i < d → J 23 0 i = lN (Rq T L g f i)) ∧ (∀ w, w < n → tk.testBit w = false → J 22 d w = lN (rv T L g f d w)) ∧ ∀ i, i < n → J 9 g i = lN (B i) ∧ B i ≤ 2 ^ 40
def fPost (n : Nat) (T : Nat → Nat → Nat) (L : Nat → Nat → Nat → Nat) (g : Nat) (f : Nat → Nat) (d p : Nat) (B : Nat → Nat) (I : SI) (J : SJ) : Option Value → SI → SJ → Prop := fun v' I' J' =>
  ∃ (A R C D : Nat → Nat → Int64) (B' : Nat → Nat), v' = none ∧ I' = I ∧ J' = CH J A R C D ∧ (∀ r, r ≠ g → A r = J 9 r) ∧ (∀ r, r ≤ p → R r = J 22 r) ∧ (∀ i, i < d → C 0 i = J 23 0 i) ∧ (∀ r, r < d * 9 → D r = J 25 r) ∧ (∀ i, i < n → A g i = lN (B' i) ∧ B' i ≤ 2 ^ 40) ∧ MB n T L g f d B B'
theorem CV.s4 {I : SI} {n : Nat} {T : Nat → Nat → Nat} {L : Nat → Nat → Nat → Nat} (h : CV I n T L) {g : Nat} (hg : g < 2) : sm4 n T L g := ⟨fun _ hv => h.t4 hg hv, fun _ _ hu hv => h.l4 hg hu hv⟩
theorem rv_s {T : Nat → Nat → Nat} {L : Nat → Nat → Nat → Nat} {g d v : Nat} {f : Nat → Nat} (w : Nat) : rv T L g (va_up f d v) (d + 1) w = rv T L g f d w * 16 + pr L g w v := by
  show rv T L g (va_up f d v) d w * 16 + pr L g w (va_up f d v d) = _
  rw [va_up_self, rv_congr d w (f' := f) (fun i hi => va_up_ne _ _ (by omega))]
theorem Rq_s {T : Nat → Nat → Nat} {L : Nat → Nat → Nat → Nat} {g d v i : Nat} {f : Nat → Nat} (h : i < d) : Rq T L g (va_up f d v) i = Rq T L g f i := Rq_congr (fun j hj => va_up_ne _ _ (by omega))
theorem Rq_d {T : Nat → Nat → Nat} {L : Nat → Nat → Nat → Nat} {g d v : Nat} {f : Nat → Nat} : Rq T L g (va_up f d v) d = rv T L g f d v := by
  unfold Rq
  rw [va_up_self]
  exact rv_congr d v (fun i hi => va_up_ne _ _ (by omega))
theorem up_inj {d v : Nat} {f : Nat → Nat} (hi : ∀ i j, i < d → j < d → f i = f j → i = j) (hno : ∀ j, j < d → f j ≠ v) : ∀ i j, i < d + 1 → j < d + 1 → va_up f d v i = va_up f d v j → i = j := fun i j h1 h2 e => by
  by_cases a : i = d <;> by_cases b : j = d
  · omega
  · subst a; rw [va_up_self, va_up_ne _ _ b] at e; exact absurd e.symm (hno j (by omega))
  · subst b; rw [va_up_self, va_up_ne _ _ a] at e; exact absurd e (hno i (by omega))
  · rw [va_up_ne _ _ a, va_up_ne _ _ b] at e; exact hi i j (by omega) (by omega) e
theorem up_lt {n d v : Nat} {f : Nat → Nat} (hf : ∀ i, i < d → f i < n) (hv : v < n) : ∀ i, i < d + 1 → va_up f d v i < n := fun i h => by
  by_cases a : i = d
  · subst a; rw [va_up_self]; exact hv
  · rw [va_up_ne _ _ a]; exact hf i (by omega)
theorem tk_no {tk d v : Nat} {f : Nat → Nat} (h : tkn tk f d) (hv : tk.testBit v = false) : ∀ j, j < d → f j ≠ v := fun j hj e => by
  have := (h.2 v).mpr ⟨j, hj, e⟩
  rw [hv] at this
  exact absurd this (by decide)
set_option maxRecDepth 100000 in
set_option maxHeartbeats 4000000 in
theorem l_X0_writeVertex_39 {n : Nat} {T : Nat → Nat → Nat} {L : Nat → Nat → Nat → Nat} {g : Nat} {lk : Nat → Nat} {e : Nat} {X : Pk} {Z : Zk} {I : SI} {J : SJ} (hA : AJ Z.2.2.1) (C : Cx X cX0_writeVertex 7 RX0 Z (2 * e + 3) (40 * (2 * e + 3))) (hr : (xE X).sig.returnType = none) (hg : g < 2) (he : 0 < e) (hrec : ∀ e', e = e' + 1 → 0 < e' → (∀ (I : SI) (J : SJ) (f : Nat → Nat) (d tk : Nat) (B : Nat → Nat), d + e' = n → fsPre I J n T L g lk f d tk B → MX X.2.1 (Z.1, Z.2.1, Z.2.2.1) yX0_write cX0_write 7 none (2 * e' + 4) (40 * (2 * e' + 4)) [.ref (Z.2.2.1 20 0), .ref (Z.2.2.1 2 g), .int (nI d), .int (nI tk)] I J (fPost n T L g f d d B I J))) {f : Nat → Nat} {d tk v : Nat} {B : Nat → Nat} (hd : d + e = n) (hpre : fsPre I J n T L g lk f d tk B) (hvn : v < n) (hvt : tk.testBit v = false) (hwr : J 23 0 d = lN (rv T L g f d v)) (hpl : d + 1 = n → lx n (Rq T L g (va_up f d v)) B) (hdn : d + 1 < n) : ∀ k w R, n - w < k → w ≤ n → (∀ r, r ≤ d → R r = J 22 r) → (∀ a, a < w → (tk ||| 2 ^ v).testBit a = false → R (d + 1) a = lN (rv T L g (va_up f d v) (d + 1) a)) → G X 7 Z (QG X Z (fPost n T L g (va_up f d v) (d + 1) d B I J)) I (CH J (J 9) R (J 23) (J 25)) 39 [(0, .ref (Z.2.2.1 20 0)), (1, .ref (Z.2.2.1 2 g)), (2, .int (nI d)), (3, .int (nI tk)), (4, .int (nI v)), (5, .int (nI (tk ||| 2 ^ v))), (6, .int (nI w))] [] := by
  obtain ⟨hv, hlk, htk, hfn, hfi, hC, hR, hB⟩ := id hpre
  obtain ⟨⟨hn1, hn9⟩, -⟩ := id hv
  have h4 := hv.s4 hg
  have hno := tk_no htk hvt
  have htk9 : tk < 512 := htk.1
  have hor : tk ||| 2 ^ v < 2 ^ 9 := (htk.step (v := d) (show v < 9 by omega)).1
  intro k
  induction k with
  | zero => intro w R h; exact absurd h (by omega)
  | succ k ih =>
    intro w R hk hwn hR1 hR2
    have hdv : (tk ||| 2 ^ v) / 2 ^ w ≤ tk ||| 2 ^ v := Nat.div_le_self _ _
    refine g_ild C dX0_writeVertex_39 rfl ?_
    refine g_aldn C dX0_writeVertex_41 rfl ?_
    refine g_get C 2 g (by decide) (show g < 2 by omega) u1 rfl 0 rfl fX0_40 rfl rfl dX0_writeVertex_42 ?_
    refine g_top (y := (nI n)) (hv.sz hg) ?_
    refine n_icmp_ge (tgt := 85) C dX0_writeVertex_45 rfl (by omega) (by omega) (fun c45 => ?_) (fun c45 => ?_)
    · have hwn : w = n := by omega
      subst hwn
      obtain ⟨e', he'⟩ : ∃ e', e = e' + 1 := ⟨e - 1, by omega⟩
      have hpp : fsPre I (CH J (J 9) R (J 23) (J 25)) w T L g lk (va_up f d v) (d + 1) (tk ||| 2 ^ v) B := by
        refine ⟨hv, hlk, htk.step (by omega), up_lt hfn hvn, up_inj hfi hno, fun i hi => ?_, fun a ha hab => ?_, fun i hi => ?_⟩
        · rw [ch_23]
          rcases Nat.lt_or_eq_of_le (Nat.le_of_lt_succ hi) with q | q
          · rw [Rq_s q]; exact hC i q
          · subst q; rw [Rq_d]; exact hwr
        · rw [ch_22]; exact hR2 a ha hab
        · rw [ch_9]; exact hB i hi
      refine g_aldn C dX0_writeVertex_85 rfl ?_
      refine g_aldn C dX0_writeVertex_86 rfl ?_
      refine g_ildn C dX0_writeVertex_87 rfl ?_
      refine g_iconst C ((nI 1)) dX0_writeVertex_88 (by decide) ?_
      refine g_iadd (v := (nI (d + 1))) C dX0_writeVertex_89 (nI_add _ _) ?_
      refine g_ild C dX0_writeVertex_90 rfl ?_
      refine g_callV (As := [.ref (Z.2.2.1 2 g), .int (nI (d + 1)), .int (nI (tk ||| 2 ^ v))]) (st := []) C (hrec e' he' (by omega) I (CH J (J 9) R (J 23) (J 25)) (va_up f d v) (d + 1) (tk ||| 2 ^ v) B (by omega) hpp) wX0_write iX0_write sX0_write mX0_51 20 0 (by decide) (by decide) rfl rfl rfl rfl rfl rfl rfl (Bool.and_eq_true_iff.mpr ⟨Nat.ble_eq.mpr (by omega), Nat.ble_eq.mpr (by omega)⟩) dX0_writeVertex_92 ?_
      rintro v9 I9 J9 ⟨A3, R3, C3, D3, B3, h91, h92, h93, k1, k2, k3, k4, k5, k6⟩
      rw [h91, h92, h93, ch_ch]
      rw [ch_9] at k1; rw [ch_22] at k2; rw [ch_23] at k3; rw [ch_25] at k4
      clear h91 h92 h93 v9 I9 J9
      show G X _ Z _ I (CH J A3 R3 C3 D3) 95 [(0, .ref (Z.2.2.1 20 0)), (1, .ref (Z.2.2.1 2 g)), (2, .int (nI d)), (3, .int (nI tk)), (4, .int (nI v)), (5, .int (nI (tk ||| 2 ^ v))), (6, .int (nI w))] []
      exact g_return C hr dX0_writeVertex_95 ⟨A3, R3, C3, D3, B3, rfl, rfl, rfl, k1, fun r hr2 => (k2 r (by omega)).trans (hR1 r hr2), k3, k4, k5, k6⟩
    · refine g_ild C dX0_writeVertex_48 rfl ?_
      refine g_ild C dX0_writeVertex_50 rfl ?_
      refine g_ishr (v := (nI ((tk ||| 2 ^ v) / 2 ^ w))) C dX0_writeVertex_52 (shrI (by omega) (by omega)) ?_
      refine g_iconst C ((nI 1)) dX0_writeVertex_53 (by decide) ?_
      refine g_iand (v := (nI ((tk ||| 2 ^ v) / 2 ^ w % 2))) C dX0_writeVertex_54 (and1 _) ?_
      refine n_if_ne (tgt := 79) C dX0_writeVertex_55 rfl (by omega) (fun c55 => ?_) (fun c55 => ?_)
      · refine g_iinc (lv' := [(6, .int (nI (w + 1))), (0, .ref (Z.2.2.1 20 0)), (1, .ref (Z.2.2.1 2 g)), (2, .int (nI d)), (3, .int (nI tk)), (4, .int (nI v)), (5, .int (nI (tk ||| 2 ^ v)))]) C ((nI (w + 1))) dX0_writeVertex_79 rfl (inc1 _) rfl rfl ?_
        refine g_goto (tgt := 39) C dX0_writeVertex_82 rfl ?_
        refine g_lv [1, 2, 3, 4, 5, 6, 0] rfl ?_
        refine ih (w + 1) R (by omega) (by omega) hR1 (fun a ha hab => ?_)
        by_cases q : a = w
        · subst q; rw [bit_t (show (tk ||| 2 ^ v) / 2 ^ a % 2 = 1 by omega)] at hab; exact absurd hab (by decide)
        · exact hR2 a (by omega) hab
      · have hbf : (tk ||| 2 ^ v).testBit w = false := bit_f (by omega)
        have hwt : tk.testBit w = false := by rw [Nat.testBit_or] at hbf; cases hq : tk.testBit w with | false => rfl | true => rw [hq] at hbf; exact absurd hbf (by simp)
        refine g_aldn C dX0_writeVertex_58 rfl ?_
        refine g_get C 20 0 (by decide) (by decide) u0 rfl 0 rfl fX0_11 rfl rfl dX0_writeVertex_59 ?_
        refine g_ildn C dX0_writeVertex_62 rfl ?_
        refine g_iconst C ((nI 1)) dX0_writeVertex_63 (by decide) ?_
        refine g_iadd (v := (nI (d + 1))) C dX0_writeVertex_64 (nI_add _ _) ?_
        refine g_aald C 21 0 4 (by decide) (by decide) (fun _ _ => rfl) rfl rfl (d + 1) (show d + 1 < 9 by omega) rfl dX0_writeVertex_65 ?_
        refine g_ild C dX0_writeVertex_66 rfl ?_
        refine g_aldn C dX0_writeVertex_68 rfl ?_
        refine g_aldn C dX0_writeVertex_69 rfl ?_
        refine g_ildn C dX0_writeVertex_70 rfl ?_
        refine g_ild C dX0_writeVertex_71 rfl ?_
        refine g_ild C dX0_writeVertex_73 rfl ?_
        refine g_callV (As := [.ref (Z.2.2.1 2 g), .int (nI d), .int (nI w), .int (nI v)]) (st := [.int (nI w), .ref (Z.2.2.1 22 (d + 1))]) C (c_X0_longerRow hA hv hg (dp := d) (w := w) (v := v) (x := rv T L g f d w) (by omega) (show w < n by omega) hvn ((congrFun (congrFun (ch_22 _ _ _ _ _) d) w).trans ((congrFun (hR1 d (by omega)) w).trans (hR w (by omega) hwt))) (by have := rv_lt (f := f) h4 (show w < n by omega) d hfn; have := p16 (show d ≤ 8 by omega); omega)) wX0_longerRow iX0_longerRow sX0_longerRow mX0_84 20 0 (by decide) (by decide) rfl rfl rfl rfl rfl rfl rfl (Bool.and_eq_true_iff.mpr ⟨Nat.ble_eq.mpr (by omega), Nat.ble_eq.mpr (by omega)⟩) dX0_writeVertex_75 ?_
        rintro v9 I9 J9 ⟨h91, h92, h93⟩
        rw [h91, h92, h93]
        clear h91 h92 h93 v9 I9 J9
        show G X _ Z _ I (CH J (J 9) R (J 23) (J 25)) 78 [(0, .ref (Z.2.2.1 20 0)), (1, .ref (Z.2.2.1 2 g)), (2, .int (nI d)), (3, .int (nI tk)), (4, .int (nI v)), (5, .int (nI (tk ||| 2 ^ v))), (6, .int (nI w))] [.long (lN (rv T L g f d w * 16 + pr L g w v)), .int (nI w), .ref (Z.2.2.1 22 (d + 1))]
        refine g_last C 22 (d + 1) (by decide) (show d + 1 < 9 by omega) (fun _ _ => rfl) w (show w < 9 by omega) rfl dX0_writeVertex_78 ?_
        refine g_J (J1 := CH J (J 9) (up2 R (d + 1) w (lN (rv T L g f d w * 16 + pr L g w v))) (J 23) (J 25)) (by rw [ch_22, ch22]) ?_
        refine g_iinc (lv' := [(6, .int (nI (w + 1))), (0, .ref (Z.2.2.1 20 0)), (1, .ref (Z.2.2.1 2 g)), (2, .int (nI d)), (3, .int (nI tk)), (4, .int (nI v)), (5, .int (nI (tk ||| 2 ^ v)))]) C ((nI (w + 1))) dX0_writeVertex_79 rfl (inc1 _) rfl rfl ?_
        refine g_goto (tgt := 39) C dX0_writeVertex_82 rfl ?_
        refine g_lv [1, 2, 3, 4, 5, 6, 0] rfl ?_
        refine ih (w + 1) _ (by omega) (by omega) (fun r hr2 => by rw [up2_row (by omega)]; exact hR1 r hr2) (fun a ha hab => ?_)
        by_cases q : a = w
        · subst q; rw [up2_self, rv_s]
        · rw [up2_ne q]; exact hR2 a (by omega) hab

theorem fin27 {I : SI} {J : SJ} {n : Nat} {T : Nat → Nat → Nat} {L : Nat → Nat → Nat → Nat} {g d v : Nat} {f B : Nat → Nat} (hvn : v < n) (hd : d + 1 = n) (hn9 : n ≤ 9) (h4 : sm4 n T L g) (hfn : ∀ i, i < d → f i < n) (hfi : ∀ i j, i < d → j < d → f i = f j → i = j) (hno : ∀ j, j < d → f j ≠ v) (hC : ∀ i, i < d → J 23 0 i = lN (Rq T L g f i)) (hwr : J 23 0 d = lN (rv T L g f d v)) (hB : ∀ i, i < n → J 9 g i = lN (B i) ∧ B i ≤ 2 ^ 40) (hlx : lx n (Rq T L g (va_up f d v)) B) : fPost n T L g (va_up f d v) (d + 1) d B I J none I (CH J (va_up (J 9) g (va_cpy (J 23 0) (J 9 g) 0 0 n)) (J 22) (J 23) (J 25)) := by
  have hnm : nmg n (va_up f d v) := ⟨fun i hi => up_lt hfn hvn i (by omega), fun i j hi hj => up_inj hfi hno i j (by omega) (by omega)⟩
  refine ⟨_, _, _, _, Rq T L g (va_up f d v), rfl, rfl, rfl, fun r hr => va_up_ne _ _ hr, fun _ _ => rfl, fun _ _ => rfl, fun _ _ => rfl, fun i hi => ⟨?_, ?_⟩, Or.inl hlx, fun f' h1 h2 => Or.inr (fun i hi => Rq_congr (fun j hj => (h2 j (by omega)).symm)), Or.inr ⟨va_up f d v, hnm, fun _ _ => rfl, fun _ _ => rfl⟩⟩
  · rw [va_up_self, pk_cpy_in (by omega) (by omega), show 0 + (i - 0) = i by omega]
    by_cases q : i < d
    · rw [Rq_s q]; exact hC i q
    · have q2 : i = d := by omega
      subst q2
      rw [Rq_d]
      exact hwr
  · have := rv_lt (f := va_up f d v) h4 (hnm.1 i hi) i (fun j hj => hnm.1 j (by omega))
    have := p16 (show i ≤ 8 by omega)
    have e40 : (2 : Nat) ^ 40 = 1099511627776 := by decide
    unfold Rq
    omega
set_option maxRecDepth 100000 in
set_option maxHeartbeats 4000000 in
/-- writeVertex, over write one level deeper -/
theorem c_X0_writeVertex_s {l : Launch} {Y : Yk} (hA : AJ Y.2.2) {I : SI} {J : SJ} {n : Nat} {T : Nat → Nat → Nat} {L : Nat → Nat → Nat → Nat} {g : Nat} {lk : Nat → Nat} (hg : g < 2) {e : Nat} (he : 0 < e) (hrec : ∀ e', e = e' + 1 → 0 < e' → (∀ (I : SI) (J : SJ) (f : Nat → Nat) (d tk : Nat) (B : Nat → Nat), d + e' = n → fsPre I J n T L g lk f d tk B → MX l Y yX0_write cX0_write 7 none (2 * e' + 4) (40 * (2 * e' + 4)) [.ref (Y.2.2 20 0), .ref (Y.2.2 2 g), .int (nI d), .int (nI tk)] I J (fPost n T L g f d d B I J))) {f : Nat → Nat} {d tk v : Nat} {B : Nat → Nat} (hd : d + e = n) (hpre : fsPre I J n T L g lk f d tk B) (hvn : v < n) (hvt : tk.testBit v = false) (hwr : J 23 0 d = lN (rv T L g f d v)) (hpl : d + 1 = n → lx n (Rq T L g (va_up f d v)) B)  : MX l Y yX0_writeVertex cX0_writeVertex 7 (none) (2 * e + 3) (40 * (2 * e + 3)) [.ref (Y.2.2 20 0), .ref (Y.2.2 2 g), .int (nI d), .int (nI tk), .int (nI v)] I J (fPost n T L g (va_up f d v) (d + 1) d B I J) := by
  refine MX.of hA (by decide) (own := RX0) rfl rfl rfl ?_
  intro X Z hl hY1 hY2 hY3 C hr
  obtain ⟨D0, ca0, ad0⟩ := Y
  dsimp only at hA hY1 hY2 hY3
  subst hY1; subst hY2; subst hY3; subst hl
  show G X 7 Z (QG X Z _) I J 0 [(0, .ref (Z.2.2.1 20 0)), (1, .ref (Z.2.2.1 2 g)), (2, .int (nI d)), (3, .int (nI tk)), (4, .int (nI v))] []
  obtain ⟨hv, hlk, htk, hfn, hfi, hC, hR, hB⟩ := id hpre
  obtain ⟨⟨hn1, hn9⟩, -⟩ := id hv
  have h4 := hv.s4 hg
  have hno := tk_no htk hvt
  have htk9 : tk < 512 := htk.1
  refine g_ildn C dX0_writeVertex_0 rfl ?_
  refine g_aldn C dX0_writeVertex_1 rfl ?_
  refine g_get C 2 g (by decide) (show g < 2 by omega) u1 rfl 0 rfl fX0_40 rfl rfl dX0_writeVertex_2 ?_
  refine g_top (y := (nI n)) (hv.sz hg) ?_
  refine g_iconst C ((nI 1)) dX0_writeVertex_5 (by decide) ?_
  refine g_isub (v := (nI (n - 1))) C dX0_writeVertex_6 (pk_sub (by omega)) ?_
  refine n_icmp_ne (tgt := 28) C dX0_writeVertex_7 rfl (by omega) (by omega) (fun c7 => ?_) (fun c7 => ?_)
  · refine g_ildn C dX0_writeVertex_28 rfl ?_
    refine g_iconst C ((nI 1)) dX0_writeVertex_29 (by decide) ?_
    refine g_ild C dX0_writeVertex_30 rfl ?_
    refine g_ishl (v := (nI (2 ^ v))) C dX0_writeVertex_32 (shl1 v (by omega)) ?_
    refine g_ior (v := (nI (tk ||| 2 ^ v))) C dX0_writeVertex_33 (orI _ _) ?_
    refine g_ist (lv' := [(5, .int (nI (tk ||| 2 ^ v))), (0, .ref (Z.2.2.1 20 0)), (1, .ref (Z.2.2.1 2 g)), (2, .int (nI d)), (3, .int (nI tk)), (4, .int (nI v))]) C dX0_writeVertex_34 rfl rfl ?_
    refine g_iconst C ((nI 0)) dX0_writeVertex_36 (by decide) ?_
    refine g_ist (lv' := [(6, .int (nI 0)), (5, .int (nI (tk ||| 2 ^ v))), (0, .ref (Z.2.2.1 20 0)), (1, .ref (Z.2.2.1 2 g)), (2, .int (nI d)), (3, .int (nI tk)), (4, .int (nI v))]) C dX0_writeVertex_37 rfl rfl ?_
    refine g_J (J1 := CH J (J 9) (J 22) (J 23) (J 25)) (ch_id J).symm ?_
    refine g_lv [2, 3, 4, 5, 6, 1, 0] rfl ?_
    exact l_X0_writeVertex_39 hA C hr hg he hrec hd hpre hvn hvt hwr hpl (by omega) (n + 1) 0 (J 22) (by omega) (by omega) (fun _ _ => rfl) (fun a ha => absurd ha (by omega))
  · have hd27 : d + 1 = n := by omega
    refine g_aldn C dX0_writeVertex_10 rfl ?_
    refine g_get C 20 0 (by decide) (by decide) u0 rfl 1 rfl fX0_16 rfl rfl dX0_writeVertex_11 ?_
    refine g_iconst C ((nI 0)) dX0_writeVertex_14 (by decide) ?_
    refine g_aldn C dX0_writeVertex_15 rfl ?_
    refine g_get C 2 g (by decide) (show g < 2 by omega) u1 rfl 7 rfl fX0_27 rfl rfl dX0_writeVertex_16 ?_
    refine g_iconst C ((nI 0)) dX0_writeVertex_19 (by decide) ?_
    refine g_aldn C dX0_writeVertex_20 rfl ?_
    refine g_get C 2 g (by decide) (show g < 2 by omega) u1 rfl 0 rfl fX0_40 rfl rfl dX0_writeVertex_21 ?_
    refine g_top (y := (nI n)) (hv.sz hg) ?_
    refine g_copyl C mX0_78 23 0 9 g (by decide) (by decide) (by decide) (show g < 2 by omega) (fun _ _ => rfl) (fun _ _ => rfl) 0 0 n (by omega) (by omega) rfl rfl (Nat.ble_eq.mpr (by omega)) (Nat.ble_eq.mpr (by show 0 + (7 + 11) ≤ _; omega)) dX0_writeVertex_24 ?_
    refine g_J (J1 := CH J (va_up (J 9) g (va_cpy (J 23 0) (J 9 g) 0 0 n)) (J 22) (J 23) (J 25)) (by conv => rhs; rw [← ch9 J (J 9) (J 22) (J 23) (J 25) (va_up (J 9) g (va_cpy (J 23 0) (J 9 g) 0 0 n)), ch_id]) ?_
    exact g_return C hr dX0_writeVertex_27 (fin27 hvn hd27 hn9 h4 hfn hfi hno hC hwr hB (hpl hd27))
end
section
/-! ===== FormFinder: write, find ===== -/
theorem ch_23i (J : SJ) (C' : Nat → Nat → Int64) : sK J 23 C' = CH J (J 9) (J 22) C' (J 25) := by
  conv => lhs; rw [← ch_id J]
  rw [ch23]
theorem bvals {J0 : SJ} {n : Nat} {T : Nat → Nat → Nat} {L : Nat → Nat → Nat → Nat} {g d tk v le : Nat} {f s : Nat → Nat} {D : Nat → Nat → Int64} (hC : ∀ i, i < d → J0 23 0 i = lN (Rq T L g f i)) (hC2 : J0 23 0 d = lN le) (hD : bD J0 d (d * 9 + v) D) (hS : ∀ j, j < ct (sel tk v) n → D (d * 9 + v) (d + 1 + j) = lN (s j * 16 ^ j)) (hm : ct (sel tk v) n + (d + 1) = n) : ∀ i, i < n → D (d * 9 + v) i = lN ((fun i => if i < d then Rq T L g f i else if i = d then le else s (i - (d + 1)) * 16 ^ (i - (d + 1))) i) := fun i hi => by
  show D (d * 9 + v) i = lN (if i < d then Rq T L g f i else if i = d then le else s (i - (d + 1)) * 16 ^ (i - (d + 1)))
  by_cases q : i < d
  · rw [if_pos q, hD.2 i (by omega)]; exact hC i q
  · by_cases q2 : i = d
    · subst q2
      rw [if_neg q, if_pos rfl, hD.2 i (Nat.le_refl i)]; exact hC2
    · rw [if_neg q, if_neg q2]
      have := hS (i - (d + 1)) (by omega)
      rw [show d + 1 + (i - (d + 1)) = i by omega] at this
      exact this
theorem ct_wo {op l n : Nat} (hl : l < n) (h : op.testBit l = true) : ct (fun u => (wo op (2 ^ l)).testBit u) n + 1 = ct (fun u => op.testBit u) n := by
  have h1 := ct_upd (p := fun u => (wo op (2 ^ l)).testBit u) (q := fun u => op.testBit u) (k := l) (fun i hi => by
    show (wo op (2 ^ l)).testBit i = op.testBit i
    rw [wo_bit, Nat.testBit_two_pow, decide_eq_false (Ne.symm hi)]
    simp) n hl
  have h2 : (wo op (2 ^ l)).testBit l = false := by rw [wo_bit, Nat.testBit_two_pow, decide_eq_true rfl]; simp
  simp only [h, h2] at h1
  simpa using h1
theorem wo_sub {op l u : Nat} (h : (wo op (2 ^ l)).testBit u = true) : op.testBit u = true := by
  rw [wo_bit] at h
  exact (Bool.and_eq_true_iff.mp h).1
set_option maxRecDepth 100000 in
set_option maxHeartbeats 4000000 in
theorem l_X0_write_59 {n : Nat} {T : Nat → Nat → Nat} {L : Nat → Nat → Nat → Nat} {g : Nat} {lk : Nat → Nat} {e : Nat} {X : Pk} {Z : Zk} {I : SI} {J : SJ} (hA : AJ Z.2.2.1) (C0 : Cx X cX0_write 7 RX0 Z (2 * e + 4) (40 * (2 * e + 4))) (hr : (xE X).sig.returnType = none) (hg : g < 2) (he : 0 < e) (hrec : (∀ (I : SI) (J : SJ) (f : Nat → Nat) (d tk v : Nat) (B : Nat → Nat), d + e = n → fsPre I J n T L g lk f d tk B → v < n → tk.testBit v = false → J 23 0 d = lN (rv T L g f d v) → (d + 1 = n → lx n (Rq T L g (va_up f d v)) B) → MX X.2.1 (Z.1, Z.2.1, Z.2.2.1) yX0_writeVertex cX0_writeVertex 7 none (2 * e + 3) (40 * (2 * e + 3)) [.ref (Z.2.2.1 20 0), .ref (Z.2.2.1 2 g), .int (nI d), .int (nI tk), .int (nI v)] I J (fPost n T L g (va_up f d v) (d + 1) d B I J))) {f : Nat → Nat} {d tk : Nat} {B : Nat → Nat} (hd : d + e = n) (hpre : fsPre I J n T L g lk f d tk B) {fd le : Nat} (hcn : cnd tk lk (rv T L g f d) n fd le) {b : Nat → Nat → Nat} (hbn : ∀ u, u < n → fd.testBit u = true → bnd n T L g f d u (b u)) : ∀ k t op (A R C D : Nat → Nat → Int64) (B1 : Nat → Nat), n - t < k → (∀ r, r ≠ g → A r = J 9 r) → (∀ r, r ≤ d → R r = J 22 r) → (∀ i, i < d → C 0 i = J 23 0 i) → C 0 d = lN le → (∀ r, r < d * 9 → D r = J 25 r) → (∀ u, u < n → fd.testBit u = true → ∀ i, i < n → D (d * 9 + u) i = lN (b u i)) → (∀ i, i < n → A g i = lN (B1 i) ∧ B1 i ≤ 2 ^ 40) → (∀ u, op.testBit u = true → fd.testBit u = true) → op < 2 ^ 9 → ct (fun u => op.testBit u) n + t ≤ n → WI n T L g f d fd op B B1 → G X 7 Z (QG X Z (fPost n T L g f d d B I J)) I (CH J A R C D) 59 [(0, .ref (Z.2.2.1 20 0)), (1, .ref (Z.2.2.1 2 g)), (2, .int (nI d)), (3, .int (nI tk)), (4, .int (nI op)), (5, .int (nI t))] [] := by
  obtain ⟨hv, hlk, htk, hfn, hfi, hC, hR, hB⟩ := id hpre
  obtain ⟨⟨hn1, hn9⟩, -⟩ := id hv
  have h4 := hv.s4 hg
  have htk9 : tk < 512 := htk.1
  intro k
  induction k with
  | zero => intro t op A R C D B1 h; exact absurd h (by omega)
  | succ k ih =>
    intro t op A R C D B1 hk hA1 hR1 hC1 hC2 hD1 hD2 hB1 hop hop9 hct hW
    refine g_ild C0 dX0_write_59 rfl ?_
    refine g_aldn C0 dX0_write_61 rfl ?_
    refine g_get C0 2 g (by decide) (show g < 2 by omega) u1 rfl 0 rfl fX0_40 rfl rfl dX0_write_62 ?_
    refine g_top (y := (nI n)) (hv.sz hg) ?_
    refine n_icmp_ge (tgt := 124) C0 dX0_write_65 rfl (by omega) (by omega) (fun c65 => ?_) (fun c65 => ?_)
    · exact g_return C0 hr dX0_write_124 ⟨A, R, C, D, B1, rfl, rfl, rfl, hA1, hR1, hC1, hD1, hB1, hW.fin hn9 (by omega) h4 hfn htk.2 (fun a ha => (hlk a ha).2) hcn (fun f' h1 h2 h3 => absurd (ct_in (p := fun u => op.testBit u) (h1.1 d (by omega)) h3) (by omega))⟩
    · refine g_aldn C0 dX0_write_68 rfl ?_
      refine g_aldn C0 dX0_write_69 rfl ?_
      refine g_get C0 2 g (by decide) (show g < 2 by omega) u1 rfl 0 rfl fX0_40 rfl rfl dX0_write_70 ?_
      refine g_top (y := (nI n)) (hv.sz hg) ?_
      refine g_ildn C0 dX0_write_73 rfl ?_
      refine g_ild C0 dX0_write_74 rfl ?_
      refine g_callV (As := [.int (nI n), .int (nI d), .int (nI op)]) (st := []) C0 (c_X0_leastBounded hA hn9 (dp := d) (by omega) (op := op) hop9 (b := b) (fun a ha hb i hi => ⟨by rw [ch_25]; exact hD2 a ha (hop a hb) i hi, (hbn a ha (hop a hb)).1 i hi⟩)) wX0_leastBounded iX0_leastBounded sX0_leastBounded mX0_67 20 0 (by decide) (by decide) rfl rfl rfl rfl rfl rfl rfl (Bool.and_eq_true_iff.mpr ⟨Nat.ble_eq.mpr (by omega), Nat.ble_eq.mpr (by omega)⟩) dX0_write_76 ?_
      rintro v9 I9 J9 ⟨⟨z, h91, hz⟩, h92, h93⟩
      rw [h91, h92, h93]
      clear h91 h92 h93 v9 I9 J9
      show G X _ Z _ I (CH J A R C D) 79 [(0, .ref (Z.2.2.1 20 0)), (1, .ref (Z.2.2.1 2 g)), (2, .int (nI d)), (3, .int (nI tk)), (4, .int (nI op)), (5, .int (nI t))] [.int z]
      refine g_ist (lv' := [(6, .int z), (0, .ref (Z.2.2.1 20 0)), (1, .ref (Z.2.2.1 2 g)), (2, .int (nI d)), (3, .int (nI tk)), (4, .int (nI op)), (5, .int (nI t))]) C0 dX0_write_79 rfl rfl ?_
      rcases hz with ⟨rfl, hno⟩ | ⟨l, rfl, h1, h2, h3⟩
      · refine g_ild C0 dX0_write_81 rfl ?_
        refine g_if_lt (tgt := 97) C0 dX0_write_83 rfl (fun c83 => ?_) (fun c83 => absurd (by decide) c83)
        · exact g_return C0 hr dX0_write_97 ⟨A, R, C, D, B1, rfl, rfl, rfl, hA1, hR1, hC1, hD1, hB1, hW.fin hn9 (by omega) h4 hfn htk.2 (fun a ha => (hlk a ha).2) hcn (fun f' h1 h2 h3 => absurd h3 (by rw [hno _ (h1.1 d (by omega))]; decide))⟩
      · have hfl := hop l h2
        obtain ⟨-, hol, hrl⟩ := (hcn.2.2.1 l).mp hfl
        have hbl := hbn l h1 hfl
        refine g_ild C0 dX0_write_81 rfl ?_
        refine n_if_lt (tgt := 97) C0 dX0_write_83 rfl (by omega) (fun c83 => absurd c83 (by omega)) (fun c83 => ?_)
        · refine g_aldn C0 dX0_write_86 rfl ?_
          refine g_aldn C0 dX0_write_87 rfl ?_
          refine g_ildn C0 dX0_write_88 rfl ?_
          refine g_ild C0 dX0_write_89 rfl ?_
          refine g_callV (As := [.ref (Z.2.2.1 2 g), .int (nI d), .int (nI l)]) (st := []) C0 (c_X0_promisesLess hA hv hg (dp := d) (v := l) (by omega) h1 (A := b l) (B := B1) (fun i hi => ⟨by rw [ch_25]; exact hD2 l h1 hfl i hi, hbl.1 i hi⟩) (fun i hi => ⟨by rw [ch_9]; exact (hB1 i hi).1, by have := (hB1 i hi).2; omega⟩)) wX0_promisesLess iX0_promisesLess sX0_promisesLess mX0_71 20 0 (by decide) (by decide) rfl rfl rfl rfl rfl rfl rfl (Bool.and_eq_true_iff.mpr ⟨Nat.ble_eq.mpr (by omega), Nat.ble_eq.mpr (by omega)⟩) dX0_write_91 ?_
          rintro v9 I9 J9 ⟨⟨q, h91, hq⟩, h92, h93⟩
          rw [h91, h92, h93]
          clear h91 h92 h93 v9 I9 J9
          show G X _ Z _ I (CH J A R C D) 94 [(6, .int (nI l)), (0, .ref (Z.2.2.1 20 0)), (1, .ref (Z.2.2.1 2 g)), (2, .int (nI d)), (3, .int (nI tk)), (4, .int (nI op)), (5, .int (nI t))] [.int (bI q)]
          refine b_if_ne (tgt := 98) C0 dX0_write_94 rfl (fun c94 => ?_) (fun c94 => ?_)
          · refine g_ild C0 dX0_write_98 rfl ?_
            refine g_iconst C0 ((nI 1)) dX0_write_100 (by decide) ?_
            refine g_ild C0 dX0_write_101 rfl ?_
            refine g_ishl (v := (nI (2 ^ l))) C0 dX0_write_103 (shl1 l (by omega)) ?_
            refine g_iconst C0 ((-1)) dX0_write_104 (by decide) ?_
            refine g_ixor (v := (nI (2 ^ l) ^^^ (-1))) C0 dX0_write_105 rfl ?_
            refine g_iand (v := (nI (wo op (2 ^ l)))) C0 dX0_write_106 (notI _ _) ?_
            refine g_ist (lv' := [(4, .int (nI (wo op (2 ^ l)))), (6, .int (nI l)), (0, .ref (Z.2.2.1 20 0)), (1, .ref (Z.2.2.1 2 g)), (2, .int (nI d)), (3, .int (nI tk)), (5, .int (nI t))]) C0 dX0_write_107 rfl rfl ?_
            refine g_aldn C0 dX0_write_109 rfl ?_
            refine g_aldn C0 dX0_write_110 rfl ?_
            refine g_ildn C0 dX0_write_111 rfl ?_
            refine g_ildn C0 dX0_write_112 rfl ?_
            refine g_ild C0 dX0_write_113 rfl ?_
            refine g_callV (As := [.ref (Z.2.2.1 2 g), .int (nI d), .int (nI tk), .int (nI l)]) (st := []) C0 (hrec I (CH J A R C D) f d tk l B1 hd ⟨hv, hlk, htk, hfn, hfi, fun i hi => by rw [ch_23, hC1 i hi]; exact hC i hi, fun a ha hb => by rw [ch_22, hR1 d (Nat.le_refl d)]; exact hR a ha hb, fun i hi => by rw [ch_9]; exact hB1 i hi⟩ h1 hol.1 (by rw [ch_23, hC2, hrl]) (fun q1 => lx_l (hq.mp c94) (hbl.2.2 q1))) wX0_writeVertex iX0_writeVertex sX0_writeVertex mX0_75 20 0 (by decide) (by decide) rfl rfl rfl rfl rfl rfl rfl (Bool.and_eq_true_iff.mpr ⟨Nat.ble_eq.mpr (by omega), Nat.ble_eq.mpr (by omega)⟩) dX0_write_115 ?_
            rintro v9 I9 J9 ⟨A3, R3, C3, D3, B3, h91, h92, h93, k1, k2, k3, k4, k5, k6⟩
            rw [h91, h92, h93, ch_ch]
            rw [ch_9] at k1; rw [ch_22] at k2; rw [ch_23] at k3; rw [ch_25] at k4
            clear h91 h92 h93 v9 I9 J9
            show G X _ Z _ I (CH J A3 R3 C3 D3) 118 [(4, .int (nI (wo op (2 ^ l)))), (6, .int (nI l)), (0, .ref (Z.2.2.1 20 0)), (1, .ref (Z.2.2.1 2 g)), (2, .int (nI d)), (3, .int (nI tk)), (5, .int (nI t))] []
            refine g_iinc (lv' := [(5, .int (nI (t + 1))), (4, .int (nI (wo op (2 ^ l)))), (6, .int (nI l)), (0, .ref (Z.2.2.1 20 0)), (1, .ref (Z.2.2.1 2 g)), (2, .int (nI d)), (3, .int (nI tk))]) C0 ((nI (t + 1))) dX0_write_118 rfl (inc1 _) rfl rfl ?_
            refine g_goto (tgt := 59) C0 dX0_write_121 rfl ?_
            refine g_lv [3, 4, 5, 6, 1, 0] rfl ?_
            exact ih (t + 1) (wo op (2 ^ l)) A3 R3 C3 D3 B3 (by omega) (fun r h => (k1 r h).trans (hA1 r h)) (fun r h => (k2 r h).trans (hR1 r h)) (fun i h => (k3 i (by omega)).trans (hC1 i h)) ((k3 d (by omega)).trans hC2) (fun r h => (k4 r (by omega)).trans (hD1 r h)) (fun u hu hb i hi => by rw [k4 (d * 9 + u) (by omega)]; exact hD2 u hu hb i hi) k5 (fun u hu => hop u (wo_sub hu)) (wo_lt hop9) (by have := ct_wo h1 h2; omega) (hW.step k6)
          · exact g_return C0 hr dX0_write_97 ⟨A, R, C, D, B1, rfl, rfl, rfl, hA1, hR1, hC1, hD1, hB1, hW.fin hn9 (by omega) h4 hfn htk.2 (fun a ha => (hlk a ha).2) hcn (fun f' g1 g2 g3 => lxe_tr (lxe_of (fun q2 => absurd (hq.mpr q2) (by rw [c94]; decide))) (lxe_tr (lxe_of (h3 _ (g1.1 d (by omega)) g3)) ((hbn _ (g1.1 d (by omega)) (hop _ g3)).2.1 f' g1 g2 rfl)))⟩

set_option maxRecDepth 100000 in
set_option maxHeartbeats 4000000 in
theorem l_X0_write_21 {n : Nat} {T : Nat → Nat → Nat} {L : Nat → Nat → Nat → Nat} {g : Nat} {lk : Nat → Nat} {e : Nat} {X : Pk} {Z : Zk} {I : SI} {J : SJ} (hA : AJ Z.2.2.1) (C0 : Cx X cX0_write 7 RX0 Z (2 * e + 4) (40 * (2 * e + 4))) (hr : (xE X).sig.returnType = none) (hg : g < 2) (he : 0 < e) (hrec : (∀ (I : SI) (J : SJ) (f : Nat → Nat) (d tk v : Nat) (B : Nat → Nat), d + e = n → fsPre I J n T L g lk f d tk B → v < n → tk.testBit v = false → J 23 0 d = lN (rv T L g f d v) → (d + 1 = n → lx n (Rq T L g (va_up f d v)) B) → MX X.2.1 (Z.1, Z.2.1, Z.2.2.1) yX0_writeVertex cX0_writeVertex 7 none (2 * e + 3) (40 * (2 * e + 3)) [.ref (Z.2.2.1 20 0), .ref (Z.2.2.1 2 g), .int (nI d), .int (nI tk), .int (nI v)] I J (fPost n T L g (va_up f d v) (d + 1) d B I J))) {f : Nat → Nat} {d tk : Nat} {B : Nat → Nat} (hd : d + e = n) (hpre : fsPre I J n T L g lk f d tk B) {fd le : Nat} (hcn : cnd tk lk (rv T L g f d) n fd le) : ∀ k v (D : Nat → Nat → Int64) (b : Nat → Nat → Nat), n - v < k → v ≤ n → (∀ r, r < d * 9 → D r = J 25 r) → (∀ u, u < v → fd.testBit u = true → bnd n T L g f d u (b u) ∧ ∀ i, i < n → D (d * 9 + u) i = lN (b u i)) → G X 7 Z (QG X Z (fPost n T L g f d d B I J)) I (CH J (J 9) (J 22) (up2 (J 23) 0 d (lN le)) D) 21 [(0, .ref (Z.2.2.1 20 0)), (1, .ref (Z.2.2.1 2 g)), (2, .int (nI d)), (3, .int (nI tk)), (4, .int (nI fd)), (5, .int (nI v))] [] := by
  obtain ⟨hv, hlk, htk, hfn, hfi, hC, hR, hB⟩ := id hpre
  obtain ⟨⟨hn1, hn9⟩, -⟩ := id hv
  have h4 := hv.s4 hg
  have htk9 : tk < 512 := htk.1
  have hfd9 := hcn.1
  intro k
  induction k with
  | zero => intro v D b h; exact absurd h (by omega)
  | succ k ih =>
    intro v D b hk hvn hD1 hD2
    have hdv : fd / 2 ^ v ≤ fd := Nat.div_le_self _ _
    refine g_ild C0 dX0_write_21 rfl ?_
    refine g_aldn C0 dX0_write_23 rfl ?_
    refine g_get C0 2 g (by decide) (show g < 2 by omega) u1 rfl 0 rfl fX0_40 rfl rfl dX0_write_24 ?_
    refine g_top (y := (nI n)) (hv.sz hg) ?_
    refine n_icmp_ge (tgt := 56) C0 dX0_write_27 rfl (by omega) (by omega) (fun c27 => ?_) (fun c27 => ?_)
    · have hvn : v = n := by omega
      refine g_iconst C0 ((nI 0)) dX0_write_56 (by decide) ?_
      refine g_ist (lv' := [(5, .int (nI 0)), (0, .ref (Z.2.2.1 20 0)), (1, .ref (Z.2.2.1 2 g)), (2, .int (nI d)), (3, .int (nI tk)), (4, .int (nI fd))]) C0 dX0_write_57 rfl rfl ?_
      refine g_lv [1, 2, 3, 4, 5, 0] rfl ?_
      exact l_X0_write_59 hA C0 hr hg he hrec hd hpre hcn (b := b) (fun u hu hb => (hD2 u (by omega) hb).1) (n + 1) 0 fd (J 9) (J 22) (up2 (J 23) 0 d (lN le)) D B (by omega) (fun _ _ => rfl) (fun _ _ => rfl) (fun i hi => by rw [up2_ne (by omega)]) up2_self hD1 (fun u hu hb => (hD2 u (by omega) hb).2) hB (fun _ h => h) hcn.1 (by have := ct_le (fun u => fd.testBit u) n; omega) ⟨lxe_rf _ _, fun f' _ _ h3 h4 => absurd h3 (by rw [h4]; decide), Or.inl (fun _ _ => rfl)⟩
    · refine g_ild C0 dX0_write_30 rfl ?_
      refine g_ild C0 dX0_write_32 rfl ?_
      refine g_ishr (v := (nI (fd / 2 ^ v))) C0 dX0_write_34 (shrI (by omega) (by omega)) ?_
      refine g_iconst C0 ((nI 1)) dX0_write_35 (by decide) ?_
      refine g_iand (v := (nI (fd / 2 ^ v % 2))) C0 dX0_write_36 (and1 _) ?_
      refine g_iconst C0 ((nI 1)) dX0_write_37 (by decide) ?_
      refine n_icmp_ne (tgt := 50) C0 dX0_write_38 rfl (by omega) (by omega) (fun c38 => ?_) (fun c38 => ?_)
      · refine g_iinc (lv' := [(5, .int (nI (v + 1))), (0, .ref (Z.2.2.1 20 0)), (1, .ref (Z.2.2.1 2 g)), (2, .int (nI d)), (3, .int (nI tk)), (4, .int (nI fd))]) C0 ((nI (v + 1))) dX0_write_50 rfl (inc1 _) rfl rfl ?_
        refine g_goto (tgt := 21) C0 dX0_write_53 rfl ?_
        refine g_lv [1, 2, 3, 4, 5, 0] rfl ?_
        exact ih (v + 1) D b (by omega) (by omega) hD1 (fun u hu hb => by rcases Nat.lt_or_eq_of_le (Nat.le_of_lt_succ hu) with q | q; exact hD2 u q hb; subst q; exact absurd hb (by rw [bit_f c38]; decide))
      · have hfv : fd.testBit v = true := bit_t c38
        obtain ⟨-, hov, hrv⟩ := (hcn.2.2.1 v).mp hfv
        have hcs := sel_ct hfn hfi htk.2 (show v < n by omega) hov.1
        have hyy : ∀ a, a < n → tk.testBit a = false → rv T L g f d a * 16 + pr L g a v < 4 * 16 ^ (d + 1) := fun a ha _ => by rw [← rv_s (f := f) (d := d) (v := v) a]; exact rv_lt h4 ha (d + 1) (up_lt hfn (by omega))
        have hYB : 4 * 16 ^ (d + 1) ≤ 2 ^ 40 := by rw [Nat.pow_succ]; have := p16 (show d ≤ 8 by omega); omega
        refine g_aldn C0 dX0_write_41 rfl ?_
        refine g_aldn C0 dX0_write_42 rfl ?_
        refine g_ildn C0 dX0_write_43 rfl ?_
        refine g_ildn C0 dX0_write_44 rfl ?_
        refine g_ild C0 dX0_write_45 rfl ?_
        refine g_callV (As := [.ref (Z.2.2.1 2 g), .int (nI d), .int (nI tk), .int (nI v)]) (st := []) C0 (c_X0_bound hA hv hg (dp := d) (tk := tk) (v := v) (by omega) htk.1 (show v < n by omega) (r := rv T L g f d) (fun a ha hb => by rw [ch_22]; exact hR a ha hb) (YB := 4 * 16 ^ (d + 1)) hYB hyy (by omega)) wX0_bound iX0_bound sX0_bound mX0_63 20 0 (by decide) (by decide) rfl rfl rfl rfl rfl rfl rfl (Bool.and_eq_true_iff.mpr ⟨Nat.ble_eq.mpr (by omega), Nat.ble_eq.mpr (by omega)⟩) dX0_write_47 ?_
        rintro v9 I9 J9 ⟨D3, s, h91, h92, h93, k1, k2, k3⟩
        rw [h91, h92, h93, ch25]
        clear h91 h92 h93 v9 I9 J9
        show G X _ Z _ I (CH J (J 9) (J 22) (up2 (J 23) 0 d (lN le)) D3) 50 [(0, .ref (Z.2.2.1 20 0)), (1, .ref (Z.2.2.1 2 g)), (2, .int (nI d)), (3, .int (nI tk)), (4, .int (nI fd)), (5, .int (nI v))] []
        refine g_iinc (lv' := [(5, .int (nI (v + 1))), (0, .ref (Z.2.2.1 20 0)), (1, .ref (Z.2.2.1 2 g)), (2, .int (nI d)), (3, .int (nI tk)), (4, .int (nI fd))]) C0 ((nI (v + 1))) dX0_write_50 rfl (inc1 _) rfl rfl ?_
        refine g_goto (tgt := 21) C0 dX0_write_53 rfl ?_
        refine g_lv [1, 2, 3, 4, 5, 0] rfl ?_
        refine ih (v + 1) D3 (va_up b v (fun i => if i < d then Rq T L g f i else if i = d then le else s (i - (d + 1)) * 16 ^ (i - (d + 1)))) (by omega) (by omega) (fun r h => by rw [k1.1 r (by omega), ch_25]; exact hD1 r h) (fun u hu hb => ?_)
        by_cases q : u = v
        · subst q; rw [va_up_self]; exact ⟨bnd.mk hn9 (by omega) h4 hfn htk.2 hrv.symm (by omega) k2 hcs, bvals (fun i hi => by rw [ch_23, up2_ne (by omega)]; exact hC i hi) (by rw [ch_23, up2_self]) k1 k3 hcs⟩
        · rw [va_up_ne _ _ q]; obtain ⟨q1, q2⟩ := hD2 u (by omega) hb; exact ⟨q1, fun i hi => by rw [k1.1 (d * 9 + u) (by omega), ch_25]; exact q2 i hi⟩

set_option maxRecDepth 100000 in
set_option maxHeartbeats 4000000 in
/-- write, over writeVertex -/
theorem c_X0_write_s {l : Launch} {Y : Yk} (hA : AJ Y.2.2) {I : SI} {J : SJ} {n : Nat} {T : Nat → Nat → Nat} {L : Nat → Nat → Nat → Nat} {g : Nat} {lk : Nat → Nat} (hg : g < 2) {e : Nat} (he : 0 < e) (hrec : (∀ (I : SI) (J : SJ) (f : Nat → Nat) (d tk v : Nat) (B : Nat → Nat), d + e = n → fsPre I J n T L g lk f d tk B → v < n → tk.testBit v = false → J 23 0 d = lN (rv T L g f d v) → (d + 1 = n → lx n (Rq T L g (va_up f d v)) B) → MX l Y yX0_writeVertex cX0_writeVertex 7 none (2 * e + 3) (40 * (2 * e + 3)) [.ref (Y.2.2 20 0), .ref (Y.2.2 2 g), .int (nI d), .int (nI tk), .int (nI v)] I J (fPost n T L g (va_up f d v) (d + 1) d B I J))) {f : Nat → Nat} {d tk : Nat} {B : Nat → Nat} (hd : d + e = n) (hpre : fsPre I J n T L g lk f d tk B)  : MX l Y yX0_write cX0_write 7 (none) (2 * e + 4) (40 * (2 * e + 4)) [.ref (Y.2.2 20 0), .ref (Y.2.2 2 g), .int (nI d), .int (nI tk)] I J (fPost n T L g f d d B I J) := by
  refine MX.of hA (by decide) (own := RX0) rfl rfl rfl ?_
  intro X Z hl hY1 hY2 hY3 C hr
  obtain ⟨D0, ca0, ad0⟩ := Y
  dsimp only at hA hY1 hY2 hY3
  subst hY1; subst hY2; subst hY3; subst hl
  show G X 7 Z (QG X Z _) I J 0 [(0, .ref (Z.2.2.1 20 0)), (1, .ref (Z.2.2.1 2 g)), (2, .int (nI d)), (3, .int (nI tk))] []
  obtain ⟨hv, hlk, htk, hfn, hfi, hC, hR, hB⟩ := id hpre
  obtain ⟨⟨hn1, hn9⟩, -⟩ := id hv
  have h4 := hv.s4 hg
  have htk9 : tk < 512 := htk.1
  refine g_ildn C dX0_write_0 rfl ?_
  refine g_aldn C dX0_write_1 rfl ?_
  refine g_get C 2 g (by decide) (show g < 2 by omega) u1 rfl 0 rfl fX0_40 rfl rfl dX0_write_2 ?_
  refine g_top (y := (nI n)) (hv.sz hg) ?_
  refine n_icmp_lt (tgt := 9) C dX0_write_5 rfl (by omega) (by omega) (fun c5 => ?_) (fun c5 => ?_)
  · refine g_aldn C dX0_write_9 rfl ?_
    refine g_aldn C dX0_write_10 rfl ?_
    refine g_ildn C dX0_write_11 rfl ?_
    refine g_ildn C dX0_write_12 rfl ?_
    refine g_callV (As := [.ref (Z.2.2.1 2 g), .int (nI d), .int (nI tk)]) (st := []) C (c_X0_candidates hA hv hg (dp := d) (tk := tk) (by omega) htk.1 (lk := lk) (r := rv T L g f d) (fun a ha => ⟨(hlk a ha).1, (hlk a ha).2.1⟩) (fun a ha hb => ⟨hR a ha hb, by have := rv_lt (f := f) h4 ha d hfn; have := p16 (show d ≤ 8 by omega); omega⟩)) wX0_candidates iX0_candidates sX0_candidates mX0_59 20 0 (by decide) (by decide) rfl rfl rfl rfl rfl rfl rfl (Bool.and_eq_true_iff.mpr ⟨Nat.ble_eq.mpr (by omega), Nat.ble_eq.mpr (by omega)⟩) dX0_write_13 ?_
    rintro v9 I9 J9 ⟨fd, le, h91, h92, h93, hcn⟩
    rw [h91, h92, h93, ch_23i]
    clear h91 h92 h93 v9 I9 J9
    show G X _ Z _ I (CH J (J 9) (J 22) (up2 (J 23) 0 d (lN le)) (J 25)) 16 [(0, .ref (Z.2.2.1 20 0)), (1, .ref (Z.2.2.1 2 g)), (2, .int (nI d)), (3, .int (nI tk))] [.int (nI fd)]
    refine g_ist (lv' := [(4, .int (nI fd)), (0, .ref (Z.2.2.1 20 0)), (1, .ref (Z.2.2.1 2 g)), (2, .int (nI d)), (3, .int (nI tk))]) C dX0_write_16 rfl rfl ?_
    refine g_iconst C ((nI 0)) dX0_write_18 (by decide) ?_
    refine g_ist (lv' := [(5, .int (nI 0)), (4, .int (nI fd)), (0, .ref (Z.2.2.1 20 0)), (1, .ref (Z.2.2.1 2 g)), (2, .int (nI d)), (3, .int (nI tk))]) C dX0_write_19 rfl rfl ?_
    refine g_lv [2, 3, 4, 5, 1, 0] rfl ?_
    exact l_X0_write_21 hA C hr hg he hrec hd hpre hcn (n + 1) 0 (J 25) (fun _ _ => 0) (by omega) (by omega) (fun _ _ => rfl) (fun u hu => absurd hu (by omega))
  · exact absurd c5 (by omega)

theorem c_X0_write {l : Launch} {Y : Yk} (hA : AJ Y.2.2) {n : Nat} {T : Nat → Nat → Nat} {L : Nat → Nat → Nat → Nat} {g : Nat} {lk : Nat → Nat} (hg : g < 2) : ∀ e, 0 < e → (∀ (I : SI) (J : SJ) (f : Nat → Nat) (d tk : Nat) (B : Nat → Nat), d + e = n → fsPre I J n T L g lk f d tk B → MX l Y yX0_write cX0_write 7 none (2 * e + 4) (40 * (2 * e + 4)) [.ref (Y.2.2 20 0), .ref (Y.2.2 2 g), .int (nI d), .int (nI tk)] I J (fPost n T L g f d d B I J)) := by
  intro e
  induction e with
  | zero => intro h; exact absurd h (by omega)
  | succ e ih =>
    intro _ I J f d tk B hd hpre
    exact c_X0_write_s hA hg (Nat.succ_pos e) (fun I J f d tk v B hd hpre h1 h2 h3 h4 => c_X0_writeVertex_s hA hg (Nat.succ_pos e) (fun e' h5 h6 => (show e' = e by omega) ▸ ih ((show e' = e by omega) ▸ h6)) hd hpre h1 h2 h3 h4) hd hpre
end
section
/-! ===== FormFinder: find ===== -/
/-- B is the form, as rows: some naming writes it, and none writes less -/
def frm (n : Nat) (T : Nat → Nat → Nat) (L : Nat → Nat → Nat → Nat) (g : Nat) (B : Nat → Nat) : Prop := (∃ f, nmg n f ∧ ∀ i, i < n → B i = Rq T L g f i) ∧ ∀ f, nmg n f → lxe n B (Rq T L g f)
theorem frm_of {n : Nat} {T : Nat → Nat → Nat} {L : Nat → Nat → Nat → Nat} {g : Nat} {f B : Nat → Nat} (hn1 : 1 ≤ n) (hn9 : n ≤ 9) (h4 : sm4 n T L g) (h : MB n T L g f 0 (fun _ => 1099511627776) B) : frm n T L g B := by
  refine ⟨?_, fun f' h1 => h.2.1 f' h1 (fun i hi => absurd hi (by omega))⟩
  rcases h.2.2 with q | ⟨f', h1, -, h3⟩
  · exfalso
    have hid : nmg n (fun i => i) := ⟨fun i hi => hi, fun i j _ _ e => e⟩
    have h2 := h.2.1 _ hid (fun i hi => absurd hi (by omega))
    refine lxe_no h2 ⟨0, by omega, fun j hj => absurd hj (by omega), ?_⟩
    rw [q 0 (by omega)]
    have := h4.1 0 (by omega)
    show T g 0 < 1099511627776
    omega
  · exact ⟨f', h1, h3⟩
def fdPost (n : Nat) (T : Nat → Nat → Nat) (L : Nat → Nat → Nat → Nat) (g : Nat) (I : SI) (J : SJ) : Option Value → SI → SJ → Prop := fun v' I' J' =>
  ∃ (A R C D : Nat → Nat → Int64) (K : Nat → Nat → Int32) (B : Nat → Nat), v' = none ∧ I' = sK I 26 K ∧ J' = CH J A R C D ∧ (∀ r, r ≠ g → A r = J 9 r) ∧ (∀ i, i < n → A g i = lN (B i) ∧ B i ≤ 2 ^ 40) ∧ frm n T L g B
theorem ch_9i (J : SJ) (A' : Nat → Nat → Int64) : sK J 9 A' = CH J A' (J 22) (J 23) (J 25) := by
  conv => lhs; rw [← ch_id J]
  rw [ch9]
set_option maxRecDepth 100000 in
set_option maxHeartbeats 4000000 in
theorem l_X0_find_12 {X : Pk} {Z : Zk} {I : SI} {J : SJ} (hA : AJ Z.2.2.1) (C : Cx X cX0_find 3 RX0 Z 24 1000) (hr : (xE X).sig.returnType = none) {n : Nat} {T : Nat → Nat → Nat} {L : Nat → Nat → Nat → Nat} (hv : CV I n T L) {g : Nat} (hg : g < 2) : ∀ k v (R : Nat → Nat → Int64) (K : Nat → Nat → Int32) (lk : Nat → Nat), n - v < k → v ≤ n → (∀ a, a < v → R 0 a = lN (T g a)) → (∀ a, a < v → K 0 a = nI (lk a) ∧ lks n T L g a a (lk a)) → G X 3 Z (QG X Z (fdPost n T L g I J)) (sK I 26 K) (CH J (va_up (J 9) g (fl (J 9 g) 9 (lN 1099511627776))) R (J 23) (J 25)) 12 [(0, .ref (Z.2.2.1 20 0)), (1, .ref (Z.2.2.1 2 g)), (2, .int (nI v))] [] := by
  obtain ⟨⟨hn1, hn9⟩, -⟩ := id hv
  intro k
  induction k with
  | zero => intro v R K lk h; exact absurd h (by omega)
  | succ k ih =>
    intro v R K lk hk hvn hR hK
    have hv2 := (hv.of (I' := sK I 26 K) (sK_ne (by decide)) (sK_ne (by decide)) (sK_ne (by decide)))
    have ht4 : v < n → T g v < 4 := fun h => hv.t4 hg h
    refine g_ildn C dX0_find_12 rfl ?_
    refine g_aldn C dX0_find_13 rfl ?_
    refine g_get C 2 g (by decide) (show g < 2 by omega) u1 rfl 0 rfl fX0_40 rfl rfl dX0_find_14 ?_
    refine g_top (y := (nI n)) (hv2.sz hg) ?_
    refine n_icmp_ge (tgt := 52) C dX0_find_17 rfl (by omega) (by omega) (fun c17 => ?_) (fun c17 => ?_)
    · refine g_aldn C dX0_find_52 rfl ?_
      refine g_aldn C dX0_find_53 rfl ?_
      refine g_iconst C ((nI 0)) dX0_find_54 (by decide) ?_
      refine g_iconst C ((nI 0)) dX0_find_55 (by decide) ?_
      refine g_callV (As := [.ref (Z.2.2.1 2 g), .int (nI 0), .int (nI 0)]) (st := []) C (c_X0_write hA hg n (by omega) (sK I 26 K) (CH J (va_up (J 9) g (fl (J 9 g) 9 (lN 1099511627776))) R (J 23) (J 25)) (fun _ => 0) 0 0 (fun _ => 1099511627776) (by omega) ⟨hv2, fun a ha => ⟨by rw [sK_self]; exact (hK a (by omega)).1, (hK a (by omega)).2⟩, tkn_0 _, fun i hi => absurd hi (by omega), fun i j hi => absurd hi (by omega), fun i hi => absurd hi (by omega), fun a ha _ => by rw [ch_22]; exact hR a (by omega), fun i hi => ⟨by rw [ch_9, va_up_self, fl_lt (by omega)], by show 1099511627776 ≤ 2 ^ 40; decide⟩⟩) wX0_write iX0_write sX0_write mX0_51 20 0 (by decide) (by decide) rfl rfl rfl rfl rfl rfl rfl (Bool.and_eq_true_iff.mpr ⟨Nat.ble_eq.mpr (by omega), Nat.ble_eq.mpr (by omega)⟩) dX0_find_56 ?_
      rintro v9 I9 J9 ⟨A3, R3, C3, D3, B3, h91, h92, h93, k1, k2, k3, k4, k5, k6⟩
      rw [h91, h92, h93, ch_ch]
      rw [ch_9] at k1
      clear h91 h92 h93 v9 I9 J9
      show G X _ Z _ (sK I 26 K) (CH J A3 R3 C3 D3) 59 [(0, .ref (Z.2.2.1 20 0)), (1, .ref (Z.2.2.1 2 g)), (2, .int (nI v))] []
      exact g_return C hr dX0_find_59 ⟨A3, R3, C3, D3, K, B3, rfl, rfl, rfl, fun r h => by rw [k1 r h, va_up_ne _ _ h], k5, frm_of hn1 hn9 (hv.s4 hg) k6⟩
    · refine g_aldn C dX0_find_20 rfl ?_
      refine g_get C 20 0 (by decide) (by decide) u0 rfl 0 rfl fX0_11 rfl rfl dX0_find_21 ?_
      refine g_iconst C ((nI 0)) dX0_find_24 (by decide) ?_
      refine g_aald C 21 0 4 (by decide) (by decide) (fun _ _ => rfl) rfl rfl 0 (show 0 < 9 by omega) rfl dX0_find_25 ?_
      refine g_ildn C dX0_find_26 rfl ?_
      refine g_aldn C dX0_find_27 rfl ?_
      refine g_get C 2 g (by decide) (show g < 2 by omega) u1 rfl 1 rfl fX0_44 rfl rfl dX0_find_28 ?_
      refine g_ildn C dX0_find_31 rfl ?_
      refine g_iald C 3 g (by decide) (show g < 2 by omega) (fun _ _ => rfl) v (show v < 9 by omega) rfl dX0_find_32 (v := (nI (T g v))) (hv2.t hg (by omega)) ?_
      refine g_i2l (v := (lN (T g v))) C dX0_find_33 (nI_l (by omega)) ?_
      refine g_last C 22 0 (by decide) (by decide) (fun _ _ => rfl) v (show v < 9 by omega) rfl dX0_find_34 ?_
      refine g_J (J1 := CH J (va_up (J 9) g (fl (J 9 g) 9 (lN 1099511627776))) (up2 R 0 v (lN (T g v))) (J 23) (J 25)) (by rw [ch_22, ch22]) ?_
      refine g_aldn C dX0_find_35 rfl ?_
      refine g_get C 20 0 (by decide) (by decide) u0 rfl 3 rfl fX0_23 rfl rfl dX0_find_36 ?_
      refine g_ildn C dX0_find_39 rfl ?_
      refine g_aldn C dX0_find_40 rfl ?_
      refine g_ildn C dX0_find_41 rfl ?_
      refine g_callS (As := [.ref (Z.2.2.1 2 g), .int (nI v)]) (st := [.int (nI v), .ref (Z.2.2.1 26 0)]) C (c_X0_lesserLikes hA hv2 hg (show v < n by omega)) wX0_lesserLikes tX0_lesserLikes mX0_47 rfl rfl rfl rfl dX0_find_42 ?_
      rintro v9 I9 J9 ⟨⟨m, h91, hm⟩, h92, h93⟩
      rw [h91, h92, h93]
      clear h91 h92 h93 v9 I9 J9
      show G X _ Z _ (sK I 26 K) (CH J (va_up (J 9) g (fl (J 9 g) 9 (lN 1099511627776))) (up2 R 0 v (lN (T g v))) (J 23) (J 25)) 45 [(0, .ref (Z.2.2.1 20 0)), (1, .ref (Z.2.2.1 2 g)), (2, .int (nI v))] [.int (nI m), .int (nI v), .ref (Z.2.2.1 26 0)]
      refine g_iast C 26 0 (by decide) (by decide) (fun _ _ => rfl) v (show v < 9 by omega) rfl dX0_find_45 ?_
      refine g_I (I1 := sK I 26 (up2 K 0 v (nI m))) (by rw [sK_self, sK_sK]) ?_
      refine g_iinc (lv' := [(2, .int (nI (v + 1))), (0, .ref (Z.2.2.1 20 0)), (1, .ref (Z.2.2.1 2 g))]) C ((nI (v + 1))) dX0_find_46 rfl (inc1 _) rfl rfl ?_
      refine g_goto (tgt := 12) C dX0_find_49 rfl ?_
      refine g_lv [1, 2, 0] rfl ?_
      refine ih (v + 1) _ _ (va_up lk v m) (by omega) (by omega) (fun a ha => ?_) (fun a ha => ?_)
      · by_cases q : a = v
        · subst q; rw [up2_self]
        · rw [up2_ne q]; exact hR a (by omega)
      · by_cases q : a = v
        · subst q; rw [up2_self, va_up_self]; exact ⟨rfl, hm⟩
        · rw [up2_ne q, va_up_ne _ _ q]; exact hK a (by omega)

set_option maxRecDepth 100000 in
set_option maxHeartbeats 4000000 in
/-- FormFinder.find -/
theorem c_X0_find {l : Launch} {Y : Yk} (hA : AJ Y.2.2) {I : SI} {J : SJ} {n : Nat} {T : Nat → Nat → Nat} {L : Nat → Nat → Nat → Nat} (hv : CV I n T L) {g : Nat} (hg : g < 2)  : MX l Y yX0_find cX0_find 3 (none) 24 1000 [.ref (Y.2.2 20 0), .ref (Y.2.2 2 g)] I J (fdPost n T L g I J) := by
  refine MX.of hA (by decide) (own := RX0) rfl rfl rfl ?_
  intro X Z hl hY1 hY2 hY3 C hr
  obtain ⟨D0, ca0, ad0⟩ := Y
  dsimp only at hA hY1 hY2 hY3
  subst hY1; subst hY2; subst hY3; subst hl
  show G X 3 Z (QG X Z _) I J 0 [(0, .ref (Z.2.2.1 20 0)), (1, .ref (Z.2.2.1 2 g))] []
  obtain ⟨⟨hn1, hn9⟩, -⟩ := id hv
  refine g_aldn C dX0_find_0 rfl ?_
  refine g_get C 2 g (by decide) (show g < 2 by omega) u1 rfl 7 rfl fX0_27 rfl rfl dX0_find_1 ?_
  refine g_ldc2 C qX0_32 dX0_find_4 ?_
  refine g_topl (y := lN 1099511627776) rfl ?_
  refine g_callS (As := [.ref (Z.2.2.1 9 g), .long (lN 1099511627776)]) (st := []) C (c_fillJ hA (k := 9) (r := g) (n := 9) (by decide) (show g < 2 by omega) (fun _ _ => rfl) (by decide)) wJ7_fill_d0a16 tJ7_fill_d0a16 mX0_34 rfl rfl rfl rfl dX0_find_7 ?_
  rintro v9 I9 J9 ⟨h91, h92, h93⟩
  rw [h91, h92, h93, ch_9i]
  clear h91 h92 h93 v9 I9 J9
  show G X _ Z _ I (CH J (va_up (J 9) g (fl (J 9 g) 9 (lN 1099511627776))) (J 22) (J 23) (J 25)) 10 [(0, .ref (Z.2.2.1 20 0)), (1, .ref (Z.2.2.1 2 g))] []
  refine g_iconst C ((nI 0)) dX0_find_10 (by decide) ?_
  refine g_istn (lv' := [(2, .int (nI 0)), (0, .ref (Z.2.2.1 20 0)), (1, .ref (Z.2.2.1 2 g))]) C dX0_find_11 rfl rfl ?_
  refine g_lv [1, 2, 0] rfl ?_
  refine g_I (I1 := sK I 26 (I 26)) (sK_id _ _).symm ?_
  exact l_X0_find_12 hA C hr hv hg (n + 1) 0 (J 22) (I 26) (fun _ => 0) (by omega) (by omega) (fun a ha => absurd ha (by omega)) (fun a ha => absurd ha (by omega))
end
section
/-! ===== Painter: difference, sortSpots ===== -/
/-- a spot is there: vertex s mod 9 of graph s div 9 -/
def thr (n s : Nat) : Prop := s < 18 ∧ s % 9 < n
/-- what a spot is compared by: its colour, then its keys -/
def Qs (c : Nat → Nat) (Kf : Nat → Nat → Nat) (s : Nat) : Nat → Nat := fun i => match i with
  | 0 => c s
  | k + 1 => Kf s k
theorem Qs_c {c : Nat → Nat} {Kf : Nat → Nat → Nat} {a b k : Nat} (h : c a < c b) : lx (k + 1) (Qs c Kf a) (Qs c Kf b) := ⟨0, by omega, fun j hj => absurd hj (by omega), h⟩
theorem Qs_k {c : Nat → Nat} {Kf : Nat → Nat → Nat} {a b k i : Nat} (hi : i < k) (e : c a = c b) (h : ∀ j, j < i → Kf a j = Kf b j) (hl : Kf a i < Kf b i) : lx (k + 1) (Qs c Kf a) (Qs c Kf b) := ⟨i + 1, by omega, fun j hj => by
  cases j with
  | zero => exact e
  | succ j => exact h j (by omega), hl⟩
theorem Qs_e {c : Nat → Nat} {Kf : Nat → Nat → Nat} {a b k : Nat} (e : c a = c b) (h : ∀ j, j < k → Kf a j = Kf b j) : ∀ i, i < k + 1 → Qs c Kf a i = Qs c Kf b i := fun i hi => by
  cases i with
  | zero => exact e
  | succ j => exact h j (by omega)
/-- d's sign tells which of the two is before -/
def sgn (k : Nat) (A B : Nat → Nat) (d : Int32) : Prop := (d < 0 ∧ lx k A B) ∨ (d = 0 ∧ ∀ i, i < k → A i = B i) ∨ (0 < d ∧ lx k B A)
theorem sub_neg {a b : Nat} (ha : a < 1000) (hb : b < 1000) (h : a < b) : nI a - nI b < 0 := pk_sneg (by omega) h
theorem sub_pos {a b : Nat} (ha : a < 1000) (hb : b < 1000) (h : b < a) : 0 < nI a - nI b := by
  rw [pk_sub (by omega)]
  exact nI_lt (a := 0) (by omega) (by omega)
theorem sgn_gt {k : Nat} {A B : Nat → Nat} {d : Int32} (h : sgn k A B d) (hd : 0 < d) : lx k B A := by
  rcases h with ⟨h1, _⟩ | ⟨h1, _⟩ | ⟨_, h2⟩
  · exact absurd (Int32.lt_trans hd h1) (Int32.lt_irrefl)
  · rw [h1] at hd; exact absurd hd (Int32.lt_irrefl)
  · exact h2
theorem sgn_le {k : Nat} {A B : Nat → Nat} {d : Int32} (h : sgn k A B d) (hd : ¬ 0 < d) : ¬ lx k B A := fun q => by
  rcases h with ⟨_, h2⟩ | ⟨_, h2⟩ | ⟨h1, _⟩
  · exact lx_irr (lx_tr h2 q)
  · exact lx_irr (lx_l q (fun i hi => (h2 i hi).symm))
  · exact hd h1
theorem sgn_0 {k : Nat} {A B : Nat → Nat} {d : Int32} (h : sgn k A B d) (hd : d = 0) : ∀ i, i < k → A i = B i := by
  rcases h with ⟨h1, _⟩ | ⟨_, h2⟩ | ⟨h1, _⟩
  · rw [hd] at h1; exact absurd h1 (Int32.lt_irrefl)
  · exact h2
  · rw [hd] at h1; exact absurd h1 (Int32.lt_irrefl)
theorem sgn_n {k : Nat} {A B : Nat → Nat} {d : Int32} (h : sgn k A B d) (hd : d ≠ 0) : lx k A B ∨ lx k B A := by
  rcases h with ⟨_, h2⟩ | ⟨h1, _⟩ | ⟨_, h2⟩
  · exact Or.inl h2
  · exact absurd h1 hd
  · exact Or.inr h2
set_option maxRecDepth 100000 in
set_option maxHeartbeats 4000000 in
theorem l_X3_difference_32 {X : Pk} {Z : Zk} {fr lo : Nat} {I : SI} {J : SJ} (C : Cx X cX3_difference 5 RX3 Z fr lo) (hr : (xE X).sig.returnType = some .int) {n kc : Nat} (hn9 : n ≤ 9) (hkc : kc ≤ 9) {c : Nat → Nat} {Kf : Nat → Nat → Nat} (hc : ∀ s, thr n s → I 11 0 s = nI (c s) ∧ c s < 18) (hK : ∀ s, thr n s → ∀ k, k < kc → I 16 s k = nI (Kf s k) ∧ Kf s k < 400) {a b : Nat} (ha : thr n a) (hb : thr n b) (e1 : c a = c b) : ∀ m k, kc - k < m → k ≤ kc → (∀ j, j < k → Kf a j = Kf b j) → G X 5 Z (QG X Z (fun v' I' J' => (∃ d : Int32, v' = some (.int d) ∧ sgn (kc + 1) (Qs c Kf a) (Qs c Kf b) d) ∧ I' = I ∧ J' = J)) I J 32 [(0, .ref (Z.2.2.1 10 0)), (1, .int (nI a)), (2, .int (nI b)), (3, .int (nI kc)), (4, .int (nI k))] [] := by
  have ha18 := ha.1
  have hb18 := hb.1
  intro m
  induction m with
  | zero => intro k h; exact absurd h (by omega)
  | succ m ih =>
    intro k hk hkk hin
    have z1 : k < kc → Kf a k < 400 := fun h => (hK a ha k h).2
    have z2 : k < kc → Kf b k < 400 := fun h => (hK b hb k h).2
    refine g_ild C dX3_difference_32 rfl ?_
    refine g_ildn C dX3_difference_34 rfl ?_
    refine n_icmp_ge (tgt := 85) C dX3_difference_35 rfl (by omega) (by omega) (fun c35 => ?_) (fun c35 => ?_)
    · refine g_iconst C ((nI 0)) dX3_difference_85 (by decide) ?_
      exact g_ireturn C hr dX3_difference_86 ⟨⟨0, rfl, Or.inr (Or.inl ⟨rfl, Qs_e e1 (fun j hj => hin j (by omega))⟩)⟩, rfl, rfl⟩
    · refine g_aldn C dX3_difference_38 rfl ?_
      refine g_get C 10 0 (by decide) (by decide) u3 rfl 5 rfl fX3_26 rfl rfl dX3_difference_39 ?_
      refine g_ildn C dX3_difference_42 rfl ?_
      refine g_aald C 15 0 3 (by decide) (by decide) (fun _ _ => rfl) rfl rfl a (show a < 18 by omega) rfl dX3_difference_43 ?_
      refine g_ild C dX3_difference_44 rfl ?_
      refine g_iald C 16 a (by decide) (show a < 18 by omega) (fun _ _ => rfl) k (show k < 9 by omega) rfl dX3_difference_46 (v := (nI (Kf a k))) (hK a ha k (by omega)).1 ?_
      refine g_aldn C dX3_difference_47 rfl ?_
      refine g_get C 10 0 (by decide) (by decide) u3 rfl 5 rfl fX3_26 rfl rfl dX3_difference_48 ?_
      refine g_ildn C dX3_difference_51 rfl ?_
      refine g_aald C 15 0 3 (by decide) (by decide) (fun _ _ => rfl) rfl rfl b (show b < 18 by omega) rfl dX3_difference_52 ?_
      refine g_ild C dX3_difference_53 rfl ?_
      refine g_iald C 16 b (by decide) (show b < 18 by omega) (fun _ _ => rfl) k (show k < 9 by omega) rfl dX3_difference_55 (v := (nI (Kf b k))) (hK b hb k (by omega)).1 ?_
      refine n_icmp_eq (tgt := 79) C dX3_difference_56 rfl (by omega) (by omega) (fun c56 => ?_) (fun c56 => ?_)
      · refine g_iinc (lv' := [(4, .int (nI (k + 1))), (0, .ref (Z.2.2.1 10 0)), (1, .int (nI a)), (2, .int (nI b)), (3, .int (nI kc))]) C ((nI (k + 1))) dX3_difference_79 rfl (inc1 _) rfl rfl ?_
        refine g_goto (tgt := 32) C dX3_difference_82 rfl ?_
        refine g_lv [1, 2, 3, 4, 0] rfl ?_
        exact ih (k + 1) (by omega) (by omega) (fun j hj => (Nat.lt_or_eq_of_le (Nat.le_of_lt_succ hj)).elim (hin j) (fun e => by rw [e]; exact c56))
      · refine g_aldn C dX3_difference_59 rfl ?_
        refine g_get C 10 0 (by decide) (by decide) u3 rfl 5 rfl fX3_26 rfl rfl dX3_difference_60 ?_
        refine g_ildn C dX3_difference_63 rfl ?_
        refine g_aald C 15 0 3 (by decide) (by decide) (fun _ _ => rfl) rfl rfl a (show a < 18 by omega) rfl dX3_difference_64 ?_
        refine g_ild C dX3_difference_65 rfl ?_
        refine g_iald C 16 a (by decide) (show a < 18 by omega) (fun _ _ => rfl) k (show k < 9 by omega) rfl dX3_difference_67 (v := (nI (Kf a k))) (hK a ha k (by omega)).1 ?_
        refine g_aldn C dX3_difference_68 rfl ?_
        refine g_get C 10 0 (by decide) (by decide) u3 rfl 5 rfl fX3_26 rfl rfl dX3_difference_69 ?_
        refine g_ildn C dX3_difference_72 rfl ?_
        refine g_aald C 15 0 3 (by decide) (by decide) (fun _ _ => rfl) rfl rfl b (show b < 18 by omega) rfl dX3_difference_73 ?_
        refine g_ild C dX3_difference_74 rfl ?_
        refine g_iald C 16 b (by decide) (show b < 18 by omega) (fun _ _ => rfl) k (show k < 9 by omega) rfl dX3_difference_76 (v := (nI (Kf b k))) (hK b hb k (by omega)).1 ?_
        refine g_isub (v := (nI (Kf a k) - nI (Kf b k))) C dX3_difference_77 rfl ?_
        exact g_ireturn C hr dX3_difference_78 ⟨⟨_, rfl, by rcases Nat.lt_or_gt_of_ne c56 with q | q; exact Or.inl ⟨sub_neg (by omega) (by omega) q, Qs_k (by omega) e1 hin q⟩; exact Or.inr (Or.inr ⟨sub_pos (by omega) (by omega) q, Qs_k (by omega) e1.symm (fun j hj => (hin j hj).symm) q⟩)⟩, rfl, rfl⟩

set_option maxRecDepth 100000 in
set_option maxHeartbeats 4000000 in
/-- difference -/
theorem c_X3_difference {l : Launch} {Y : Yk} (hA : AJ Y.2.2) {I : SI} {J : SJ} {n kc : Nat} (hn9 : n ≤ 9) (hkc : kc ≤ 9) {c : Nat → Nat} {Kf : Nat → Nat → Nat} (hc : ∀ s, thr n s → I 11 0 s = nI (c s) ∧ c s < 18) (hK : ∀ s, thr n s → ∀ k, k < kc → I 16 s k = nI (Kf s k) ∧ Kf s k < 400) {a b : Nat} (ha : thr n a) (hb : thr n b)  : MX l Y yX3_difference cX3_difference 5 (some .int) 0 0 [.ref (Y.2.2 10 0), .int (nI a), .int (nI b), .int (nI kc)] I J (fun v' I' J' => (∃ d : Int32, v' = some (.int d) ∧ sgn (kc + 1) (Qs c Kf a) (Qs c Kf b) d) ∧ I' = I ∧ J' = J) := by
  refine MX.of hA (by decide) (own := RX3) rfl rfl rfl ?_
  intro X Z hl hY1 hY2 hY3 C hr
  obtain ⟨D0, ca0, ad0⟩ := Y
  dsimp only at hA hY1 hY2 hY3
  subst hY1; subst hY2; subst hY3; subst hl
  show G X 5 Z (QG X Z _) I J 0 [(0, .ref (Z.2.2.1 10 0)), (1, .int (nI a)), (2, .int (nI b)), (3, .int (nI kc))] []
  have ha18 := ha.1
  have hb18 := hb.1
  have z1 := (hc a ha).2
  have z2 := (hc b hb).2
  refine g_aldn C dX3_difference_0 rfl ?_
  refine g_get C 10 0 (by decide) (by decide) u3 rfl 1 rfl fX3_11 rfl rfl dX3_difference_1 ?_
  refine g_ildn C dX3_difference_4 rfl ?_
  refine g_iald C 11 0 (by decide) (by decide) (fun _ _ => rfl) a (show a < 18 by omega) rfl dX3_difference_5 (v := (nI (c a))) (hc a ha).1 ?_
  refine g_aldn C dX3_difference_6 rfl ?_
  refine g_get C 10 0 (by decide) (by decide) u3 rfl 1 rfl fX3_11 rfl rfl dX3_difference_7 ?_
  refine g_ildn C dX3_difference_10 rfl ?_
  refine g_iald C 11 0 (by decide) (by decide) (fun _ _ => rfl) b (show b < 18 by omega) rfl dX3_difference_11 (v := (nI (c b))) (hc b hb).1 ?_
  refine n_icmp_eq (tgt := 29) C dX3_difference_12 rfl (by omega) (by omega) (fun c12 => ?_) (fun c12 => ?_)
  · refine g_iconst C ((nI 0)) dX3_difference_29 (by decide) ?_
    refine g_ist (lv' := [(4, .int (nI 0)), (0, .ref (Z.2.2.1 10 0)), (1, .int (nI a)), (2, .int (nI b)), (3, .int (nI kc))]) C dX3_difference_30 rfl rfl ?_
    refine g_lv [1, 2, 3, 4, 0] rfl ?_
    exact l_X3_difference_32 C hr hn9 hkc hc hK ha hb c12 (kc + 1) 0 (by omega) (by omega) (fun j hj => absurd hj (by omega))
  · refine g_aldn C dX3_difference_15 rfl ?_
    refine g_get C 10 0 (by decide) (by decide) u3 rfl 1 rfl fX3_11 rfl rfl dX3_difference_16 ?_
    refine g_ildn C dX3_difference_19 rfl ?_
    refine g_iald C 11 0 (by decide) (by decide) (fun _ _ => rfl) a (show a < 18 by omega) rfl dX3_difference_20 (v := (nI (c a))) (hc a ha).1 ?_
    refine g_aldn C dX3_difference_21 rfl ?_
    refine g_get C 10 0 (by decide) (by decide) u3 rfl 1 rfl fX3_11 rfl rfl dX3_difference_22 ?_
    refine g_ildn C dX3_difference_25 rfl ?_
    refine g_iald C 11 0 (by decide) (by decide) (fun _ _ => rfl) b (show b < 18 by omega) rfl dX3_difference_26 (v := (nI (c b))) (hc b hb).1 ?_
    refine g_isub (v := (nI (c a) - nI (c b))) C dX3_difference_27 rfl ?_
    exact g_ireturn C hr dX3_difference_28 ⟨⟨_, rfl, by rcases Nat.lt_or_gt_of_ne c12 with q | q; exact Or.inl ⟨sub_neg (by omega) (by omega) q, Qs_c q⟩; exact Or.inr (Or.inr ⟨sub_pos (by omega) (by omega) q, Qs_c q⟩)⟩, rfl, rfl⟩

/-- s is in the order of lt -/
def srtR (lt : Nat → Nat → Prop) (s : Nat → Nat) (m : Nat) : Prop := ∀ i, i + 1 < m → ¬ lt (s (i + 1)) (s i)
theorem ins_srtR {lt : Nat → Nat → Prop} {s : Nat → Nat} {a m x : Nat} (hlt : ∀ u, lt x u → ¬ lt u x) (h : srtR lt s m) (ha : a ≤ m) (h1 : a = 0 ∨ ¬ lt x (s (a - 1))) (h2 : ∀ j, a ≤ j → j < m → lt x (s j)) : srtR lt (ins s a x) (m + 1) := by
  intro i hi
  rcases Nat.lt_trichotomy (i + 1) a with q | q | q
  · rw [ins_lt (show i < a by omega), ins_lt q]; exact h i (by omega)
  · subst q
    rw [ins_lt (show i < i + 1 by omega), ins_at]
    rcases h1 with h1 | h1
    · omega
    · exact h1
  · rw [ins_gt (by omega)]
    rcases Nat.lt_or_eq_of_le (show a ≤ i by omega) with q2 | q2
    · obtain ⟨i', rfl⟩ : ∃ i', i = i' + 1 := ⟨i - 1, by omega⟩
      rw [ins_gt (by omega)]
      exact h i' (by omega)
    · subst q2
      rw [ins_at]
      exact hlt _ (h2 a (Nat.le_refl a) (by omega))
set_option maxRecDepth 100000 in
set_option maxHeartbeats 4000000 in
theorem l_X3_sortSpots_18 {X : Pk} {Z : Zk} {I : SI} {J : SJ} (hA : AJ Z.2.2.1) (C : Cx X cX3_sortSpots 6 RX3 Z 1 40) {Q : State → Prop} {n kc : Nat} (hn9 : n ≤ 9) (hkc : kc ≤ 9) {c : Nat → Nat} {Kf : Nat → Nat → Nat} (hc : ∀ s, thr n s → I 11 0 s = nI (c s) ∧ c s < 18) (hK : ∀ s, thr n s → ∀ k, k < kc → I 16 s k = nI (Kf s k) ∧ Kf s k < 400) {m : Nat} (hm : m ≤ 18) {so : Nat → Nat} (hso : ∀ j, j < m → I 13 0 j = nI (so j) ∧ thr n (so j)) {i : Nat} (hi : i < m) {s : Nat → Nat} (ths : ∀ j, j < i → thr n (s j)) (hex : ∀ a (F : Nat → Nat → Int32), a ≤ i → (∀ j, j < a → F 0 j = nI (s j)) → (∀ j, a ≤ j → j < i → F 0 (j + 1) = nI (s j)) → (∀ j, i < j → j < m → F 0 j = nI (so j)) → (∀ j, a ≤ j → j < i → lx (kc + 1) (Qs c Kf (so i)) (Qs c Kf (s j))) → (a = 0 ∨ ¬ lx (kc + 1) (Qs c Kf (so i)) (Qs c Kf (s (a - 1)))) → G X 6 Z Q (sK I 13 F) J 64 [(0, .ref (Z.2.2.1 10 0)), (1, .int (nI m)), (2, .int (nI kc)), (3, .int (nI i)), (4, .int (nI (so i))), (5, .int (nI a))] []) : ∀ k a (F : Nat → Nat → Int32), a < k → a ≤ i → (∀ j, j < a → F 0 j = nI (s j)) → (∀ j, a ≤ j → j < i → F 0 (j + 1) = nI (s j)) → (∀ j, i < j → j < m → F 0 j = nI (so j)) → (∀ j, a ≤ j → j < i → lx (kc + 1) (Qs c Kf (so i)) (Qs c Kf (s j))) → G X 6 Z Q (sK I 13 F) J 18 [(0, .ref (Z.2.2.1 10 0)), (1, .int (nI m)), (2, .int (nI kc)), (3, .int (nI i)), (4, .int (nI (so i))), (5, .int (nI a))] [] := by
  intro k
  induction k with
  | zero => intro a F h; exact absurd h (by omega)
  | succ k ih =>
    intro a F hk ha hF1 hF2 hF3 h5
    have z1 := (hso i hi).2.1
    have z2 : 0 < a → s (a - 1) < 18 := fun h => (ths _ (by omega)).1
    refine g_ild C dX3_sortSpots_18 rfl ?_
    refine n_if_le (tgt := 64) C dX3_sortSpots_20 rfl (by omega) (fun c20 => ?_) (fun c20 => ?_)
    · refine g_lv [0, 1, 2, 3, 4, 5] rfl ?_
      exact hex a F (by omega) hF1 hF2 hF3 h5 (by first | exact Or.inl (by omega) | exact Or.inr (sgn_le hdd (Int32.not_lt.mpr c39)))
    · refine g_aldn C dX3_sortSpots_23 rfl ?_
      refine g_aldn C dX3_sortSpots_24 rfl ?_
      refine g_get C 10 0 (by decide) (by decide) u3 rfl 3 rfl fX3_18 rfl rfl dX3_sortSpots_25 ?_
      refine g_ild C dX3_sortSpots_28 rfl ?_
      refine g_iconst C ((nI 1)) dX3_sortSpots_30 (by decide) ?_
      refine g_isub (v := (nI (a - 1))) C dX3_sortSpots_31 (pk_sub (by omega)) ?_
      refine g_iald C 13 0 (by decide) (by decide) (fun _ _ => rfl) (a - 1) (show a - 1 < 18 by omega) rfl dX3_sortSpots_32 (v := (nI (s (a - 1)))) (by rw [sK_self]; exact hF1 (a - 1) (by omega)) ?_
      refine g_ild C dX3_sortSpots_33 rfl ?_
      refine g_ildn C dX3_sortSpots_35 rfl ?_
      refine g_callV (As := [.int (nI (s (a - 1))), .int (nI (so i)), .int (nI kc)]) (st := []) C (c_X3_difference hA hn9 hkc (c := c) (Kf := Kf) (fun u hu => by rw [sK_ne (by decide)]; exact hc u hu) (fun u hu => by rw [sK_ne (by decide)]; exact hK u hu) (ths (a - 1) (by omega)) (hso i hi).2) wX3_difference iX3_difference sX3_difference mX3_78 10 0 (by decide) (by decide) rfl rfl rfl rfl rfl rfl rfl rfl dX3_sortSpots_36 ?_
      rintro v9 I9 J9 ⟨⟨dd, h91, hdd⟩, h92, h93⟩
      rw [h91, h92, h93]
      clear h91 h92 h93 v9 I9 J9
      show G X _ Z _ (sK I 13 F) J 39 [(0, .ref (Z.2.2.1 10 0)), (1, .int (nI m)), (2, .int (nI kc)), (3, .int (nI i)), (4, .int (nI (so i))), (5, .int (nI a))] [.int dd]
      refine g_if_le (tgt := 64) C dX3_sortSpots_39 rfl (fun c39 => ?_) (fun c39 => ?_)
      · refine g_lv [0, 1, 2, 3, 4, 5] rfl ?_
        exact hex a F (by omega) hF1 hF2 hF3 h5 (by first | exact Or.inl (by omega) | exact Or.inr (sgn_le hdd (Int32.not_lt.mpr c39)))
      · refine g_aldn C dX3_sortSpots_42 rfl ?_
        refine g_get C 10 0 (by decide) (by decide) u3 rfl 3 rfl fX3_18 rfl rfl dX3_sortSpots_43 ?_
        refine g_ild C dX3_sortSpots_46 rfl ?_
        refine g_aldn C dX3_sortSpots_48 rfl ?_
        refine g_get C 10 0 (by decide) (by decide) u3 rfl 3 rfl fX3_18 rfl rfl dX3_sortSpots_49 ?_
        refine g_ild C dX3_sortSpots_52 rfl ?_
        refine g_iconst C ((nI 1)) dX3_sortSpots_54 (by decide) ?_
        refine g_isub (v := (nI (a - 1))) C dX3_sortSpots_55 (pk_sub (by omega)) ?_
        refine g_iald C 13 0 (by decide) (by decide) (fun _ _ => rfl) (a - 1) (show a - 1 < 18 by omega) rfl dX3_sortSpots_56 (v := (nI (s (a - 1)))) (by rw [sK_self]; exact hF1 (a - 1) (by omega)) ?_
        refine g_iast C 13 0 (by decide) (by decide) (fun _ _ => rfl) a (show a < 18 by omega) rfl dX3_sortSpots_57 ?_
        refine g_I (I1 := sK I 13 (up2 F 0 a (nI (s (a - 1))))) (by rw [sK_self, sK_sK]) ?_
        refine g_iinc (lv' := [(5, .int (nI (a - 1))), (0, .ref (Z.2.2.1 10 0)), (1, .int (nI m)), (2, .int (nI kc)), (3, .int (nI i)), (4, .int (nI (so i)))]) C ((nI (a - 1))) dX3_sortSpots_58 rfl (dec1 (by omega)) rfl rfl ?_
        refine g_goto (tgt := 18) C dX3_sortSpots_61 rfl ?_
        refine g_lv [1, 2, 3, 4, 5, 0] rfl ?_
        refine ih (a - 1) _ (by omega) (by omega) (fun j hj => by rw [up2_ne (by omega)]; exact hF1 j (by omega)) (fun j hj hj2 => ?_) (fun j hj hj2 => by rw [up2_ne (by omega)]; exact hF3 j hj hj2) (fun j hj hj2 => ?_)
        · by_cases e : j = a - 1
          · subst e; rw [show a - 1 + 1 = a by omega, up2_self]
          · rw [up2_ne (by omega)]; exact hF2 j (by omega) hj2
        · by_cases e : j = a - 1
          · subst e; exact sgn_gt hdd (Int32.not_le.mp c39)
          · exact h5 j (by omega) hj2

set_option maxRecDepth 100000 in
set_option maxHeartbeats 4000000 in
theorem l_X3_sortSpots_2 {X : Pk} {Z : Zk} {I : SI} {J : SJ} (hA : AJ Z.2.2.1) (C : Cx X cX3_sortSpots 6 RX3 Z 1 40) (hr : (xE X).sig.returnType = none) {n kc : Nat} (hn9 : n ≤ 9) (hkc : kc ≤ 9) {c : Nat → Nat} {Kf : Nat → Nat → Nat} (hc : ∀ s, thr n s → I 11 0 s = nI (c s) ∧ c s < 18) (hK : ∀ s, thr n s → ∀ k, k < kc → I 16 s k = nI (Kf s k) ∧ Kf s k < 400) {m : Nat} (hm : m ≤ 18) {so : Nat → Nat} (hso : ∀ j, j < m → I 13 0 j = nI (so j) ∧ thr n (so j)) (hm1 : 1 ≤ m) : ∀ k i (F : Nat → Nat → Int32) (s : Nat → Nat), m - i < k → i ≤ m → (∀ j, j < i → F 0 j = nI (s j) ∧ thr n (s j)) → (∀ j, i ≤ j → j < m → F 0 j = nI (so j)) → srtR (fun u w => lx (kc + 1) (Qs c Kf u) (Qs c Kf w)) s i → (∀ q : Nat → Bool, ct (fun j => q (s j)) i = ct (fun j => q (so j)) i) → G X 6 Z (QG X Z (fun v' I' J' => ∃ (F : Nat → Nat → Int32) (s : Nat → Nat), v' = none ∧ I' = sK I 13 F ∧ J' = J ∧ (∀ j, j < m → F 0 j = nI (s j) ∧ thr n (s j)) ∧ srtR (fun u w => lx (kc + 1) (Qs c Kf u) (Qs c Kf w)) s m ∧ ∀ q : Nat → Bool, ct (fun j => q (s j)) m = ct (fun j => q (so j)) m)) (sK I 13 F) J 2 [(0, .ref (Z.2.2.1 10 0)), (1, .int (nI m)), (2, .int (nI kc)), (3, .int (nI i))] [] := by
  intro k
  induction k with
  | zero => intro i F s h; exact absurd h (by omega)
  | succ k ih =>
    intro i F s hk him hF1 hF2 hsrt hct
    have z1 : i < m → so i < 18 := fun h => (hso i h).2.1
    refine g_ildn C dX3_sortSpots_2 rfl ?_
    refine g_ildn C dX3_sortSpots_3 rfl ?_
    refine n_icmp_ge (tgt := 79) C dX3_sortSpots_4 rfl (by omega) (by omega) (fun c4 => ?_) (fun c4 => ?_)
    · exact g_return C hr dX3_sortSpots_79 ⟨F, s, rfl, rfl, rfl, fun j hj => hF1 j (by omega), fun j hj => hsrt j (by omega), fun q => by rcases Nat.lt_or_ge m 1 with e | e; rw [show m = 0 by omega]; rfl; rw [show m = i by omega]; exact hct q⟩
    · refine g_aldn C dX3_sortSpots_7 rfl ?_
      refine g_get C 10 0 (by decide) (by decide) u3 rfl 3 rfl fX3_18 rfl rfl dX3_sortSpots_8 ?_
      refine g_ildn C dX3_sortSpots_11 rfl ?_
      refine g_iald C 13 0 (by decide) (by decide) (fun _ _ => rfl) i (show i < 18 by omega) rfl dX3_sortSpots_12 (v := (nI (so i))) (by rw [sK_self]; exact hF2 i (Nat.le_refl i) (by omega)) ?_
      refine g_ist (lv' := [(4, .int (nI (so i))), (0, .ref (Z.2.2.1 10 0)), (1, .int (nI m)), (2, .int (nI kc)), (3, .int (nI i))]) C dX3_sortSpots_13 rfl rfl ?_
      refine g_ildn C dX3_sortSpots_15 rfl ?_
      refine g_ist (lv' := [(5, .int (nI i)), (4, .int (nI (so i))), (0, .ref (Z.2.2.1 10 0)), (1, .int (nI m)), (2, .int (nI kc)), (3, .int (nI i))]) C dX3_sortSpots_16 rfl rfl ?_
      refine g_lv (lv1 := [(0, .ref (Z.2.2.1 10 0)), (1, .int (nI m)), (2, .int (nI kc)), (3, .int (nI i)), (4, .int (nI (so i))), (5, .int (nI i))]) [2, 3, 4, 5, 1, 0] rfl ?_
      refine l_X3_sortSpots_18 hA C hn9 hkc hc hK hm hso (show i < m by omega) (s := s) (fun j hj => (hF1 j hj).2) ?_ (i + 1) i F (by omega) (by omega) (fun j hj => (hF1 j hj).1) (fun j h1 h2 => absurd h1 (by omega)) (fun j h1 h2 => hF2 j (by omega) h2) (fun j h1 h2 => absurd h1 (by omega))
      have ths := fun j hj => (hF1 j hj).2
      clear hF1 hF2 F
      intro a F ha hF1 hF2 hF3 h5 h6
      refine g_aldn C dX3_sortSpots_64 rfl ?_
      refine g_get C 10 0 (by decide) (by decide) u3 rfl 3 rfl fX3_18 rfl rfl dX3_sortSpots_65 ?_
      refine g_ild C dX3_sortSpots_68 rfl ?_
      refine g_ild C dX3_sortSpots_70 rfl ?_
      refine g_iast C 13 0 (by decide) (by decide) (fun _ _ => rfl) a (show a < 18 by omega) rfl dX3_sortSpots_72 ?_
      refine g_I (I1 := sK I 13 (up2 F 0 a (nI (so i)))) (by rw [sK_self, sK_sK]) ?_
      refine g_iinc (lv' := [(3, .int (nI (i + 1))), (0, .ref (Z.2.2.1 10 0)), (1, .int (nI m)), (2, .int (nI kc)), (4, .int (nI (so i))), (5, .int (nI a))]) C ((nI (i + 1))) dX3_sortSpots_73 rfl (inc1 _) rfl rfl ?_
      refine g_goto (tgt := 2) C dX3_sortSpots_76 rfl ?_
      refine g_lv [1, 2, 3, 0] rfl ?_
      refine ih (i + 1) _ (ins s a (so i)) (by omega) (by omega) (fun j hj => ?_) (fun j h1 h2 => by rw [up2_ne (by omega)]; exact hF3 j (by omega) h2) (ins_srtR (fun u h1 h2 => lx_irr (lx_tr h1 h2)) hsrt (by omega) h6 h5) (fun q => by rw [ct_ins q s a (so i) i (by omega), hct q]; rfl)
      rcases Nat.lt_trichotomy j a with e | e | e
      · rw [ins_lt e, up2_ne (by omega)]; exact ⟨hF1 j e, ths j (by omega)⟩
      · subst e; rw [ins_at, up2_self]; exact ⟨rfl, (hso i (by omega)).2⟩
      · obtain ⟨j2, rfl⟩ : ∃ j2, j = j2 + 1 := ⟨j - 1, by omega⟩
        rw [ins_gt (by omega), up2_ne (by omega)]; exact ⟨hF2 j2 (by omega) (by omega), ths j2 (by omega)⟩

set_option maxRecDepth 100000 in
set_option maxHeartbeats 4000000 in
/-- sortSpots -/
theorem c_X3_sortSpots {l : Launch} {Y : Yk} (hA : AJ Y.2.2) {I : SI} {J : SJ} {n kc : Nat} (hn9 : n ≤ 9) (hkc : kc ≤ 9) {c : Nat → Nat} {Kf : Nat → Nat → Nat} (hc : ∀ s, thr n s → I 11 0 s = nI (c s) ∧ c s < 18) (hK : ∀ s, thr n s → ∀ k, k < kc → I 16 s k = nI (Kf s k) ∧ Kf s k < 400) {m : Nat} (hm : m ≤ 18) {so : Nat → Nat} (hso : ∀ j, j < m → I 13 0 j = nI (so j) ∧ thr n (so j)) (hm1 : 1 ≤ m) : MX l Y yX3_sortSpots cX3_sortSpots 6 (none) 1 40 [.ref (Y.2.2 10 0), .int (nI m), .int (nI kc)] I J (fun v' I' J' => ∃ (F : Nat → Nat → Int32) (s : Nat → Nat), v' = none ∧ I' = sK I 13 F ∧ J' = J ∧ (∀ j, j < m → F 0 j = nI (s j) ∧ thr n (s j)) ∧ srtR (fun u w => lx (kc + 1) (Qs c Kf u) (Qs c Kf w)) s m ∧ ∀ q : Nat → Bool, ct (fun j => q (s j)) m = ct (fun j => q (so j)) m) := by
  refine MX.of hA (by decide) (own := RX3) rfl rfl rfl ?_
  intro X Z hl hY1 hY2 hY3 C hr
  obtain ⟨D0, ca0, ad0⟩ := Y
  dsimp only at hA hY1 hY2 hY3
  subst hY1; subst hY2; subst hY3; subst hl
  show G X 6 Z (QG X Z _) I J 0 [(0, .ref (Z.2.2.1 10 0)), (1, .int (nI m)), (2, .int (nI kc))] []
  refine g_iconst C ((nI 1)) dX3_sortSpots_0 (by decide) ?_
  refine g_istn (lv' := [(3, .int (nI 1)), (0, .ref (Z.2.2.1 10 0)), (1, .int (nI m)), (2, .int (nI kc))]) C dX3_sortSpots_1 rfl rfl ?_
  refine g_lv [1, 2, 3, 0] rfl ?_
  refine g_I (I1 := sK I 13 (I 13)) (sK_id _ _).symm ?_
  exact l_X3_sortSpots_2 hA C hr hn9 hkc hc hK hm hso hm1 (m + 1) 1 (I 13) so (by omega) (by omega) (fun j hj => hso j (by omega)) (fun j _ hj => (hso j hj).1) (fun i hi => absurd hi (by omega)) (fun q => rfl)
end
section
/-! ===== ranks: how many classes lie before a spot ===== -/
noncomputable def RK (n : Nat) (lt : Nat → Nat → Prop) (s : Nat) : Nat := ct (fun y => dc (thr n y ∧ lt y s ∧ ∀ z, z < y → thr n z → lt z y ∨ lt y z)) 18
noncomputable def CN (n : Nat) (lt : Nat → Nat → Prop) : Nat := ct (fun y => dc (thr n y ∧ ∀ z, z < y → thr n z → lt z y ∨ lt y z)) 18
/-- lt orders classes -/
def WO (lt : Nat → Nat → Prop) : Prop := (∀ a, ¬ lt a a) ∧ (∀ a b d, lt a b → lt b d → lt a d) ∧ ∀ a b d, ¬ lt a b → ¬ lt b d → ¬ lt a d
theorem WO_lx (k : Nat) (Q : Nat → Nat → Nat) : WO (fun a b => lx k (Q a) (Q b)) :=
  ⟨fun _ => lx_irr, fun _ _ _ => lx_tr, fun _ _ _ h1 h2 => lxe_no (lxe_tr (lxe_of h2) (lxe_of h1))⟩
theorem fst_rep {n : Nat} {lt : Nat → Nat → Prop} (hw : WO lt) : ∀ N s, s < N → thr n s → ∃ r, thr n r ∧ ¬ lt r s ∧ ¬ lt s r ∧ ∀ z, z < r → thr n z → lt z r ∨ lt r z := by
  intro N
  induction N with
  | zero => intro s h; exact absurd h (by omega)
  | succ N ih =>
    intro s hs ht
    cases hd : dc (∃ z, z < s ∧ thr n z ∧ ¬ lt z s ∧ ¬ lt s z) with
    | true =>
      obtain ⟨z, h1, h2, h3, h4⟩ := dc_t.mp hd
      obtain ⟨r, r1, r2, r3, r4⟩ := ih z (by omega) h2
      exact ⟨r, r1, hw.2.2 r z s r2 h3, hw.2.2 s z r h4 r3, r4⟩
    | false =>
      refine ⟨s, ht, hw.1 s, hw.1 s, fun z hz h2 => ?_⟩
      cases h3 : dc (lt z s) with
      | true => exact Or.inl (dc_t.mp h3)
      | false =>
        cases h4 : dc (lt s z) with
        | true => exact Or.inr (dc_t.mp h4)
        | false =>
          have : dc (∃ z, z < s ∧ thr n z ∧ ¬ lt z s ∧ ¬ lt s z) = true := dc_t.mpr ⟨z, hz, h2, fun q => by rw [dc_t.mpr q] at h3; exact absurd h3 (by decide), fun q => by rw [dc_t.mpr q] at h4; exact absurd h4 (by decide)⟩
          rw [hd] at this
          exact absurd this (by decide)
theorem dc_congr {P Q : Prop} (h : P ↔ Q) : dc P = dc Q := by
  cases hq : dc Q with
  | true => exact dc_t.mpr (h.mpr (dc_t.mp hq))
  | false => exact dc_f (fun p => by rw [dc_t.mpr (h.mp p)] at hq; exact absurd hq (by decide))
theorem srtR_all {lt : Nat → Nat → Prop} (hw : WO lt) {s : Nat → Nat} {m : Nat} (h : srtR lt s m) : ∀ k i, i ≤ k → k < m → ¬ lt (s k) (s i) := by
  intro k
  induction k with
  | zero => intro i hi _; rw [show i = 0 by omega]; exact hw.1 _
  | succ k ih =>
    intro i hi hk
    rcases Nat.lt_or_eq_of_le hi with q | q
    · exact hw.2.2 _ _ _ (h k hk) (ih i (by omega) (by omega))
    · subst q; exact hw.1 _
theorem RK_eq {n : Nat} {lt : Nat → Nat → Prop} (hw : WO lt) {a b : Nat} (h1 : ¬ lt a b) (h2 : ¬ lt b a) : RK n lt a = RK n lt b := by
  refine ct_congr 18 (fun y _ => dc_congr ⟨fun q => ⟨q.1, ?_, q.2.2⟩, fun q => ⟨q.1, ?_, q.2.2⟩⟩)
  · cases h : dc (lt y b) with
    | true => exact dc_t.mp h
    | false => exact absurd q.2.1 (hw.2.2 y b a (fun z => by rw [dc_t.mpr z] at h; exact absurd h (by decide)) h2)
  · cases h : dc (lt y a) with
    | true => exact dc_t.mp h
    | false => exact absurd q.2.1 (hw.2.2 y a b (fun z => by rw [dc_t.mpr z] at h; exact absurd h (by decide)) h1)
theorem RK_lt {n : Nat} {lt : Nat → Nat → Prop} (hw : WO lt) {s : Nat} (hs : thr n s) : RK n lt s < 18 := by
  obtain ⟨r, r1, r2, r3, r4⟩ := fst_rep hw (s + 1) s (by omega) hs
  exact ct_lt (i := r) r1.1 (dc_f (fun q => r2 q.2.1))
/-- r is the first of the class of s: then one more class lies before what is next -/
theorem RK_up {n : Nat} {lt : Nat → Nat → Prop} (hw : WO lt) {s r : Nat} (hr : thr n r) (r2 : ¬ lt r s) (r3 : ¬ lt s r) (r4 : ∀ z, z < r → thr n z → lt z r ∨ lt r z) {P : Nat → Prop} (hP : ∀ y, thr n y → (P y ↔ ¬ lt s y)) : ct (fun y => dc (thr n y ∧ P y ∧ ∀ z, z < y → thr n z → lt z y ∨ lt y z)) 18 = RK n lt s + 1 := by
  have h := ct_upd (p := fun y => dc (thr n y ∧ P y ∧ ∀ z, z < y → thr n z → lt z y ∨ lt y z)) (q := fun y => dc (thr n y ∧ lt y s ∧ ∀ z, z < y → thr n z → lt z y ∨ lt y z)) (k := r) (fun y hy => dc_congr ⟨fun q => ⟨q.1, ?_, q.2.2⟩, fun q => ⟨q.1, (hP y q.1).mpr (fun z => hw.1 _ (hw.2.1 _ _ _ q.2.1 z)), q.2.2⟩⟩) 18 hr.1
  · have e1 : dc (thr n r ∧ P r ∧ ∀ z, z < r → thr n z → lt z r ∨ lt r z) = true := dc_t.mpr ⟨hr, (hP r hr).mpr r3, r4⟩
    have e2 : dc (thr n r ∧ lt r s ∧ ∀ z, z < r → thr n z → lt z r ∨ lt r z) = false := dc_f (fun q => r2 q.2.1)
    rw [e1, e2] at h
    unfold RK
    simpa using h
  · cases hc : dc (lt y s) with
    | true => exact dc_t.mp hc
    | false =>
      exfalso
      have n1 : ¬ lt y s := fun z => by rw [dc_t.mpr z] at hc; exact absurd hc (by decide)
      have n2 := (hP y q.1).mp q.2.1
      have a1 : ¬ lt y r := hw.2.2 _ _ _ n1 r3
      have a2 : ¬ lt r y := hw.2.2 _ _ _ r2 n2
      rcases Nat.lt_trichotomy y r with z | z | z
      · exact (r4 y z q.1).elim a1 a2
      · exact hy z
      · exact (q.2.2 r z hr).elim a2 a1
theorem RK_s {n : Nat} {lt : Nat → Nat → Prop} (hw : WO lt) {s : Nat → Nat} {m : Nat} (hs : ∀ j, j < m → thr n (s j)) (hsu : ∀ y, thr n y → ∃ j, j < m ∧ s j = y) (h : srtR lt s m) : ∀ j, j < m → RK n lt (s j) = ct (fun t => dc (lt (s t) (s (t + 1)))) j := by
  intro j
  induction j with
  | zero =>
    intro hj
    refine ct_none 18 (fun y _ => dc_f (fun q => ?_))
    obtain ⟨k, hk, e⟩ := hsu y q.1
    subst e
    exact srtR_all hw h k 0 (by omega) hk q.2.1
  | succ j ih =>
    intro hj
    have e0 : ct (fun t => dc (lt (s t) (s (t + 1)))) (j + 1) = ct (fun t => dc (lt (s t) (s (t + 1)))) j + (if dc (lt (s j) (s (j + 1))) then 1 else 0) := rfl
    rw [e0, ← ih (by omega)]
    cases hc : dc (lt (s j) (s (j + 1))) with
    | false =>
      rw [if_neg (by decide), Nat.add_zero]
      exact (RK_eq hw (fun z => by rw [dc_t.mpr z] at hc; exact absurd hc (by decide)) (h j hj)).symm
    | true =>
      rw [if_pos rfl]
      have hlt := dc_t.mp hc
      obtain ⟨r, r1, r2, r3, r4⟩ := fst_rep hw (s j + 1) (s j) (by omega) (hs j (by omega))
      exact RK_up hw r1 r2 r3 r4 (fun y hy => ⟨fun q z => by
        obtain ⟨k, hk, e⟩ := hsu y hy
        subst e
        rcases Nat.lt_or_ge j k with q2 | q2
        · exact srtR_all hw h k (j + 1) (by omega) hk q
        · exact srtR_all hw h j k q2 (by omega) z, fun q => by
        cases h3 : dc (lt y (s (j + 1))) with
        | true => exact dc_t.mp h3
        | false => exact absurd hlt (hw.2.2 _ _ _ q (fun z => by rw [dc_t.mpr z] at h3; exact absurd h3 (by decide)))⟩)
theorem CN_s {n : Nat} {lt : Nat → Nat → Prop} (hw : WO lt) {s : Nat → Nat} {m : Nat} (hm : 1 ≤ m) (hs : ∀ j, j < m → thr n (s j)) (hsu : ∀ y, thr n y → ∃ j, j < m ∧ s j = y) (h : srtR lt s m) : CN n lt = ct (fun t => dc (lt (s t) (s (t + 1)))) (m - 1) + 1 := by
  rw [← RK_s hw hs hsu h (m - 1) (by omega)]
  obtain ⟨r, r1, r2, r3, r4⟩ := fst_rep hw (s (m - 1) + 1) (s (m - 1)) (by omega) (hs (m - 1) (by omega))
  rw [← RK_up hw r1 r2 r3 r4 (P := fun _ => True) (fun y hy => ⟨fun _ z => by
    obtain ⟨k, hk, e⟩ := hsu y hy
    subst e
    exact srtR_all hw h (m - 1) k (by omega) (by omega) z, fun _ => trivial⟩)]
  exact ct_congr 18 (fun y _ => dc_congr ⟨fun q => ⟨q.1, trivial, q.2⟩, fun q => ⟨q.1, q.2.2⟩⟩)
theorem CN_le (n : Nat) (lt : Nat → Nat → Prop) : CN n lt ≤ 18 := ct_le _ 18
/-- the ints that the painter changes -/
def CP (I : SI) (A B E F H : Nat → Nat → Int32) : SI := sK (sK (sK (sK (sK I 10 A) 11 B) 12 E) 13 F) 16 H
theorem cp10 (I : SI) (A B E F H A' : Nat → Nat → Int32) : sK (CP I A B E F H) 10 A' = CP I A' B E F H := by
  unfold CP
  rw [sK_swap _ (by decide : (16 : Nat) ≠ 10), sK_swap _ (by decide : (13 : Nat) ≠ 10), sK_swap _ (by decide : (12 : Nat) ≠ 10), sK_swap _ (by decide : (11 : Nat) ≠ 10), sK_sK]
theorem cp_10 (I : SI) (A B E F H : Nat → Nat → Int32) : CP I A B E F H 10 = A := (sK_ne (by decide)).trans ((sK_ne (by decide)).trans ((sK_ne (by decide)).trans ((sK_ne (by decide)).trans (sK_self _ _ _))))
theorem cp11 (I : SI) (A B E F H B' : Nat → Nat → Int32) : sK (CP I A B E F H) 11 B' = CP I A B' E F H := by
  unfold CP
  rw [sK_swap _ (by decide : (16 : Nat) ≠ 11), sK_swap _ (by decide : (13 : Nat) ≠ 11), sK_swap _ (by decide : (12 : Nat) ≠ 11), sK_sK]
theorem cp_11 (I : SI) (A B E F H : Nat → Nat → Int32) : CP I A B E F H 11 = B := (sK_ne (by decide)).trans ((sK_ne (by decide)).trans ((sK_ne (by decide)).trans (sK_self _ _ _)))
theorem cp12 (I : SI) (A B E F H E' : Nat → Nat → Int32) : sK (CP I A B E F H) 12 E' = CP I A B E' F H := by
  unfold CP
  rw [sK_swap _ (by decide : (16 : Nat) ≠ 12), sK_swap _ (by decide : (13 : Nat) ≠ 12), sK_sK]
theorem cp_12 (I : SI) (A B E F H : Nat → Nat → Int32) : CP I A B E F H 12 = E := (sK_ne (by decide)).trans ((sK_ne (by decide)).trans (sK_self _ _ _))
theorem cp13 (I : SI) (A B E F H F' : Nat → Nat → Int32) : sK (CP I A B E F H) 13 F' = CP I A B E F' H := by
  unfold CP
  rw [sK_swap _ (by decide : (16 : Nat) ≠ 13), sK_sK]
theorem cp_13 (I : SI) (A B E F H : Nat → Nat → Int32) : CP I A B E F H 13 = F := (sK_ne (by decide)).trans (sK_self _ _ _)
theorem cp16 (I : SI) (A B E F H H' : Nat → Nat → Int32) : sK (CP I A B E F H) 16 H' = CP I A B E F H' := by
  unfold CP
  rw [sK_sK]
theorem cp_16 (I : SI) (A B E F H : Nat → Nat → Int32) : CP I A B E F H 16 = H := sK_self _ _ _
theorem cp_o {I : SI} {A B E F H : Nat → Nat → Int32} {k : Nat} (h : k ≠ 10 ∧ k ≠ 11 ∧ k ≠ 12 ∧ k ≠ 13 ∧ k ≠ 16) : CP I A B E F H k = I k :=
  (sK_ne h.2.2.2.2).trans ((sK_ne h.2.2.2.1).trans ((sK_ne h.2.2.1).trans ((sK_ne h.2.1).trans (sK_ne h.1))))
theorem cp_id (I : SI) : CP I (I 10) (I 11) (I 12) (I 13) (I 16) = I := by
  unfold CP
  rw [sK_id, show sK I 11 (I 11) = I from sK_id I 11, show sK I 12 (I 12) = I from sK_id I 12, show sK I 13 (I 13) = I from sK_id I 13]
  exact sK_id I 16
theorem cp_cp (I : SI) (A B E F H A' B' E' F' H' : Nat → Nat → Int32) : CP (CP I A B E F H) A' B' E' F' H' = CP I A' B' E' F' H' := by
  show sK (sK (sK (sK (sK (CP I A B E F H) 10 A') 11 B') 12 E') 13 F') 16 H' = _
  rw [cp10, cp11, cp12, cp13, cp16]
theorem cp_13i (I : SI) (F' : Nat → Nat → Int32) : sK I 13 F' = CP I (I 10) (I 11) (I 12) F' (I 16) := by
  conv => lhs; rw [← cp_id I]
  rw [cp13]
/-- what renumber leaves: the number of classes, each spot's rank, the spots in some order -/
def rnPost (n m : Nat) (lt : Nat → Nat → Prop) (I : SI) (J : SJ) : Option Value → SI → SJ → Prop := fun v' I' J' =>
  ∃ (B E F : Nat → Nat → Int32) (s : Nat → Nat), v' = none ∧ I' = CP I (up2 (I 10) 0 0 (nI (CN n lt))) B E F (I 16) ∧ J' = J ∧ (∀ y, thr n y → B 0 y = nI (RK n lt y)) ∧ (∀ j, j < m → F 0 j = nI (s j) ∧ thr n (s j)) ∧ ∀ y, thr n y → ∃ j, j < m ∧ s j = y
set_option maxRecDepth 100000 in
set_option maxHeartbeats 4000000 in
theorem l_X3_renumber_11 {X : Pk} {Z : Zk} {I : SI} {J : SJ} (hA : AJ Z.2.2.1) (C : Cx X cX3_renumber 5 RX3 Z 2 80) (hr : (xE X).sig.returnType = none) {n kc : Nat} (hn9 : n ≤ 9) (hkc : kc ≤ 9) {c : Nat → Nat} {Kf : Nat → Nat → Nat} (hc : ∀ s, thr n s → I 11 0 s = nI (c s) ∧ c s < 18) (hK : ∀ s, thr n s → ∀ k, k < kc → I 16 s k = nI (Kf s k) ∧ Kf s k < 400) {m : Nat} (hm : m ≤ 18) (hm1 : 1 ≤ m) {F : Nat → Nat → Int32} {s : Nat → Nat} (hF : ∀ j, j < m → F 0 j = nI (s j) ∧ thr n (s j)) (hsu : ∀ y, thr n y → ∃ j, j < m ∧ s j = y) (hsrt : srtR (fun u w => lx (kc + 1) (Qs c Kf u) (Qs c Kf w)) s m) : ∀ k i (E : Nat → Nat → Int32), m - i < k → i ≤ m → (∀ j, j < i → E 0 (s j) = nI (RK n (fun u w => lx (kc + 1) (Qs c Kf u) (Qs c Kf w)) (s j))) → G X 5 Z (QG X Z (rnPost n m (fun u w => lx (kc + 1) (Qs c Kf u) (Qs c Kf w)) I J)) (CP I (I 10) (I 11) E F (I 16)) J 11 [(0, .ref (Z.2.2.1 10 0)), (1, .int (nI m)), (2, .int (nI kc)), (3, .int (nI (ct (fun t => dc (lx (kc + 1) (Qs c Kf (s t)) (Qs c Kf (s (t + 1))))) (i - 1)))), (4, .int (nI i))] [] := by
  have hrk : ∀ i, i < m → RK n (fun u w => lx (kc + 1) (Qs c Kf u) (Qs c Kf w)) (s i) = ct (fun t => dc (lx (kc + 1) (Qs c Kf (s t)) (Qs c Kf (s (t + 1))))) i := fun i hi => RK_s (WO_lx (kc + 1) (Qs c Kf)) (fun j hj => (hF j hj).2) hsu hsrt i hi
  have hcn : CN n (fun u w => lx (kc + 1) (Qs c Kf u) (Qs c Kf w)) = ct (fun t => dc (lx (kc + 1) (Qs c Kf (s t)) (Qs c Kf (s (t + 1))))) (m - 1) + 1 := CN_s (WO_lx (kc + 1) (Qs c Kf)) hm1 (fun j hj => (hF j hj).2) hsu hsrt
  intro k
  induction k with
  | zero => intro i E h; exact absurd h (by omega)
  | succ k ih =>
    intro i E hk him hE
    have z0 := ct_le (fun t => dc (lx (kc + 1) (Qs c Kf (s t)) (Qs c Kf (s (t + 1))))) (i - 1)
    have z1 : i < m → s i < 18 := fun h => (hF i h).2.1
    have z2 : i < m → s (i - 1) < 18 := fun h => (hF (i - 1) (by omega)).2.1
    refine g_ild C dX3_renumber_11 rfl ?_
    refine g_ildn C dX3_renumber_13 rfl ?_
    refine n_icmp_ge (tgt := 68) C dX3_renumber_14 rfl (by omega) (by omega) (fun c14 => ?_) (fun c14 => ?_)
    · refine g_aldn C dX3_renumber_68 rfl ?_
      refine g_ildn C dX3_renumber_69 rfl ?_
      refine g_iconst C ((nI 1)) dX3_renumber_70 (by decide) ?_
      refine g_iadd (v := (nI (ct (fun t => dc (lx (kc + 1) (Qs c Kf (s t)) (Qs c Kf (s (t + 1))))) (i - 1) + 1))) C dX3_renumber_71 (nI_add _ _) ?_
      refine g_put C 10 0 (by decide) (by decide) tyX3 tyX3_ok nmX3 u3 rfl 0 rfl fX3_39 rfl (fun _ _ => rfl) (by simp [va_up]) rfl rfl rfl dX3_renumber_72 ?_
      refine g_I (I1 := CP I (up2 (I 10) 0 0 (nI (CN n (fun u w => lx (kc + 1) (Qs c Kf u) (Qs c Kf w))))) (I 11) E F (I 16)) (by rw [cp_10, cp10, hcn, show m - 1 = i - 1 by omega]) ?_
      refine g_aldn C dX3_renumber_75 rfl ?_
      refine g_get C 10 0 (by decide) (by decide) u3 rfl 2 rfl fX3_15 rfl rfl dX3_renumber_76 ?_
      refine g_iconst C ((nI 0)) dX3_renumber_79 (by decide) ?_
      refine g_aldn C dX3_renumber_80 rfl ?_
      refine g_get C 10 0 (by decide) (by decide) u3 rfl 1 rfl fX3_11 rfl rfl dX3_renumber_81 ?_
      refine g_iconst C ((nI 0)) dX3_renumber_84 (by decide) ?_
      refine g_bipush C ((nI 18)) dX3_renumber_85 (by decide) ?_
      refine g_copyi C mX3_52 12 0 11 0 (by decide) (by decide) (by decide) (by decide) (fun _ _ => rfl) (fun _ _ => rfl) 0 0 18 (by decide) (by decide) rfl rfl rfl rfl dX3_renumber_87 ?_
      refine g_I (I1 := CP I (up2 (I 10) 0 0 (nI (CN n (fun u w => lx (kc + 1) (Qs c Kf u) (Qs c Kf w))))) (va_up (I 11) 0 (va_cpy (E 0) (I 11 0) 0 0 18)) E F (I 16)) (by rw [cp_11, cp_12, cp11]) ?_
      exact g_return C hr dX3_renumber_90 ⟨_, E, F, s, rfl, rfl, rfl, fun y hy => by rw [va_up_self, pk_cpy_in (by omega) (by have := hy.1; omega)]; obtain ⟨j, hj, e⟩ := hsu y hy; rw [show 0 + (y - 0) = y by omega, ← e]; exact hE j (by omega), hF, hsu⟩
    · refine g_ild C dX3_renumber_17 rfl ?_
      refine n_if_le (tgt := 49) C dX3_renumber_19 rfl (by omega) (fun c19 => ?_) (fun c19 => ?_)
      · refine g_lv (lv1 := [(0, .ref (Z.2.2.1 10 0)), (1, .int (nI m)), (2, .int (nI kc)), (3, .int (nI (ct (fun t => dc (lx (kc + 1) (Qs c Kf (s t)) (Qs c Kf (s (t + 1))))) i))), (4, .int (nI i))]) [0, 1, 2, 3, 4] (by first | (rw [show i = 0 by omega]; rfl) | (rw [show ct (fun t => dc (lx (kc + 1) (Qs c Kf (s t)) (Qs c Kf (s (t + 1))))) i = ct (fun t => dc (lx (kc + 1) (Qs c Kf (s t)) (Qs c Kf (s (t + 1))))) (i - 1) by obtain ⟨p, hp⟩ : ∃ p, i = p + 1 := ⟨i - 1, by omega⟩; subst hp; exact ct_f (dc_f (fun q => lx_irr (lx_r q (fun a ha => (sgn_0 hdd c43 a ha).symm))))]; rfl)) ?_
        refine g_aldn C dX3_renumber_49 rfl ?_
        refine g_get C 10 0 (by decide) (by decide) u3 rfl 2 rfl fX3_15 rfl rfl dX3_renumber_50 ?_
        refine g_aldn C dX3_renumber_53 rfl ?_
        refine g_get C 10 0 (by decide) (by decide) u3 rfl 3 rfl fX3_18 rfl rfl dX3_renumber_54 ?_
        refine g_ild C dX3_renumber_57 rfl ?_
        refine g_iald C 13 0 (by decide) (by decide) (fun _ _ => rfl) i (show i < 18 by omega) rfl dX3_renumber_59 (v := (nI (s i))) (by rw [cp_13]; exact (hF i (by omega)).1) ?_
        refine g_ildn C dX3_renumber_60 rfl ?_
        refine g_iast C 12 0 (by decide) (by decide) (fun _ _ => rfl) (s i) (show s i < 18 by omega) rfl dX3_renumber_61 ?_
        refine g_I (I1 := CP I (I 10) (I 11) (up2 E 0 (s i) (nI (ct (fun t => dc (lx (kc + 1) (Qs c Kf (s t)) (Qs c Kf (s (t + 1))))) i))) F (I 16)) (by rw [cp_12, cp12]) ?_
        refine g_iinc (lv' := [(4, .int (nI (i + 1))), (0, .ref (Z.2.2.1 10 0)), (1, .int (nI m)), (2, .int (nI kc)), (3, .int (nI (ct (fun t => dc (lx (kc + 1) (Qs c Kf (s t)) (Qs c Kf (s (t + 1))))) i)))]) C ((nI (i + 1))) dX3_renumber_62 rfl (inc1 _) rfl rfl ?_
        refine g_goto (tgt := 11) C dX3_renumber_65 rfl ?_
        refine g_lv (lv1 := [(0, .ref (Z.2.2.1 10 0)), (1, .int (nI m)), (2, .int (nI kc)), (3, .int (nI (ct (fun t => dc (lx (kc + 1) (Qs c Kf (s t)) (Qs c Kf (s (t + 1))))) (i + 1 - 1)))), (4, .int (nI (i + 1)))]) [1, 2, 3, 4, 0] (by rw [show i + 1 - 1 = i by omega]; rfl) ?_
        refine ih (i + 1) _ (by omega) (by omega) (fun j hj => ?_)
        rw [up2_at]
        by_cases e : s j = s i
        · rw [if_pos ⟨rfl, e⟩, e, hrk i (by omega)]
        · rw [if_neg (fun q => e q.2)]; exact hE j (by have : j ≠ i := fun q => e (by rw [q]); omega)
      · refine g_aldn C dX3_renumber_22 rfl ?_
        refine g_aldn C dX3_renumber_23 rfl ?_
        refine g_get C 10 0 (by decide) (by decide) u3 rfl 3 rfl fX3_18 rfl rfl dX3_renumber_24 ?_
        refine g_ild C dX3_renumber_27 rfl ?_
        refine g_iconst C ((nI 1)) dX3_renumber_29 (by decide) ?_
        refine g_isub (v := (nI (i - 1))) C dX3_renumber_30 (pk_sub (by omega)) ?_
        refine g_iald C 13 0 (by decide) (by decide) (fun _ _ => rfl) (i - 1) (show i - 1 < 18 by omega) rfl dX3_renumber_31 (v := (nI (s (i - 1)))) (by rw [cp_13]; exact (hF (i - 1) (by omega)).1) ?_
        refine g_aldn C dX3_renumber_32 rfl ?_
        refine g_get C 10 0 (by decide) (by decide) u3 rfl 3 rfl fX3_18 rfl rfl dX3_renumber_33 ?_
        refine g_ild C dX3_renumber_36 rfl ?_
        refine g_iald C 13 0 (by decide) (by decide) (fun _ _ => rfl) i (show i < 18 by omega) rfl dX3_renumber_38 (v := (nI (s i))) (by rw [cp_13]; exact (hF i (by omega)).1) ?_
        refine g_ildn C dX3_renumber_39 rfl ?_
        refine g_callV (As := [.int (nI (s (i - 1))), .int (nI (s i)), .int (nI kc)]) (st := []) C (c_X3_difference hA hn9 hkc (c := c) (Kf := Kf) (fun u hu => by rw [cp_11]; exact hc u hu) (fun u hu => by rw [cp_16]; exact hK u hu) (hF (i - 1) (by omega)).2 (hF i (by omega)).2) wX3_difference iX3_difference sX3_difference mX3_78 10 0 (by decide) (by decide) rfl rfl rfl rfl rfl rfl rfl rfl dX3_renumber_40 ?_
        rintro v9 I9 J9 ⟨⟨dd, h91, hdd⟩, h92, h93⟩
        rw [h91, h92, h93]
        clear h91 h92 h93 v9 I9 J9
        show G X _ Z _ (CP I (I 10) (I 11) E F (I 16)) J 43 [(0, .ref (Z.2.2.1 10 0)), (1, .int (nI m)), (2, .int (nI kc)), (3, .int (nI (ct (fun t => dc (lx (kc + 1) (Qs c Kf (s t)) (Qs c Kf (s (t + 1))))) (i - 1)))), (4, .int (nI i))] [.int dd]
        refine g_if_eq (tgt := 49) C dX3_renumber_43 rfl (fun c43 => ?_) (fun c43 => ?_)
        · refine g_lv (lv1 := [(0, .ref (Z.2.2.1 10 0)), (1, .int (nI m)), (2, .int (nI kc)), (3, .int (nI (ct (fun t => dc (lx (kc + 1) (Qs c Kf (s t)) (Qs c Kf (s (t + 1))))) i))), (4, .int (nI i))]) [0, 1, 2, 3, 4] (by first | (rw [show i = 0 by omega]; rfl) | (rw [show ct (fun t => dc (lx (kc + 1) (Qs c Kf (s t)) (Qs c Kf (s (t + 1))))) i = ct (fun t => dc (lx (kc + 1) (Qs c Kf (s t)) (Qs c Kf (s (t + 1))))) (i - 1) by obtain ⟨p, hp⟩ : ∃ p, i = p + 1 := ⟨i - 1, by omega⟩; subst hp; exact ct_f (dc_f (fun q => lx_irr (lx_r q (fun a ha => (sgn_0 hdd c43 a ha).symm))))]; rfl)) ?_
          refine g_aldn C dX3_renumber_49 rfl ?_
          refine g_get C 10 0 (by decide) (by decide) u3 rfl 2 rfl fX3_15 rfl rfl dX3_renumber_50 ?_
          refine g_aldn C dX3_renumber_53 rfl ?_
          refine g_get C 10 0 (by decide) (by decide) u3 rfl 3 rfl fX3_18 rfl rfl dX3_renumber_54 ?_
          refine g_ild C dX3_renumber_57 rfl ?_
          refine g_iald C 13 0 (by decide) (by decide) (fun _ _ => rfl) i (show i < 18 by omega) rfl dX3_renumber_59 (v := (nI (s i))) (by rw [cp_13]; exact (hF i (by omega)).1) ?_
          refine g_ildn C dX3_renumber_60 rfl ?_
          refine g_iast C 12 0 (by decide) (by decide) (fun _ _ => rfl) (s i) (show s i < 18 by omega) rfl dX3_renumber_61 ?_
          refine g_I (I1 := CP I (I 10) (I 11) (up2 E 0 (s i) (nI (ct (fun t => dc (lx (kc + 1) (Qs c Kf (s t)) (Qs c Kf (s (t + 1))))) i))) F (I 16)) (by rw [cp_12, cp12]) ?_
          refine g_iinc (lv' := [(4, .int (nI (i + 1))), (0, .ref (Z.2.2.1 10 0)), (1, .int (nI m)), (2, .int (nI kc)), (3, .int (nI (ct (fun t => dc (lx (kc + 1) (Qs c Kf (s t)) (Qs c Kf (s (t + 1))))) i)))]) C ((nI (i + 1))) dX3_renumber_62 rfl (inc1 _) rfl rfl ?_
          refine g_goto (tgt := 11) C dX3_renumber_65 rfl ?_
          refine g_lv (lv1 := [(0, .ref (Z.2.2.1 10 0)), (1, .int (nI m)), (2, .int (nI kc)), (3, .int (nI (ct (fun t => dc (lx (kc + 1) (Qs c Kf (s t)) (Qs c Kf (s (t + 1))))) (i + 1 - 1)))), (4, .int (nI (i + 1)))]) [1, 2, 3, 4, 0] (by rw [show i + 1 - 1 = i by omega]; rfl) ?_
          refine ih (i + 1) _ (by omega) (by omega) (fun j hj => ?_)
          rw [up2_at]
          by_cases e : s j = s i
          · rw [if_pos ⟨rfl, e⟩, e, hrk i (by omega)]
          · rw [if_neg (fun q => e q.2)]; exact hE j (by have : j ≠ i := fun q => e (by rw [q]); omega)
        · refine g_iinc (lv' := [(3, .int (nI (ct (fun t => dc (lx (kc + 1) (Qs c Kf (s t)) (Qs c Kf (s (t + 1))))) (i - 1) + 1))), (0, .ref (Z.2.2.1 10 0)), (1, .int (nI m)), (2, .int (nI kc)), (4, .int (nI i))]) C ((nI (ct (fun t => dc (lx (kc + 1) (Qs c Kf (s t)) (Qs c Kf (s (t + 1))))) (i - 1) + 1))) dX3_renumber_46 rfl (inc1 _) rfl rfl ?_
          refine g_lv (lv1 := [(0, .ref (Z.2.2.1 10 0)), (1, .int (nI m)), (2, .int (nI kc)), (3, .int (nI (ct (fun t => dc (lx (kc + 1) (Qs c Kf (s t)) (Qs c Kf (s (t + 1))))) i))), (4, .int (nI i))]) [1, 2, 3, 0, 4] (by rw [show ct (fun t => dc (lx (kc + 1) (Qs c Kf (s t)) (Qs c Kf (s (t + 1))))) i = ct (fun t => dc (lx (kc + 1) (Qs c Kf (s t)) (Qs c Kf (s (t + 1))))) (i - 1) + 1 by obtain ⟨p, hp⟩ : ∃ p, i = p + 1 := ⟨i - 1, by omega⟩; subst hp; exact ct_t (dc_t.mpr ((sgn_n hdd c43).resolve_right (hsrt p (by omega))))]; rfl) ?_
          refine g_aldn C dX3_renumber_49 rfl ?_
          refine g_get C 10 0 (by decide) (by decide) u3 rfl 2 rfl fX3_15 rfl rfl dX3_renumber_50 ?_
          refine g_aldn C dX3_renumber_53 rfl ?_
          refine g_get C 10 0 (by decide) (by decide) u3 rfl 3 rfl fX3_18 rfl rfl dX3_renumber_54 ?_
          refine g_ild C dX3_renumber_57 rfl ?_
          refine g_iald C 13 0 (by decide) (by decide) (fun _ _ => rfl) i (show i < 18 by omega) rfl dX3_renumber_59 (v := (nI (s i))) (by rw [cp_13]; exact (hF i (by omega)).1) ?_
          refine g_ildn C dX3_renumber_60 rfl ?_
          refine g_iast C 12 0 (by decide) (by decide) (fun _ _ => rfl) (s i) (show s i < 18 by omega) rfl dX3_renumber_61 ?_
          refine g_I (I1 := CP I (I 10) (I 11) (up2 E 0 (s i) (nI (ct (fun t => dc (lx (kc + 1) (Qs c Kf (s t)) (Qs c Kf (s (t + 1))))) i))) F (I 16)) (by rw [cp_12, cp12]) ?_
          refine g_iinc (lv' := [(4, .int (nI (i + 1))), (0, .ref (Z.2.2.1 10 0)), (1, .int (nI m)), (2, .int (nI kc)), (3, .int (nI (ct (fun t => dc (lx (kc + 1) (Qs c Kf (s t)) (Qs c Kf (s (t + 1))))) i)))]) C ((nI (i + 1))) dX3_renumber_62 rfl (inc1 _) rfl rfl ?_
          refine g_goto (tgt := 11) C dX3_renumber_65 rfl ?_
          refine g_lv (lv1 := [(0, .ref (Z.2.2.1 10 0)), (1, .int (nI m)), (2, .int (nI kc)), (3, .int (nI (ct (fun t => dc (lx (kc + 1) (Qs c Kf (s t)) (Qs c Kf (s (t + 1))))) (i + 1 - 1)))), (4, .int (nI (i + 1)))]) [1, 2, 3, 4, 0] (by rw [show i + 1 - 1 = i by omega]; rfl) ?_
          refine ih (i + 1) _ (by omega) (by omega) (fun j hj => ?_)
          rw [up2_at]
          by_cases e : s j = s i
          · rw [if_pos ⟨rfl, e⟩, e, hrk i (by omega)]
          · rw [if_neg (fun q => e q.2)]; exact hE j (by have : j ≠ i := fun q => e (by rw [q]); omega)

set_option maxRecDepth 100000 in
set_option maxHeartbeats 4000000 in
/-- renumber -/
theorem c_X3_renumber {l : Launch} {Y : Yk} (hA : AJ Y.2.2) {I : SI} {J : SJ} {n kc : Nat} (hn9 : n ≤ 9) (hkc : kc ≤ 9) {c : Nat → Nat} {Kf : Nat → Nat → Nat} (hc : ∀ s, thr n s → I 11 0 s = nI (c s) ∧ c s < 18) (hK : ∀ s, thr n s → ∀ k, k < kc → I 16 s k = nI (Kf s k) ∧ Kf s k < 400) {m : Nat} (hm : m ≤ 18) (hm1 : 1 ≤ m) {so : Nat → Nat} (hso : ∀ j, j < m → I 13 0 j = nI (so j) ∧ thr n (so j)) (hsu : ∀ y, thr n y → ∃ j, j < m ∧ so j = y)  : MX l Y yX3_renumber cX3_renumber 5 (none) 2 80 [.ref (Y.2.2 10 0), .int (nI m), .int (nI kc)] I J (rnPost n m (fun u w => lx (kc + 1) (Qs c Kf u) (Qs c Kf w)) I J) := by
  refine MX.of hA (by decide) (own := RX3) rfl rfl rfl ?_
  intro X Z hl hY1 hY2 hY3 C hr
  obtain ⟨D0, ca0, ad0⟩ := Y
  dsimp only at hA hY1 hY2 hY3
  subst hY1; subst hY2; subst hY3; subst hl
  show G X 5 Z (QG X Z _) I J 0 [(0, .ref (Z.2.2.1 10 0)), (1, .int (nI m)), (2, .int (nI kc))] []
  refine g_aldn C dX3_renumber_0 rfl ?_
  refine g_ildn C dX3_renumber_1 rfl ?_
  refine g_ildn C dX3_renumber_2 rfl ?_
  refine g_callV (As := [.int (nI m), .int (nI kc)]) (st := []) C (c_X3_sortSpots hA hn9 hkc hc hK hm hso hm1) wX3_sortSpots iX3_sortSpots sX3_sortSpots mX3_75 10 0 (by decide) (by decide) rfl rfl rfl rfl rfl rfl rfl rfl dX3_renumber_3 ?_
  rintro v9 I9 J9 ⟨F, s, h91, h92, h93, hF, hsrt, hct⟩
  rw [h91, h92, h93, cp_13i]
  clear h91 h92 h93 v9 I9 J9
  show G X _ Z _ (CP I (I 10) (I 11) (I 12) F (I 16)) J 6 [(0, .ref (Z.2.2.1 10 0)), (1, .int (nI m)), (2, .int (nI kc))] []
  refine g_iconst C ((nI 0)) dX3_renumber_6 (by decide) ?_
  refine g_istn (lv' := [(3, .int (nI 0)), (0, .ref (Z.2.2.1 10 0)), (1, .int (nI m)), (2, .int (nI kc))]) C dX3_renumber_7 rfl rfl ?_
  refine g_iconst C ((nI 0)) dX3_renumber_8 (by decide) ?_
  refine g_ist (lv' := [(4, .int (nI 0)), (3, .int (nI 0)), (0, .ref (Z.2.2.1 10 0)), (1, .int (nI m)), (2, .int (nI kc))]) C dX3_renumber_9 rfl rfl ?_
  refine g_lv (lv1 := [(0, .ref (Z.2.2.1 10 0)), (1, .int (nI m)), (2, .int (nI kc)), (3, .int (nI (ct (fun t => dc (lx (kc + 1) (Qs c Kf (s t)) (Qs c Kf (s (t + 1))))) (0 - 1)))), (4, .int (nI 0))]) [2, 3, 4, 1, 0] rfl ?_
  refine l_X3_renumber_11 hA C hr hn9 hkc hc hK hm hm1 hF (fun y hy => ?_) hsrt (m + 1) 0 (I 12) (by omega) (by omega) (fun j hj => absurd hj (by omega))
  obtain ⟨j, hj, e⟩ := hsu y hy
  have h2 := hct (fun a => decide (a = y))
  obtain ⟨j2, a1, a2⟩ := ct_pos (show 0 < ct (fun j => decide (s j = y)) m by rw [h2]; exact ct_in hj (decide_eq_true e))
  exact ⟨j2, a1, of_decide_eq_true a2⟩
end
section
/-! ===== a round of colouring, by counts; the same by ordered keys ===== -/
/-- the key of vertex w, seen from spot sp -/
def ky1 (L : Nat → Nat → Nat → Nat) (c : Nat → Nat) (sp w : Nat) : Nat := pr L (sp / 9) (sp % 9) w * 18 + c (9 * (sp / 9) + w)
/-- how many others have key x -/
def kn (n : Nat) (L : Nat → Nat → Nat → Nat) (c : Nat → Nat) (sp x : Nat) : Nat := ct (fun w => sel 0 (sp % 9) w && decide (ky1 L c sp w = x)) n
/-- the order of a round -/
def slt (n : Nat) (L : Nat → Nat → Nat → Nat) (c : Nat → Nat) (a b : Nat) : Prop := c a < c b ∨ (c a = c b ∧ ∃ x, (∀ y, y < x → kn n L c a y = kn n L c b y) ∧ kn n L c b x < kn n L c a x)
/-- the order of the start -/
def tlt (T : Nat → Nat → Nat) (a b : Nat) : Prop := T (a / 9) (a % 9) < T (b / 9) (b % 9)
theorem RK_congr {n : Nat} {lt lt' : Nat → Nat → Prop} (h : ∀ a b, thr n a → thr n b → (lt a b ↔ lt' a b)) {s : Nat} (hs : thr n s) : RK n lt s = RK n lt' s :=
  ct_congr 18 (fun y _ => dc_congr ⟨fun q => ⟨q.1, (h y s q.1 hs).mp q.2.1, fun z hz ht => (q.2.2 z hz ht).imp (h z y ht q.1).mp (h y z q.1 ht).mp⟩, fun q => ⟨q.1, (h y s q.1 hs).mpr q.2.1, fun z hz ht => (q.2.2 z hz ht).imp (h z y ht q.1).mpr (h y z q.1 ht).mpr⟩⟩)
theorem CN_congr {n : Nat} {lt lt' : Nat → Nat → Prop} (h : ∀ a b, thr n a → thr n b → (lt a b ↔ lt' a b)) : CN n lt = CN n lt' :=
  ct_congr 18 (fun y _ => dc_congr ⟨fun q => ⟨q.1, fun z hz ht => (q.2 z hz ht).imp (h z y ht q.1).mp (h y z q.1 ht).mp⟩, fun q => ⟨q.1, fun z hz ht => (q.2 z hz ht).imp (h z y ht q.1).mpr (h y z q.1 ht).mpr⟩⟩)
theorem ct_cut {p q : Nat → Bool} {i m : Nat} (hi : i ≤ m) (h1 : ∀ j, j < i → p j = q j) (h2 : ∀ j, i ≤ j → j < m → p j = false) (h3 : ∀ j, i ≤ j → j < m → q j = false) : ct p m = ct q m := ct_congr m (fun j hj => by
  rcases Nat.lt_or_ge j i with e | e
  · exact h1 j e
  · rw [h2 j e hj, h3 j e hj])
theorem key_lt {m : Nat} {s s' : Nat → Nat} (hs : srt s m) (hs' : srt s' m) (h : lx m s s') : ∃ x, (∀ y, y < x → ct (fun j => decide (s j = y)) m = ct (fun j => decide (s' j = y)) m) ∧ ct (fun j => decide (s' j = x)) m < ct (fun j => decide (s j = x)) m := by
  obtain ⟨i, hi, h1, h2⟩ := h
  refine ⟨s i, fun y hy => ct_cut (Nat.le_of_lt hi) (fun j hj => by rw [h1 j hj]) (fun j hj hm => decide_eq_false (by have := srt_le hs j i hj hm; omega)) (fun j hj hm => decide_eq_false (by have := srt_le hs' j i hj hm; omega)), ?_⟩
  have a1 : ct (fun j => decide (s' j = s i)) m = ct (fun j => decide (s' j = s i)) i := by
    rw [show m = i + (m - i) by omega, ct_add, ct_none (m - i) (fun j hj => decide_eq_false (by have := srt_le hs' (i + j) i (by omega) (by omega); omega))]
    rfl
  have a2 : ct (fun j => decide (s j = s i)) (i + 1) = ct (fun j => decide (s j = s i)) i + 1 := ct_t (decide_eq_true rfl)
  have a3 := ct_mono (fun j => decide (s j = s i)) (show i + 1 ≤ m by omega)
  have a4 : ct (fun j => decide (s j = s i)) i = ct (fun j => decide (s' j = s i)) i := ct_congr i (fun j hj => by rw [h1 j hj])
  rw [a1]
  omega
theorem key_iff {m : Nat} {s s' : Nat → Nat} (hs : srt s m) (hs' : srt s' m) : lx m s s' ↔ ∃ x, (∀ y, y < x → ct (fun j => decide (s j = y)) m = ct (fun j => decide (s' j = y)) m) ∧ ct (fun j => decide (s' j = x)) m < ct (fun j => decide (s j = x)) m := by
  refine ⟨key_lt hs hs', fun ⟨x, h1, h2⟩ => ?_⟩
  rcases lx_tot m s s' with q | q | q
  · exact q
  · exfalso
    have : ct (fun j => decide (s j = x)) m = ct (fun j => decide (s' j = x)) m := ct_congr m (fun j hj => by rw [q j hj])
    omega
  · exfalso
    obtain ⟨x', g1, g2⟩ := key_lt hs' hs q
    rcases Nat.lt_trichotomy x x' with z | z | z
    · have := g1 x z; omega
    · subst z; omega
    · have := h1 x' z; omega
/-- the keys of all spots, each spot's in order -/
def gK (n : Nat) (L : Nat → Nat → Nat → Nat) (c : Nat → Nat) (ky : Nat → Nat → Nat) (sp : Nat) : Prop := bS 0 (sp % 9) (ky1 L c sp) 400 n (n - 1) (ky sp)
theorem slt_iff {n : Nat} {L : Nat → Nat → Nat → Nat} {c : Nat → Nat} {ky : Nat → Nat → Nat} {a b : Nat} (ha : gK n L c ky a) (hb : gK n L c ky b) : lx (n - 1 + 1) (Qs c ky a) (Qs c ky b) ↔ slt n L c a b := by
  have hk : ∀ sp, gK n L c ky sp → ∀ x, ct (fun j => decide (ky sp j = x)) (n - 1) = kn n L c sp x := fun sp h x => h.2.2.2 (fun t => decide (t = x))
  have h1 : lx (n - 1) (ky a) (ky b) ↔ ∃ x, (∀ y, y < x → kn n L c a y = kn n L c b y) ∧ kn n L c b x < kn n L c a x := by
    rw [key_iff ha.2.1 hb.2.1]
    constructor
    · rintro ⟨x, q1, q2⟩
      exact ⟨x, fun y hy => by rw [← hk a ha, ← hk b hb]; exact q1 y hy, by rw [← hk a ha, ← hk b hb]; exact q2⟩
    · rintro ⟨x, q1, q2⟩
      exact ⟨x, fun y hy => by rw [hk a ha, hk b hb]; exact q1 y hy, by rw [hk a ha, hk b hb]; exact q2⟩
  constructor
  · rintro ⟨i, hi, q1, q2⟩
    cases i with
    | zero => exact Or.inl q2
    | succ i => exact Or.inr ⟨q1 0 (by omega), h1.mp ⟨i, by omega, fun j hj => q1 (j + 1) (by omega), q2⟩⟩
  · rintro (q | ⟨e, q⟩)
    · exact Qs_c q
    · obtain ⟨i, hi, q1, q2⟩ := h1.mpr q
      exact Qs_k hi e q1 q2
/-- the colours behind k rounds, and how many there are -/
noncomputable def cs (n : Nat) (T : Nat → Nat → Nat) (L : Nat → Nat → Nat → Nat) : Nat → Nat → Nat
  | 0 => RK n (tlt T)
  | k + 1 => RK n (slt n L (cs n T L k))
noncomputable def ms (n : Nat) (T : Nat → Nat → Nat) (L : Nat → Nat → Nat → Nat) : Nat → Nat
  | 0 => CN n (tlt T)
  | k + 1 => CN n (slt n L (cs n T L k))
theorem WO_tlt (T : Nat → Nat → Nat) : WO (tlt T) := ⟨fun _ => Nat.lt_irrefl _, fun _ _ _ => Nat.lt_trans, fun _ _ _ h1 h2 => by unfold tlt at *; omega⟩
theorem WO_slt (n : Nat) (L : Nat → Nat → Nat → Nat) (c : Nat → Nat) : WO (slt n L c) := by
  refine ⟨fun a h => ?_, fun a b d h1 h2 => ?_, fun a b d h1 h2 h3 => ?_⟩
  · rcases h with h | ⟨_, x, _, h⟩
    · omega
    · omega
  · rcases h1 with h1 | ⟨e1, x, x1, x2⟩
    · rcases h2 with h2 | ⟨e2, _⟩
      · exact Or.inl (by omega)
      · exact Or.inl (by omega)
    · rcases h2 with h2 | ⟨e2, y, y1, y2⟩
      · exact Or.inl (by omega)
      · refine Or.inr ⟨e1.trans e2, ?_⟩
        rcases Nat.lt_trichotomy x y with q | q | q
        · exact ⟨x, fun z hz => (x1 z hz).trans (y1 z (by omega)), by rw [← y1 x q]; exact x2⟩
        · subst q; exact ⟨x, fun z hz => (x1 z hz).trans (y1 z hz), by omega⟩
        · exact ⟨y, fun z hz => (x1 z (by omega)).trans (y1 z hz), by rw [x1 y q]; exact y2⟩
  · have c1 : ¬ c a < c b := fun q => h1 (Or.inl q)
    have c2 : ¬ c b < c d := fun q => h2 (Or.inl q)
    rcases h3 with h3 | ⟨e, x, x1, x2⟩
    · omega
    · have e1 : c a = c b := by omega
      have e2 : c b = c d := by omega
      -- the least place where a and b differ, if below or at x
      have key : ∀ N, N ≤ x + 1 → (∀ y, y < N → kn n L c a y = kn n L c b y) ∨ ∃ y, y < N ∧ (∀ z, z < y → kn n L c a z = kn n L c b z) ∧ kn n L c a y < kn n L c b y := by
        intro N
        induction N with
        | zero => intro _; exact Or.inl (fun y hy => absurd hy (by omega))
        | succ N ih =>
          intro hN
          rcases ih (by omega) with q | ⟨y, y1, y2⟩
          · rcases Nat.lt_trichotomy (kn n L c a N) (kn n L c b N) with z | z | z
            · exact Or.inr ⟨N, by omega, q, z⟩
            · exact Or.inl (fun y hy => (Nat.lt_or_eq_of_le (Nat.le_of_lt_succ hy)).elim (q y) (fun w => by rw [w]; exact z))
            · exact absurd (Or.inr ⟨e1, N, q, z⟩) h1
          · exact Or.inr ⟨y, by omega, y2⟩
      rcases key (x + 1) (Nat.le_refl _) with q | ⟨y, y1, y2, y3⟩
      · exact h2 (Or.inr ⟨e2, x, fun z hz => by rw [← q z (by omega)]; exact x1 z hz, by rw [← q x (by omega)]; exact x2⟩)
      · refine h2 (Or.inr ⟨e2, y, fun z hz => by rw [← y2 z hz]; exact x1 z (by omega), ?_⟩)
        rcases Nat.lt_or_eq_of_le (Nat.le_of_lt_succ y1) with w | w
        · rw [← x1 y w]; exact y3
        · subst w; omega
theorem cs_lt {n : Nat} {T : Nat → Nat → Nat} {L : Nat → Nat → Nat → Nat} (k : Nat) {s : Nat} (hs : thr n s) : cs n T L k s < 18 := by
  cases k with
  | zero => exact RK_lt (WO_tlt T) hs
  | succ k => exact RK_lt (WO_slt n L _) hs
end
section
/-! ===== Painter: gatherKeysOf, gatherKeys, paintTints ===== -/
set_option maxRecDepth 100000 in
set_option maxHeartbeats 4000000 in
theorem l_X3_gatherKeysOf_57 {X : Pk} {Z : Zk} {fr lo : Nat} {Q : State → Prop} {I : SI} {J : SJ} (C : Cx X cX3_gatherKeysOf 9 RX3 Z fr lo) {n g v w m : Nat} {L : Nat → Nat → Nat → Nat} {c s : Nat → Nat} (hn9 : n ≤ 9) (hg : g < 2) (hvn : v < n) (hm : m + 1 < n) (hs : ∀ j, j < m → s j < 400) (hx : pr L g v w * 18 + c (9 * g + w) < 400) (hex : ∀ a (H : Nat → Nat → Int32), a ≤ m → (∀ r, r ≠ (9 * g + v) → H r = I 16 r) → (∀ j, j < a → H (9 * g + v) j = nI (s j)) → (∀ j, a ≤ j → j < m → H (9 * g + v) (j + 1) = nI (s j)) → (∀ j, a ≤ j → j < m → pr L g v w * 18 + c (9 * g + w) < s j) → (a = 0 ∨ s (a - 1) ≤ pr L g v w * 18 + c (9 * g + w)) → G X 9 Z Q (sK I 16 H) J 92 [(0, .ref (Z.2.2.1 10 0)), (1, .ref (Z.2.2.1 2 g)), (2, .int (nI v)), (3, .int (nI (9 * g))), (4, .ref (Z.2.2.1 16 (9 * g + v))), (5, .int (nI m)), (6, .int (nI w)), (7, .int (nI (pr L g v w * 18 + c (9 * g + w)))), (8, .int (nI a))] []) : ∀ k a (H : Nat → Nat → Int32), a < k → a ≤ m → (∀ r, r ≠ (9 * g + v) → H r = I 16 r) → (∀ j, j < a → H (9 * g + v) j = nI (s j)) → (∀ j, a ≤ j → j < m → H (9 * g + v) (j + 1) = nI (s j)) → (∀ j, a ≤ j → j < m → pr L g v w * 18 + c (9 * g + w) < s j) → G X 9 Z Q (sK I 16 H) J 57 [(0, .ref (Z.2.2.1 10 0)), (1, .ref (Z.2.2.1 2 g)), (2, .int (nI v)), (3, .int (nI (9 * g))), (4, .ref (Z.2.2.1 16 (9 * g + v))), (5, .int (nI m)), (6, .int (nI w)), (7, .int (nI (pr L g v w * 18 + c (9 * g + w)))), (8, .int (nI a))] [] := by
  intro k
  induction k with
  | zero => intro a H h; exact absurd h (by omega)
  | succ k ih =>
    intro a H hk ham hH1 hH2 hH3 h5
    have hsa : 0 < a → s (a - 1) < 400 := fun h => hs _ (by omega)
    refine g_ild C dX3_gatherKeysOf_57 rfl ?_
    refine n_if_le (tgt := 92) C dX3_gatherKeysOf_59 rfl (by omega) (fun c59 => ?_) (fun c59 => ?_)
    · refine g_lv [0, 1, 2, 3, 4, 5, 6, 7, 8] rfl ?_
      exact hex a H (by omega) hH1 hH2 hH3 h5 (by first | exact Or.inl (by omega) | exact Or.inr c71)
    · refine g_ald C dX3_gatherKeysOf_62 rfl ?_
      refine g_ild C dX3_gatherKeysOf_64 rfl ?_
      refine g_iconst C ((nI 1)) dX3_gatherKeysOf_66 (by decide) ?_
      refine g_isub (v := (nI (a - 1))) C dX3_gatherKeysOf_67 (pk_sub (by omega)) ?_
      refine g_iald C 16 (9 * g + v) (by decide) (show 9 * g + v < 18 by omega) (fun _ _ => rfl) (a - 1) (show a - 1 < 9 by omega) rfl dX3_gatherKeysOf_68 (v := (nI (s (a - 1)))) (by rw [sK_self]; exact hH2 (a - 1) (by omega)) ?_
      refine g_ild C dX3_gatherKeysOf_69 rfl ?_
      refine n_icmp_le (tgt := 92) C dX3_gatherKeysOf_71 rfl (by omega) (by omega) (fun c71 => ?_) (fun c71 => ?_)
      · refine g_lv [0, 1, 2, 3, 4, 5, 6, 7, 8] rfl ?_
        exact hex a H (by omega) hH1 hH2 hH3 h5 (by first | exact Or.inl (by omega) | exact Or.inr c71)
      · refine g_ald C dX3_gatherKeysOf_74 rfl ?_
        refine g_ild C dX3_gatherKeysOf_76 rfl ?_
        refine g_ald C dX3_gatherKeysOf_78 rfl ?_
        refine g_ild C dX3_gatherKeysOf_80 rfl ?_
        refine g_iconst C ((nI 1)) dX3_gatherKeysOf_82 (by decide) ?_
        refine g_isub (v := (nI (a - 1))) C dX3_gatherKeysOf_83 (pk_sub (by omega)) ?_
        refine g_iald C 16 (9 * g + v) (by decide) (show 9 * g + v < 18 by omega) (fun _ _ => rfl) (a - 1) (show a - 1 < 9 by omega) rfl dX3_gatherKeysOf_84 (v := (nI (s (a - 1)))) (by rw [sK_self]; exact hH2 (a - 1) (by omega)) ?_
        refine g_iast C 16 (9 * g + v) (by decide) (show 9 * g + v < 18 by omega) (fun _ _ => rfl) a (show a < 9 by omega) rfl dX3_gatherKeysOf_85 ?_
        refine g_I (I1 := sK I 16 (up2 H (9 * g + v) a (nI (s (a - 1))))) (by rw [sK_self, sK_sK]) ?_
        refine g_iinc (lv' := [(8, .int (nI (a - 1))), (0, .ref (Z.2.2.1 10 0)), (1, .ref (Z.2.2.1 2 g)), (2, .int (nI v)), (3, .int (nI (9 * g))), (4, .ref (Z.2.2.1 16 (9 * g + v))), (5, .int (nI m)), (6, .int (nI w)), (7, .int (nI (pr L g v w * 18 + c (9 * g + w))))]) C ((nI (a - 1))) dX3_gatherKeysOf_86 rfl (dec1 (by omega)) rfl rfl ?_
        refine g_goto (tgt := 57) C dX3_gatherKeysOf_89 rfl ?_
        refine g_lv [1, 2, 3, 4, 5, 6, 7, 8, 0] rfl ?_
        refine ih (a - 1) _ (by omega) (by omega) (fun r0 hr0 => by rw [up2_row hr0]; exact hH1 r0 hr0) (fun j hj => by rw [up2_ne (by omega)]; exact hH2 j (by omega)) (fun j hj hj2 => ?_) (fun j hj hj2 => ?_)
        · by_cases e : j = a - 1
          · subst e; rw [show a - 1 + 1 = a by omega, up2_self]
          · rw [up2_ne (by omega)]; exact hH3 j (by omega) hj2
        · by_cases e : j = a - 1
          · subst e; exact c71
          · exact h5 j (by omega) hj2

set_option maxRecDepth 100000 in
set_option maxHeartbeats 4000000 in
theorem l_X3_gatherKeysOf_16 {X : Pk} {Z : Zk} {I : SI} {J : SJ} (hA : AJ Z.2.2.1) (C : Cx X cX3_gatherKeysOf 9 RX3 Z 1 40) (hr : (xE X).sig.returnType = none) {n : Nat} {T : Nat → Nat → Nat} {L : Nat → Nat → Nat → Nat} (hv : CV I n T L) {c : Nat → Nat} (hc : ∀ s, thr n s → I 11 0 s = nI (c s) ∧ c s < 18) {g v : Nat} (hg : g < 2) (hvn : v < n) : ∀ k w m s (H : Nat → Nat → Int32), n - w < k → w ≤ n → (∀ r, r ≠ (9 * g + v) → H r = I 16 r) → bS 0 v (fun w => pr L g v w * 18 + c (9 * g + w)) 400 w m s → (∀ j, j < m → H (9 * g + v) j = nI (s j)) → G X 9 Z (QG X Z (fun v' I' J' => ∃ (H : Nat → Nat → Int32) (s : Nat → Nat), v' = none ∧ I' = sK I 16 H ∧ J' = J ∧ (∀ r, r ≠ (9 * g + v) → H r = I 16 r) ∧ bS 0 v (fun w => pr L g v w * 18 + c (9 * g + w)) 400 n (n - 1) s ∧ ∀ j, j < n - 1 → H (9 * g + v) j = nI (s j))) (sK I 16 H) J 16 [(0, .ref (Z.2.2.1 10 0)), (1, .ref (Z.2.2.1 2 g)), (2, .int (nI v)), (3, .int (nI (9 * g))), (4, .ref (Z.2.2.1 16 (9 * g + v))), (5, .int (nI m)), (6, .int (nI w))] [] := by
  obtain ⟨⟨hn1, hn9⟩, -⟩ := id hv
  have hcs : ct (sel 0 v) n + (0 + 1) = n := sel_ct (f := fun _ => 0) (fun i hi => absurd hi (by omega)) (fun i j hi => absurd hi (by omega)) (fun a => ⟨fun q => absurd q (by rw [Nat.zero_testBit]; decide), fun ⟨j, hj, _⟩ => absurd hj (by omega)⟩) hvn (Nat.zero_testBit v)
  intro k
  induction k with
  | zero => intro w m s H h; exact absurd h (by omega)
  | succ k ih =>
    intro w m s H hk hwn hH1 hS hH2
    have hv2 := (hv.of (I' := sK I 16 H) (sK_ne (by decide)) (sK_ne (by decide)) (sK_ne (by decide)))
    have hmm := ct_mono (sel 0 v) hwn
    rw [← hS.1] at hmm
    refine g_ild C dX3_gatherKeysOf_16 rfl ?_
    refine g_aldn C dX3_gatherKeysOf_18 rfl ?_
    refine g_get C 2 g (by decide) (show g < 2 by omega) u1 rfl 0 rfl fX3_29 rfl rfl dX3_gatherKeysOf_19 ?_
    refine g_top (y := (nI n)) (hv2.sz hg) ?_
    refine n_icmp_ge (tgt := 108) C dX3_gatherKeysOf_22 rfl (by omega) (by omega) (fun c22 => ?_) (fun c22 => ?_)
    · exact g_return C hr dX3_gatherKeysOf_108 ⟨H, s, rfl, rfl, rfl, hH1, (show m = n - 1 by have := hS.1; rw [show w = n by omega] at this; omega) ▸ (show w = n by omega) ▸ hS, fun j hj => hH2 j (by have := hS.1; rw [show w = n by omega] at this; omega)⟩
    · refine g_ild C dX3_gatherKeysOf_25 rfl ?_
      refine g_ildn C dX3_gatherKeysOf_27 rfl ?_
      refine n_icmp_eq (tgt := 102) C dX3_gatherKeysOf_28 rfl (by omega) (by omega) (fun c28 => ?_) (fun c28 => ?_)
      · refine g_iinc (lv' := [(6, .int (nI (w + 1))), (0, .ref (Z.2.2.1 10 0)), (1, .ref (Z.2.2.1 2 g)), (2, .int (nI v)), (3, .int (nI (9 * g))), (4, .ref (Z.2.2.1 16 (9 * g + v))), (5, .int (nI m))]) C ((nI (w + 1))) dX3_gatherKeysOf_102 rfl (inc1 _) rfl rfl ?_
        refine g_goto (tgt := 16) C dX3_gatherKeysOf_105 rfl ?_
        refine g_lv [1, 2, 3, 4, 5, 6, 0] rfl ?_
        exact ih (w + 1) m s H (by omega) (by omega) hH1 (hS.no (sel_v c28)) hH2
      · have hsl : sel 0 v w = true := sel_t c28 (Nat.zero_testBit w)
        have hm1 := ct_mono (sel 0 v) (show w + 1 ≤ n by omega)
        rw [ct_t hsl, ← hS.1] at hm1
        have htw : thr n (9 * g + w) := ⟨by omega, by omega⟩
        have hcw := (hc _ htw).2
        have hp16 := pr16 (hv.s4 hg) hvn (show w < n by omega)
        refine g_aldn C dX3_gatherKeysOf_31 rfl ?_
        refine g_ildn C dX3_gatherKeysOf_32 rfl ?_
        refine g_ild C dX3_gatherKeysOf_33 rfl ?_
        refine g_callV (As := [.int (nI v), .int (nI w)]) (st := []) C (c_X1_pair hA hv2 hg hvn (show w < n by omega)) wX1_pair iX1_pair sX1_pair mX3_71 2 g (by decide) (show g < 2 by omega) rfl rfl rfl rfl rfl rfl rfl rfl dX3_gatherKeysOf_35 ?_
        rintro v9 I9 J9 ⟨h91, h92, h93⟩
        rw [h91, h92, h93]
        clear h91 h92 h93 v9 I9 J9
        show G X _ Z _ (sK I 16 H) J 38 [(0, .ref (Z.2.2.1 10 0)), (1, .ref (Z.2.2.1 2 g)), (2, .int (nI v)), (3, .int (nI (9 * g))), (4, .ref (Z.2.2.1 16 (9 * g + v))), (5, .int (nI m)), (6, .int (nI w))] [.int (nI (pr L g v w))]
        refine g_bipush C ((nI 18)) dX3_gatherKeysOf_38 (by decide) ?_
        refine g_imul (v := (nI ((pr L g v w) * 18))) C dX3_gatherKeysOf_40 (pk_mul _ _) ?_
        refine g_aldn C dX3_gatherKeysOf_41 rfl ?_
        refine g_get C 10 0 (by decide) (by decide) u3 rfl 1 rfl fX3_11 rfl rfl dX3_gatherKeysOf_42 ?_
        refine g_ildn C dX3_gatherKeysOf_45 rfl ?_
        refine g_ild C dX3_gatherKeysOf_46 rfl ?_
        refine g_iadd (v := (nI (9 * g + w))) C dX3_gatherKeysOf_48 (nI_add _ _) ?_
        refine g_iald C 11 0 (by decide) (by decide) (fun _ _ => rfl) (9 * g + w) (show 9 * g + w < 18 by omega) rfl dX3_gatherKeysOf_49 (v := (nI (c (9 * g + w)))) (by rw [sK_ne (by decide)]; exact (hc _ htw).1) ?_
        refine g_iadd (v := (nI ((pr L g v w) * 18 + (c (9 * g + w))))) C dX3_gatherKeysOf_50 (nI_add _ _) ?_
        refine g_ist (lv' := [(7, .int (nI ((pr L g v w) * 18 + (c (9 * g + w))))), (0, .ref (Z.2.2.1 10 0)), (1, .ref (Z.2.2.1 2 g)), (2, .int (nI v)), (3, .int (nI (9 * g))), (4, .ref (Z.2.2.1 16 (9 * g + v))), (5, .int (nI m)), (6, .int (nI w))]) C dX3_gatherKeysOf_51 rfl rfl ?_
        refine g_ild C dX3_gatherKeysOf_53 rfl ?_
        refine g_ist (lv' := [(8, .int (nI m)), (7, .int (nI ((pr L g v w) * 18 + (c (9 * g + w))))), (0, .ref (Z.2.2.1 10 0)), (1, .ref (Z.2.2.1 2 g)), (2, .int (nI v)), (3, .int (nI (9 * g))), (4, .ref (Z.2.2.1 16 (9 * g + v))), (5, .int (nI m)), (6, .int (nI w))]) C dX3_gatherKeysOf_55 rfl rfl ?_
        refine g_lv (lv1 := [(0, .ref (Z.2.2.1 10 0)), (1, .ref (Z.2.2.1 2 g)), (2, .int (nI v)), (3, .int (nI (9 * g))), (4, .ref (Z.2.2.1 16 (9 * g + v))), (5, .int (nI m)), (6, .int (nI w)), (7, .int (nI (pr L g v w * 18 + c (9 * g + w)))), (8, .int (nI m))]) [2, 3, 4, 5, 6, 7, 8, 1, 0] rfl ?_
        refine l_X3_gatherKeysOf_57 (L := L) (c := c) (s := s) C hn9 hg hvn (by omega) (fun j hj => hS.2.2.1 j hj) (by omega) ?_ (m + 1) m H (by omega) (by omega) hH1 hH2 (fun j h1 h2 => absurd h1 (by omega)) (fun j h1 h2 => absurd h1 (by omega))
        clear hH1 hH2 hv2 H
        intro a H ham hH1 hH2 hH3 h5 h6
        refine g_ald C dX3_gatherKeysOf_92 rfl ?_
        refine g_ild C dX3_gatherKeysOf_94 rfl ?_
        refine g_ild C dX3_gatherKeysOf_96 rfl ?_
        refine g_iast C 16 (9 * g + v) (by decide) (show 9 * g + v < 18 by omega) (fun _ _ => rfl) a (show a < 9 by omega) rfl dX3_gatherKeysOf_98 ?_
        refine g_I (I1 := sK I 16 (up2 H (9 * g + v) a (nI (pr L g v w * 18 + c (9 * g + w))))) (by rw [sK_self, sK_sK]) ?_
        refine g_iinc (lv' := [(5, .int (nI (m + 1))), (0, .ref (Z.2.2.1 10 0)), (1, .ref (Z.2.2.1 2 g)), (2, .int (nI v)), (3, .int (nI (9 * g))), (4, .ref (Z.2.2.1 16 (9 * g + v))), (6, .int (nI w)), (7, .int (nI (pr L g v w * 18 + c (9 * g + w)))), (8, .int (nI a))]) C ((nI (m + 1))) dX3_gatherKeysOf_99 rfl (inc1 _) rfl rfl ?_
        refine g_iinc (lv' := [(6, .int (nI (w + 1))), (5, .int (nI (m + 1))), (0, .ref (Z.2.2.1 10 0)), (1, .ref (Z.2.2.1 2 g)), (2, .int (nI v)), (3, .int (nI (9 * g))), (4, .ref (Z.2.2.1 16 (9 * g + v))), (7, .int (nI (pr L g v w * 18 + c (9 * g + w)))), (8, .int (nI a))]) C ((nI (w + 1))) dX3_gatherKeysOf_102 rfl (inc1 _) rfl rfl ?_
        refine g_goto (tgt := 16) C dX3_gatherKeysOf_105 rfl ?_
        refine g_lv [2, 3, 4, 5, 6, 1, 0] rfl ?_
        refine ih (w + 1) (m + 1) (ins s a (pr L g v w * 18 + c (9 * g + w))) _ (by omega) (by omega) (fun r0 hr0 => by rw [up2_row hr0]; exact hH1 r0 hr0) (hS.put (y := (fun w => pr L g v w * 18 + c (9 * g + w))) hsl (by show pr L g v w * 18 + c (9 * g + w) < 400; omega) ham h6 h5) (fun j hj => ?_)
        rcases Nat.lt_trichotomy j a with e | e | e
        · rw [ins_lt e, up2_ne (by omega)]; exact hH2 j e
        · subst e; rw [ins_at, up2_self]
        · obtain ⟨i, rfl⟩ : ∃ i, j = i + 1 := ⟨j - 1, by omega⟩
          rw [ins_gt (by omega), up2_ne (by omega)]; exact hH3 i (by omega) (by omega)

set_option maxRecDepth 100000 in
set_option maxHeartbeats 4000000 in
/-- gatherKeysOf -/
theorem c_X3_gatherKeysOf {l : Launch} {Y : Yk} (hA : AJ Y.2.2) {I : SI} {J : SJ} {n : Nat} {T : Nat → Nat → Nat} {L : Nat → Nat → Nat → Nat} (hv : CV I n T L) {c : Nat → Nat} (hc : ∀ s, thr n s → I 11 0 s = nI (c s) ∧ c s < 18) {g v : Nat} (hg : g < 2) (hvn : v < n)  : MX l Y yX3_gatherKeysOf cX3_gatherKeysOf 9 (none) 1 40 [.ref (Y.2.2 10 0), .ref (Y.2.2 2 g), .int (nI v), .int (nI (9 * g))] I J (fun v' I' J' => ∃ (H : Nat → Nat → Int32) (s : Nat → Nat), v' = none ∧ I' = sK I 16 H ∧ J' = J ∧ (∀ r, r ≠ (9 * g + v) → H r = I 16 r) ∧ bS 0 v (fun w => pr L g v w * 18 + c (9 * g + w)) 400 n (n - 1) s ∧ ∀ j, j < n - 1 → H (9 * g + v) j = nI (s j)) := by
  refine MX.of hA (by decide) (own := RX3) rfl rfl rfl ?_
  intro X Z hl hY1 hY2 hY3 C hr
  obtain ⟨D0, ca0, ad0⟩ := Y
  dsimp only at hA hY1 hY2 hY3
  subst hY1; subst hY2; subst hY3; subst hl
  show G X 9 Z (QG X Z _) I J 0 [(0, .ref (Z.2.2.1 10 0)), (1, .ref (Z.2.2.1 2 g)), (2, .int (nI v)), (3, .int (nI (9 * g)))] []
  obtain ⟨⟨hn1, hn9⟩, -⟩ := id hv
  refine g_aldn C dX3_gatherKeysOf_0 rfl ?_
  refine g_get C 10 0 (by decide) (by decide) u3 rfl 5 rfl fX3_26 rfl rfl dX3_gatherKeysOf_1 ?_
  refine g_ildn C dX3_gatherKeysOf_4 rfl ?_
  refine g_ildn C dX3_gatherKeysOf_5 rfl ?_
  refine g_iadd (v := (nI (9 * g + v))) C dX3_gatherKeysOf_6 (nI_add _ _) ?_
  refine g_aald C 15 0 3 (by decide) (by decide) (fun _ _ => rfl) rfl rfl (9 * g + v) (show 9 * g + v < 18 by omega) rfl dX3_gatherKeysOf_7 ?_
  refine g_ast (lv' := [(4, .ref (Z.2.2.1 16 (9 * g + v))), (0, .ref (Z.2.2.1 10 0)), (1, .ref (Z.2.2.1 2 g)), (2, .int (nI v)), (3, .int (nI (9 * g)))]) C dX3_gatherKeysOf_8 rfl rfl ?_
  refine g_iconst C ((nI 0)) dX3_gatherKeysOf_10 (by decide) ?_
  refine g_ist (lv' := [(5, .int (nI 0)), (4, .ref (Z.2.2.1 16 (9 * g + v))), (0, .ref (Z.2.2.1 10 0)), (1, .ref (Z.2.2.1 2 g)), (2, .int (nI v)), (3, .int (nI (9 * g)))]) C dX3_gatherKeysOf_11 rfl rfl ?_
  refine g_iconst C ((nI 0)) dX3_gatherKeysOf_13 (by decide) ?_
  refine g_ist (lv' := [(6, .int (nI 0)), (5, .int (nI 0)), (4, .ref (Z.2.2.1 16 (9 * g + v))), (0, .ref (Z.2.2.1 10 0)), (1, .ref (Z.2.2.1 2 g)), (2, .int (nI v)), (3, .int (nI (9 * g)))]) C dX3_gatherKeysOf_14 rfl rfl ?_
  refine g_lv (lv1 := [(0, .ref (Z.2.2.1 10 0)), (1, .ref (Z.2.2.1 2 g)), (2, .int (nI v)), (3, .int (nI (9 * g))), (4, .ref (Z.2.2.1 16 (9 * g + v))), (5, .int (nI 0)), (6, .int (nI 0))]) [3, 4, 5, 6, 2, 1, 0] rfl ?_
  refine g_I (I1 := sK I 16 (I 16)) (sK_id _ _).symm ?_
  exact l_X3_gatherKeysOf_16 hA C hr hv hc hg hvn (n + 1) 0 0 (fun _ => 0) (I 16) (by omega) (by omega) (fun _ _ => rfl) ⟨rfl, fun i hi => absurd hi (by omega), fun j hj => absurd hj (by omega), fun q => rfl⟩ (fun j hj => absurd hj (by omega))

set_option maxRecDepth 100000 in
set_option maxHeartbeats 4000000 in
theorem l_X3_gatherKeys_2 {X : Pk} {Z : Zk} {I : SI} {J : SJ} (hA : AJ Z.2.2.1) (C : Cx X cX3_gatherKeys 4 RX3 Z 2 80) (hr : (xE X).sig.returnType = none) {n : Nat} {T : Nat → Nat → Nat} {L : Nat → Nat → Nat → Nat} (hv : CV I n T L) {c : Nat → Nat} (hc : ∀ s, thr n s → I 11 0 s = nI (c s) ∧ c s < 18) : ∀ k v (H : Nat → Nat → Int32) (ky : Nat → Nat → Nat), n - v < k → v ≤ n → (∀ sp, thr n sp → sp % 9 < v → gK n L c ky sp ∧ ∀ j, j < n - 1 → H sp j = nI (ky sp j)) → G X 4 Z (QG X Z (fun v' I' J' => ∃ (H : Nat → Nat → Int32) (ky : Nat → Nat → Nat), v' = none ∧ I' = sK I 16 H ∧ J' = J ∧ ∀ sp, thr n sp → gK n L c ky sp ∧ ∀ j, j < n - 1 → H sp j = nI (ky sp j))) (sK I 16 H) J 2 [(0, .ref (Z.2.2.1 10 0)), (1, .ref (Z.2.2.1 1 0)), (2, .int (nI n)), (3, .int (nI v))] [] := by
  obtain ⟨⟨hn1, hn9⟩, -⟩ := id hv
  intro k
  induction k with
  | zero => intro v H ky h; exact absurd h (by omega)
  | succ k ih =>
    intro v H ky hk hvn hH
    refine g_ildn C dX3_gatherKeys_2 rfl ?_
    refine g_ildn C dX3_gatherKeys_3 rfl ?_
    refine n_icmp_ge (tgt := 32) C dX3_gatherKeys_4 rfl (by omega) (by omega) (fun c4 => ?_) (fun c4 => ?_)
    · exact g_return C hr dX3_gatherKeys_32 ⟨H, ky, rfl, rfl, rfl, fun sp hsp => hH sp hsp (by have := hsp.2; omega)⟩
    · refine g_aldn C dX3_gatherKeys_7 rfl ?_
      refine g_aldn C dX3_gatherKeys_8 rfl ?_
      refine g_iconst C ((nI 0)) dX3_gatherKeys_9 (by decide) ?_
      refine g_aald C 1 0 2 (by decide) (by decide) (fun _ _ => rfl) rfl rfl 0 (show 0 < 2 by omega) rfl dX3_gatherKeys_10 ?_
      refine g_ildn C dX3_gatherKeys_11 rfl ?_
      refine g_iconst C ((nI 0)) dX3_gatherKeys_12 (by decide) ?_
      refine g_top (y := nI (9 * 0)) rfl ?_
      refine g_callV (As := [.ref (Z.2.2.1 2 0), .int (nI v), .int (nI (9 * 0))]) (st := []) C (c_X3_gatherKeysOf hA (hv.of (I' := sK I 16 H) (sK_ne (by decide)) (sK_ne (by decide)) (sK_ne (by decide))) (c := c) (fun u hu => by rw [sK_ne (by decide)]; exact hc u hu) (g := 0) (by decide) (show v < n by omega)) wX3_gatherKeysOf iX3_gatherKeysOf sX3_gatherKeysOf mX3_67 10 0 (by decide) (by decide) rfl rfl rfl rfl rfl rfl rfl rfl dX3_gatherKeys_13 ?_
      rintro v9 I9 J9 ⟨H2, s2, h91, h92, h93, p2, q2, r2⟩
      rw [h91, h92, h93, sK_sK]
      rw [sK_self] at p2
      clear h91 h92 h93 v9 I9 J9
      show G X _ Z _ (sK I 16 H2) J 16 [(0, .ref (Z.2.2.1 10 0)), (1, .ref (Z.2.2.1 1 0)), (2, .int (nI n)), (3, .int (nI v))] []
      refine g_aldn C dX3_gatherKeys_16 rfl ?_
      refine g_aldn C dX3_gatherKeys_17 rfl ?_
      refine g_iconst C ((nI 1)) dX3_gatherKeys_18 (by decide) ?_
      refine g_aald C 1 0 2 (by decide) (by decide) (fun _ _ => rfl) rfl rfl 1 (show 1 < 2 by omega) rfl dX3_gatherKeys_19 ?_
      refine g_ildn C dX3_gatherKeys_20 rfl ?_
      refine g_bipush C ((nI 9)) dX3_gatherKeys_21 (by decide) ?_
      refine g_top (y := nI (9 * 1)) rfl ?_
      refine g_callV (As := [.ref (Z.2.2.1 2 1), .int (nI v), .int (nI (9 * 1))]) (st := []) C (c_X3_gatherKeysOf hA (hv.of (I' := sK I 16 H2) (sK_ne (by decide)) (sK_ne (by decide)) (sK_ne (by decide))) (c := c) (fun u hu => by rw [sK_ne (by decide)]; exact hc u hu) (g := 1) (by decide) (show v < n by omega)) wX3_gatherKeysOf iX3_gatherKeysOf sX3_gatherKeysOf mX3_67 10 0 (by decide) (by decide) rfl rfl rfl rfl rfl rfl rfl rfl dX3_gatherKeys_23 ?_
      rintro v9 I9 J9 ⟨H3, s3, h91, h92, h93, p3, q3, r3⟩
      rw [h91, h92, h93, sK_sK]
      rw [sK_self] at p3
      clear h91 h92 h93 v9 I9 J9
      show G X _ Z _ (sK I 16 H3) J 26 [(0, .ref (Z.2.2.1 10 0)), (1, .ref (Z.2.2.1 1 0)), (2, .int (nI n)), (3, .int (nI v))] []
      refine g_iinc (lv' := [(3, .int (nI (v + 1))), (0, .ref (Z.2.2.1 10 0)), (1, .ref (Z.2.2.1 1 0)), (2, .int (nI n))]) C ((nI (v + 1))) dX3_gatherKeys_26 rfl (inc1 _) rfl rfl ?_
      refine g_goto (tgt := 2) C dX3_gatherKeys_29 rfl ?_
      refine g_lv [1, 2, 3, 0] rfl ?_
      refine ih (v + 1) H3 (va_up (va_up ky v s2) (9 + v) s3) (by omega) (by omega) (fun sp hsp hlt => ?_)
      by_cases e3 : sp = 9 + v
      · subst e3
        rw [va_up_self]
        refine ⟨?_, fun j hj => by have := r3 j hj; rw [show 9 * 1 + v = 9 + v by omega] at this; exact this⟩
        unfold gK ky1
        rw [va_up_self, show (9 + v) % 9 = v by omega, show (9 + v) / 9 = 1 by omega]
        exact q3
      · rw [va_up_ne _ _ e3, p3 sp (by omega)]
        by_cases e2 : sp = v
        · subst e2
          rw [va_up_self]
          refine ⟨?_, fun j hj => by have := r2 j hj; rw [show 9 * 0 + sp = sp by omega] at this; exact this⟩
          unfold gK ky1
          rw [va_up_ne _ _ e3, va_up_self, show sp % 9 = sp by omega, show sp / 9 = 0 by omega]
          exact q2
        · rw [va_up_ne _ _ e2, p2 sp (by omega)]
          obtain ⟨a1, a2⟩ := hH sp hsp (by have := hsp.1; omega)
          refine ⟨?_, a2⟩
          unfold gK at a1 ⊢
          rw [va_up_ne _ _ e3, va_up_ne _ _ e2]
          exact a1

set_option maxRecDepth 100000 in
set_option maxHeartbeats 4000000 in
/-- gatherKeys -/
theorem c_X3_gatherKeys {l : Launch} {Y : Yk} (hA : AJ Y.2.2) {I : SI} {J : SJ} {n : Nat} {T : Nat → Nat → Nat} {L : Nat → Nat → Nat → Nat} (hv : CV I n T L) {c : Nat → Nat} (hc : ∀ s, thr n s → I 11 0 s = nI (c s) ∧ c s < 18)  : MX l Y yX3_gatherKeys cX3_gatherKeys 4 (none) 2 80 [.ref (Y.2.2 10 0), .ref (Y.2.2 1 0), .int (nI n)] I J (fun v' I' J' => ∃ (H : Nat → Nat → Int32) (ky : Nat → Nat → Nat), v' = none ∧ I' = sK I 16 H ∧ J' = J ∧ ∀ sp, thr n sp → gK n L c ky sp ∧ ∀ j, j < n - 1 → H sp j = nI (ky sp j)) := by
  refine MX.of hA (by decide) (own := RX3) rfl rfl rfl ?_
  intro X Z hl hY1 hY2 hY3 C hr
  obtain ⟨D0, ca0, ad0⟩ := Y
  dsimp only at hA hY1 hY2 hY3
  subst hY1; subst hY2; subst hY3; subst hl
  show G X 4 Z (QG X Z _) I J 0 [(0, .ref (Z.2.2.1 10 0)), (1, .ref (Z.2.2.1 1 0)), (2, .int (nI n))] []
  refine g_iconst C ((nI 0)) dX3_gatherKeys_0 (by decide) ?_
  refine g_istn (lv' := [(3, .int (nI 0)), (0, .ref (Z.2.2.1 10 0)), (1, .ref (Z.2.2.1 1 0)), (2, .int (nI n))]) C dX3_gatherKeys_1 rfl rfl ?_
  refine g_lv [1, 2, 3, 0] rfl ?_
  refine g_I (I1 := sK I 16 (I 16)) (sK_id _ _).symm ?_
  exact l_X3_gatherKeys_2 hA C hr hv hc (n + 1) 0 (I 16) (fun _ _ => 0) (by omega) (by omega) (fun sp _ h => absurd h (by omega))

/-- a round's or the start's end: number, colours, the spots in some order; the keys stay -/
def ptPost (n : Nat) (c : Nat → Nat) (m : Nat) (I : SI) (J : SJ) : Option Value → SI → SJ → Prop := fun v' I' J' =>
  ∃ (A B E F H : Nat → Nat → Int32) (s : Nat → Nat), v' = none ∧ I' = CP I A B E F H ∧ J' = J ∧ A 0 0 = nI m ∧ (∀ y, thr n y → B 0 y = nI (c y)) ∧ (∀ j, j < 2 * n → F 0 j = nI (s j) ∧ thr n (s j)) ∧ ∀ y, thr n y → ∃ j, j < 2 * n ∧ s j = y
theorem tlt_iff {T : Nat → Nat → Nat} {a b : Nat} : lx (0 + 1) (Qs (fun s => T (s / 9) (s % 9)) (fun _ _ => 0) a) (Qs (fun s => T (s / 9) (s % 9)) (fun _ _ => 0) b) ↔ tlt T a b :=
  ⟨fun ⟨i, hi, _, h⟩ => by have e : i = 0 := by omega
                           subst e; exact h, fun h => Qs_c h⟩
set_option maxRecDepth 100000 in
set_option maxHeartbeats 4000000 in
theorem l_X3_paintTints_2 {X : Pk} {Z : Zk} {I : SI} {J : SJ} (hA : AJ Z.2.2.1) (C : Cx X cX3_paintTints 4 RX3 Z 3 120) (hr : (xE X).sig.returnType = none) {n : Nat} {T : Nat → Nat → Nat} {L : Nat → Nat → Nat → Nat} (hv : CV I n T L) : ∀ k v (B F : Nat → Nat → Int32), n - v < k → v ≤ n → (∀ u, thr n u → u % 9 < v → B 0 u = nI (T (u / 9) (u % 9))) → (∀ j, j < v → F 0 j = nI j) → (∀ j, j < v → F 0 (n + j) = nI (9 + j)) → G X 4 Z (QG X Z (ptPost n (cs n T L 0) (ms n T L 0) I J)) (CP I (I 10) B (I 12) F (I 16)) J 2 [(0, .ref (Z.2.2.1 10 0)), (1, .ref (Z.2.2.1 1 0)), (2, .int (nI n)), (3, .int (nI v))] [] := by
  obtain ⟨⟨hn1, hn9⟩, -⟩ := id hv
  intro k
  induction k with
  | zero => intro v B F h; exact absurd h (by omega)
  | succ k ih =>
    intro v B F hk hvn hB hF1 hF2
    refine g_ildn C dX3_paintTints_2 rfl ?_
    refine g_ildn C dX3_paintTints_3 rfl ?_
    refine n_icmp_ge (tgt := 63) C dX3_paintTints_4 rfl (by omega) (by omega) (fun c4 => ?_) (fun c4 => ?_)
    · refine g_aldn C dX3_paintTints_63 rfl ?_
      refine g_iconst C ((nI 2)) dX3_paintTints_64 (by decide) ?_
      refine g_ildn C dX3_paintTints_65 rfl ?_
      refine g_imul (v := (nI (2 * n))) C dX3_paintTints_66 (pk_mul _ _) ?_
      refine g_iconst C ((nI 0)) dX3_paintTints_67 (by decide) ?_
      have hso : ∀ j, j < 2 * n → CP I (I 10) B (I 12) F (I 16) 13 0 j = nI ((fun j => if j < n then j else 9 + (j - n)) j) ∧ thr n ((fun j => if j < n then j else 9 + (j - n)) j) := fun j hj => by
        rw [cp_13]
        show F 0 j = nI (if j < n then j else 9 + (j - n)) ∧ thr n (if j < n then j else 9 + (j - n))
        by_cases q : j < n
        · rw [if_pos q]; exact ⟨hF1 j (by omega), by omega, by omega⟩
        · rw [if_neg q]; refine ⟨?_, by omega, by omega⟩; have := hF2 (j - n) (by omega); rw [show n + (j - n) = j by omega] at this; exact this
      have hsu : ∀ y, thr n y → ∃ j, j < 2 * n ∧ (fun j => if j < n then j else 9 + (j - n)) j = y := fun y hy => by
        obtain ⟨y1, y2⟩ := hy
        by_cases q : y < 9
        · exact ⟨y, by omega, by show (if y < n then y else 9 + (y - n)) = y; rw [if_pos (by omega)]⟩
        · exact ⟨n + (y - 9), by omega, by show (if n + (y - 9) < n then n + (y - 9) else 9 + (n + (y - 9) - n)) = y; rw [if_neg (by omega)]; omega⟩
      refine g_callV (As := [.int (nI (2 * n)), .int (nI 0)]) (st := []) C (c_X3_renumber hA (n := n) (kc := 0) hn9 (by decide) (c := fun s => T (s / 9) (s % 9)) (Kf := fun _ _ => 0) (fun u hu => ⟨by rw [cp_11]; exact hB u hu (by have := hu.2; omega), by have := hv.t4 (show u / 9 < 2 by have := hu.1; omega) hu.2; show T (u / 9) (u % 9) < 18; omega⟩) (fun _ _ k hk => absurd hk (by omega)) (m := 2 * n) (by omega) (by omega) hso hsu) wX3_renumber iX3_renumber sX3_renumber mX3_45 10 0 (by decide) (by decide) rfl rfl rfl rfl rfl rfl rfl rfl dX3_paintTints_68 ?_
      rintro v9 I9 J9 ⟨B3, E3, F3, s3, h91, h92, h93, k1, k2, k3⟩
      rw [h91]
      show G X _ Z _ I9 J9 71 [(0, .ref (Z.2.2.1 10 0)), (1, .ref (Z.2.2.1 1 0)), (2, .int (nI n)), (3, .int (nI v))] []
      exact g_return C hr dX3_paintTints_71 (by rw [h92, h93, cp_cp]; exact ⟨_, _, _, _, _, s3, rfl, rfl, rfl, (by rw [up2_self]; exact congrArg nI (CN_congr (fun a b _ _ => tlt_iff))), fun y hy => (k1 y hy).trans (congrArg nI (RK_congr (fun a b _ _ => tlt_iff) hy)), k2, k3⟩)
    · refine g_aldn C dX3_paintTints_7 rfl ?_
      refine g_get C 10 0 (by decide) (by decide) u3 rfl 1 rfl fX3_11 rfl rfl dX3_paintTints_8 ?_
      refine g_ildn C dX3_paintTints_11 rfl ?_
      refine g_aldn C dX3_paintTints_12 rfl ?_
      refine g_iconst C ((nI 0)) dX3_paintTints_13 (by decide) ?_
      refine g_aald C 1 0 2 (by decide) (by decide) (fun _ _ => rfl) rfl rfl 0 (show 0 < 2 by omega) rfl dX3_paintTints_14 ?_
      refine g_get C 2 0 (by decide) (by decide) u1 rfl 1 rfl fX3_64 rfl rfl dX3_paintTints_15 ?_
      refine g_ildn C dX3_paintTints_18 rfl ?_
      refine g_iald C 3 0 (by decide) (by decide) (fun _ _ => rfl) v (show v < 9 by omega) rfl dX3_paintTints_19 (v := (nI (T 0 v))) ((congrFun (congrFun (cp_o (by decide)) 0) v).trans (hv.t (by decide) (by omega))) ?_
      refine g_iast C 11 0 (by decide) (by decide) (fun _ _ => rfl) v (show v < 18 by omega) rfl dX3_paintTints_20 ?_
      refine g_I (I1 := CP I (I 10) (up2 B 0 v ((nI (T 0 v)))) (I 12) F (I 16)) (by rw [cp_11, cp11]) ?_
      refine g_aldn C dX3_paintTints_21 rfl ?_
      refine g_get C 10 0 (by decide) (by decide) u3 rfl 1 rfl fX3_11 rfl rfl dX3_paintTints_22 ?_
      refine g_bipush C ((nI 9)) dX3_paintTints_25 (by decide) ?_
      refine g_ildn C dX3_paintTints_27 rfl ?_
      refine g_iadd (v := (nI (9 + v))) C dX3_paintTints_28 (nI_add _ _) ?_
      refine g_aldn C dX3_paintTints_29 rfl ?_
      refine g_iconst C ((nI 1)) dX3_paintTints_30 (by decide) ?_
      refine g_aald C 1 0 2 (by decide) (by decide) (fun _ _ => rfl) rfl rfl 1 (show 1 < 2 by omega) rfl dX3_paintTints_31 ?_
      refine g_get C 2 1 (by decide) (by decide) u1 rfl 1 rfl fX3_64 rfl rfl dX3_paintTints_32 ?_
      refine g_ildn C dX3_paintTints_35 rfl ?_
      refine g_iald C 3 1 (by decide) (by decide) (fun _ _ => rfl) v (show v < 9 by omega) rfl dX3_paintTints_36 (v := (nI (T 1 v))) ((congrFun (congrFun (cp_o (by decide)) 1) v).trans (hv.t (by decide) (by omega))) ?_
      refine g_iast C 11 0 (by decide) (by decide) (fun _ _ => rfl) (9 + v) (show 9 + v < 18 by omega) rfl dX3_paintTints_37 ?_
      refine g_I (I1 := CP I (I 10) (up2 (up2 B 0 v ((nI (T 0 v)))) 0 (9 + v) ((nI (T 1 v)))) (I 12) F (I 16)) (by rw [cp_11, cp11]) ?_
      refine g_aldn C dX3_paintTints_38 rfl ?_
      refine g_get C 10 0 (by decide) (by decide) u3 rfl 3 rfl fX3_18 rfl rfl dX3_paintTints_39 ?_
      refine g_ildn C dX3_paintTints_42 rfl ?_
      refine g_ildn C dX3_paintTints_43 rfl ?_
      refine g_iast C 13 0 (by decide) (by decide) (fun _ _ => rfl) v (show v < 18 by omega) rfl dX3_paintTints_44 ?_
      refine g_I (I1 := CP I (I 10) (up2 (up2 B 0 v ((nI (T 0 v)))) 0 (9 + v) ((nI (T 1 v)))) (I 12) (up2 F 0 v ((nI v))) (I 16)) (by rw [cp_13, cp13]) ?_
      refine g_aldn C dX3_paintTints_45 rfl ?_
      refine g_get C 10 0 (by decide) (by decide) u3 rfl 3 rfl fX3_18 rfl rfl dX3_paintTints_46 ?_
      refine g_ildn C dX3_paintTints_49 rfl ?_
      refine g_ildn C dX3_paintTints_50 rfl ?_
      refine g_iadd (v := (nI (n + v))) C dX3_paintTints_51 (nI_add _ _) ?_
      refine g_bipush C ((nI 9)) dX3_paintTints_52 (by decide) ?_
      refine g_ildn C dX3_paintTints_54 rfl ?_
      refine g_iadd (v := (nI (9 + v))) C dX3_paintTints_55 (nI_add _ _) ?_
      refine g_iast C 13 0 (by decide) (by decide) (fun _ _ => rfl) (n + v) (show n + v < 18 by omega) rfl dX3_paintTints_56 ?_
      refine g_I (I1 := CP I (I 10) (up2 (up2 B 0 v ((nI (T 0 v)))) 0 (9 + v) ((nI (T 1 v)))) (I 12) (up2 (up2 F 0 v ((nI v))) 0 (n + v) ((nI (9 + v)))) (I 16)) (by rw [cp_13, cp13]) ?_
      refine g_iinc (lv' := [(3, .int (nI (v + 1))), (0, .ref (Z.2.2.1 10 0)), (1, .ref (Z.2.2.1 1 0)), (2, .int (nI n))]) C ((nI (v + 1))) dX3_paintTints_57 rfl (inc1 _) rfl rfl ?_
      refine g_goto (tgt := 2) C dX3_paintTints_60 rfl ?_
      refine g_lv [1, 2, 3, 0] rfl ?_
      refine ih (v + 1) _ _ (by omega) (by omega) (fun u hu hlt => ?_) (fun j hj => ?_) (fun j hj => ?_)
      · rw [up2_at, up2_at]
        by_cases q : u = 9 + v
        · rw [if_pos ⟨rfl, q⟩, q, show (9 + v) / 9 = 1 by omega, show (9 + v) % 9 = v by omega]
        · rw [if_neg (fun z => q z.2)]
          by_cases q2 : u = v
          · rw [if_pos ⟨rfl, q2⟩, q2, show v / 9 = 0 by omega, show v % 9 = v by omega]
          · rw [if_neg (fun z => q2 z.2)]; exact hB u hu (by have := hu.1; omega)
      · rw [up2_ne (by omega), up2_at]
        by_cases q : j = v
        · rw [if_pos ⟨rfl, q⟩, q]
        · rw [if_neg (fun z => q z.2)]; exact hF1 j (by omega)
      · rw [up2_at]
        by_cases q : j = v
        · rw [if_pos ⟨rfl, by omega⟩, q]
        · rw [if_neg (fun z => by omega), up2_ne (by omega)]; exact hF2 j (by omega)

set_option maxRecDepth 100000 in
set_option maxHeartbeats 4000000 in
/-- paintTints -/
theorem c_X3_paintTints {l : Launch} {Y : Yk} (hA : AJ Y.2.2) {I : SI} {J : SJ} {n : Nat} {T : Nat → Nat → Nat} {L : Nat → Nat → Nat → Nat} (hv : CV I n T L)  : MX l Y yX3_paintTints cX3_paintTints 4 (none) 3 120 [.ref (Y.2.2 10 0), .ref (Y.2.2 1 0), .int (nI n)] I J (ptPost n (cs n T L 0) (ms n T L 0) I J) := by
  refine MX.of hA (by decide) (own := RX3) rfl rfl rfl ?_
  intro X Z hl hY1 hY2 hY3 C hr
  obtain ⟨D0, ca0, ad0⟩ := Y
  dsimp only at hA hY1 hY2 hY3
  subst hY1; subst hY2; subst hY3; subst hl
  show G X 4 Z (QG X Z _) I J 0 [(0, .ref (Z.2.2.1 10 0)), (1, .ref (Z.2.2.1 1 0)), (2, .int (nI n))] []
  refine g_iconst C ((nI 0)) dX3_paintTints_0 (by decide) ?_
  refine g_istn (lv' := [(3, .int (nI 0)), (0, .ref (Z.2.2.1 10 0)), (1, .ref (Z.2.2.1 1 0)), (2, .int (nI n))]) C dX3_paintTints_1 rfl rfl ?_
  refine g_lv [1, 2, 3, 0] rfl ?_
  refine g_I (I1 := CP I (I 10) (I 11) (I 12) (I 13) (I 16)) (cp_id I).symm ?_
  exact l_X3_paintTints_2 hA C hr hv (n + 1) 0 (I 11) (I 13) (by omega) (by omega) (fun u _ h => absurd h (by omega)) (fun j hj => absurd hj (by omega)) (fun j hj => absurd hj (by omega))
end
section
/-! ===== Painter: paint, paintsAlike ===== -/
/-- how many rounds: the first that gives no more colours (or the eighteenth) -/
def rnd (n : Nat) (T : Nat → Nat → Nat) (L : Nat → Nat → Nat → Nat) (k : Nat) : Prop := 1 ≤ k ∧ k ≤ 18 ∧ (∀ j, 1 ≤ j → j < k → ms n T L j ≠ ms n T L (j - 1)) ∧ (k = 18 ∨ ms n T L k = ms n T L (k - 1))
def paPost (n : Nat) (T : Nat → Nat → Nat) (L : Nat → Nat → Nat → Nat) (I : SI) (J : SJ) : Option Value → SI → SJ → Prop := fun v' I' J' =>
  ∃ (A B E F H K : Nat → Nat → Int32) (k : Nat), v' = none ∧ I' = sK (CP I A B E F H) 7 K ∧ J' = J ∧ rnd n T L k ∧ A 0 0 = nI (ms n T L k) ∧ ∀ g v, g < 2 → v < n → K g v = nI (cs n T L k (9 * g + v))
theorem ms_le (n : Nat) (T : Nat → Nat → Nat) (L : Nat → Nat → Nat → Nat) (k : Nat) : ms n T L k ≤ 18 := by cases k <;> exact CN_le _ _
set_option maxRecDepth 100000 in
set_option maxHeartbeats 4000000 in
theorem l_X3_paint_63 {X : Pk} {Z : Zk} {I : SI} {J : SJ} (hA : AJ Z.2.2.1) (C : Cx X cX3_paint 5 RX3 Z 4 160) (hr : (xE X).sig.returnType = none) {n : Nat} {T : Nat → Nat → Nat} {L : Nat → Nat → Nat → Nat} (hv : CV I n T L) {A B E F H : Nat → Nat → Int32} {k : Nat} (hk : rnd n T L k) (hA0 : A 0 0 = nI (ms n T L k)) (hB : ∀ y, thr n y → B 0 y = nI (cs n T L k y)) : ∀ t q (K : Nat → Nat → Int32), 2 - q < t → q ≤ 2 → (∀ g v, g < q → v < n → K g v = nI (cs n T L k (9 * g + v))) → G X 5 Z (QG X Z (paPost n T L I J)) (sK (CP I A B E F H) 7 K) J 63 [(0, .ref (Z.2.2.1 10 0)), (1, .ref (Z.2.2.1 1 0)), (2, .int (nI n)), (3, .int (nI q))] [] := by
  obtain ⟨⟨hn1, hn9⟩, -⟩ := id hv
  intro t
  induction t with
  | zero => intro q K h; exact absurd h (by omega)
  | succ t ih =>
    intro q K ht hq hK
    refine g_ildn C dX3_paint_63 rfl ?_
    refine g_iconst C ((nI 2)) dX3_paint_64 (by decide) ?_
    refine n_icmp_ge (tgt := 93) C dX3_paint_65 rfl (by omega) (by omega) (fun c65 => ?_) (fun c65 => ?_)
    · exact g_return C hr dX3_paint_93 ⟨A, B, E, F, H, K, k, rfl, rfl, rfl, hk, hA0, fun g v hg hvn => hK g v (by omega) hvn⟩
    · refine g_aldn C dX3_paint_68 rfl ?_
      refine g_get C 10 0 (by decide) (by decide) u3 rfl 1 rfl fX3_11 rfl rfl dX3_paint_69 ?_
      refine g_ildn C dX3_paint_72 rfl ?_
      refine g_bipush C ((nI 9)) dX3_paint_73 (by decide) ?_
      refine g_imul (v := (nI (q * 9))) C dX3_paint_75 (pk_mul _ _) ?_
      refine g_aldn C dX3_paint_76 rfl ?_
      refine g_ildn C dX3_paint_77 rfl ?_
      refine g_aald C 1 0 2 (by decide) (by decide) (fun _ _ => rfl) rfl rfl q (show q < 2 by omega) rfl dX3_paint_78 ?_
      refine g_get C 2 q (by decide) (show q < 2 by omega) u1 rfl 3 rfl fX3_49 rfl rfl dX3_paint_79 ?_
      refine g_iconst C ((nI 0)) dX3_paint_82 (by decide) ?_
      refine g_ildn C dX3_paint_83 rfl ?_
      refine g_copyi C mX3_52 11 0 7 q (by decide) (by decide) (by decide) (show q < 2 by omega) (fun _ _ => rfl) (fun _ _ => rfl) (q * 9) 0 n (by omega) (by omega) rfl rfl rfl rfl dX3_paint_84 ?_
      refine g_I (I1 := sK (CP I A B E F H) 7 (va_up K q (va_cpy (B 0) (K q) (q * 9) 0 n))) (by rw [sK_self, sK_ne (by decide : (11 : Nat) ≠ 7), cp_11, sK_sK]) ?_
      refine g_iinc (lv' := [(3, .int (nI (q + 1))), (0, .ref (Z.2.2.1 10 0)), (1, .ref (Z.2.2.1 1 0)), (2, .int (nI n))]) C ((nI (q + 1))) dX3_paint_87 rfl (inc1 _) rfl rfl ?_
      refine g_goto (tgt := 63) C dX3_paint_90 rfl ?_
      refine g_lv [1, 2, 3, 0] rfl ?_
      refine ih (q + 1) _ (by omega) (by omega) (fun g v hg hvn => ?_)
      by_cases e : g = q
      · subst e; rw [va_up_self, pk_cpy_in (by omega) (by omega), show g * 9 + (v - 0) = 9 * g + v by omega]; exact hB _ ⟨by omega, by omega⟩
      · rw [va_up_ne _ _ e]; exact hK g v (by omega) hvn

set_option maxRecDepth 100000 in
set_option maxHeartbeats 4000000 in
theorem l_X3_paint_15 {X : Pk} {Z : Zk} {I : SI} {J : SJ} (hA : AJ Z.2.2.1) (C : Cx X cX3_paint 5 RX3 Z 4 160) (hr : (xE X).sig.returnType = none) {n : Nat} {T : Nat → Nat → Nat} {L : Nat → Nat → Nat → Nat} (hv : CV I n T L) : ∀ t r (A B E F H : Nat → Nat → Int32) (s : Nat → Nat), 18 - r < t → r ≤ 18 → A 0 0 = nI (ms n T L r) → (∀ y, thr n y → B 0 y = nI (cs n T L r y)) → (∀ j, j < 2 * n → F 0 j = nI (s j) ∧ thr n (s j)) → (∀ y, thr n y → ∃ j, j < 2 * n ∧ s j = y) → (∀ j, 1 ≤ j → j ≤ r → ms n T L j ≠ ms n T L (j - 1)) → G X 5 Z (QG X Z (paPost n T L I J)) (CP I A B E F H) J 15 [(0, .ref (Z.2.2.1 10 0)), (1, .ref (Z.2.2.1 1 0)), (2, .int (nI n)), (3, .int (nI r))] [] := by
  obtain ⟨⟨hn1, hn9⟩, -⟩ := id hv
  intro t
  induction t with
  | zero => intro r A B E F H s h; exact absurd h (by omega)
  | succ t ih =>
    intro r A B E F H s ht hr18 hA0 hB hF hsu hh
    have hv2 := (hv.of (I' := CP I A B E F H) (cp_o (by decide)) (cp_o (by decide)) (cp_o (by decide)))
    have z1 := ms_le n T L r
    have z2 := ms_le n T L (r + 1)
    refine g_ildn C dX3_paint_15 rfl ?_
    refine g_bipush C ((nI 18)) dX3_paint_16 (by decide) ?_
    refine n_icmp_ge (tgt := 61) C dX3_paint_18 rfl (by omega) (by omega) (fun c18 => ?_) (fun c18 => ?_)
    · refine g_iconst C ((nI 0)) dX3_paint_61 (by decide) ?_
      refine g_istn (lv' := [(3, .int (nI 0)), (0, .ref (Z.2.2.1 10 0)), (1, .ref (Z.2.2.1 1 0)), (2, .int (nI n))]) C dX3_paint_62 rfl rfl ?_
      refine g_lv [1, 2, 3, 0] rfl ?_
      refine g_I (I1 := sK (CP I A B E F H) 7 (I 7)) (by conv => lhs; rw [← sK_id (CP I A B E F H) 7, cp_o (by decide)]) ?_
      exact l_X3_paint_63 hA C hr hv (k := r) ⟨by omega, by omega, fun j h1 h2 => hh j h1 (by omega), Or.inl (by omega)⟩ hA0 hB 3 0 (I 7) (by omega) (by omega) (fun g v h => absurd h (by omega))
    · refine g_aldn C dX3_paint_21 rfl ?_
      refine g_get C 10 0 (by decide) (by decide) u3 rfl 0 rfl fX3_39 rfl rfl dX3_paint_22 ?_
      refine g_top (y := (nI (ms n T L r))) ((congrFun (congrFun (cp_10 _ _ _ _ _ _) 0) 0).trans hA0) ?_
      refine g_ist (lv' := [(4, .int (nI (ms n T L r))), (0, .ref (Z.2.2.1 10 0)), (1, .ref (Z.2.2.1 1 0)), (2, .int (nI n)), (3, .int (nI r))]) C dX3_paint_25 rfl rfl ?_
      refine g_aldn C dX3_paint_27 rfl ?_
      refine g_aldn C dX3_paint_28 rfl ?_
      refine g_ildn C dX3_paint_29 rfl ?_
      refine g_callV (As := [.ref (Z.2.2.1 1 0), .int (nI n)]) (st := []) C (c_X3_gatherKeys hA hv2 (c := cs n T L r) (fun u hu => ⟨by rw [cp_11]; exact hB u hu, cs_lt r hu⟩)) wX3_gatherKeys iX3_gatherKeys sX3_gatherKeys mX3_42 10 0 (by decide) (by decide) rfl rfl rfl rfl rfl rfl rfl rfl dX3_paint_30 ?_
      rintro v9 I9 J9 ⟨H2, ky, h91, h92, h93, hky⟩
      rw [h91, h92, h93, cp16]
      clear h91 h92 h93 v9 I9 J9
      show G X _ Z _ (CP I A B E F H2) J 33 [(4, .int (nI (ms n T L r))), (0, .ref (Z.2.2.1 10 0)), (1, .ref (Z.2.2.1 1 0)), (2, .int (nI n)), (3, .int (nI r))] []
      refine g_aldn C dX3_paint_33 rfl ?_
      refine g_iconst C ((nI 2)) dX3_paint_34 (by decide) ?_
      refine g_ildn C dX3_paint_35 rfl ?_
      refine g_imul (v := (nI (2 * n))) C dX3_paint_36 (pk_mul _ _) ?_
      refine g_ildn C dX3_paint_37 rfl ?_
      refine g_iconst C ((nI 1)) dX3_paint_38 (by decide) ?_
      refine g_isub (v := (nI (n - 1))) C dX3_paint_39 (pk_sub (by omega)) ?_
      refine g_callV (As := [.int (nI (2 * n)), .int (nI (n - 1))]) (st := []) C (c_X3_renumber hA (n := n) (kc := n - 1) hn9 (by omega) (c := cs n T L r) (Kf := ky) (fun u hu => ⟨by rw [cp_11]; exact hB u hu, cs_lt r hu⟩) (fun u hu j hj => ⟨by rw [cp_16]; exact (hky u hu).2 j hj, (hky u hu).1.2.2.1 j hj⟩) (m := 2 * n) (by omega) (by omega) (so := s) (fun j hj => by rw [cp_13]; exact hF j hj) hsu) wX3_renumber iX3_renumber sX3_renumber mX3_45 10 0 (by decide) (by decide) rfl rfl rfl rfl rfl rfl rfl rfl dX3_paint_40 ?_
      rintro v9 I9 J9 ⟨B3, E3, F3, s3, h91, h92, h93, k1, k2, k3⟩
      rw [h91, h92, h93, cp_cp, cp_10, cp_16]
      have hs1 : ∀ a b, thr n a → thr n b → (lx (n - 1 + 1) (Qs (cs n T L r) ky a) (Qs (cs n T L r) ky b) ↔ slt n L (cs n T L r) a b) := fun a b ha hb => slt_iff (hky a ha).1 (hky b hb).1
      rw [CN_congr hs1, show CN n (slt n L (cs n T L r)) = ms n T L (r + 1) from rfl]
      have k1 : ∀ y, thr n y → B3 0 y = nI (cs n T L (r + 1) y) := fun y hy => (k1 y hy).trans (congrArg nI (RK_congr hs1 hy))
      clear h91 h92 h93 v9 I9 J9
      show G X _ Z _ (CP I (up2 A 0 0 (nI (ms n T L (r + 1)))) B3 E3 F3 H2) J 43 [(4, .int (nI (ms n T L r))), (0, .ref (Z.2.2.1 10 0)), (1, .ref (Z.2.2.1 1 0)), (2, .int (nI n)), (3, .int (nI r))] []
      refine g_aldn C dX3_paint_43 rfl ?_
      refine g_get C 10 0 (by decide) (by decide) u3 rfl 0 rfl fX3_39 rfl rfl dX3_paint_44 ?_
      refine g_top (y := (nI (ms n T L (r + 1)))) ((congrFun (congrFun (cp_10 _ _ _ _ _ _) 0) 0).trans up2_self) ?_
      refine g_ild C dX3_paint_47 rfl ?_
      refine n_icmp_ne (tgt := 55) C dX3_paint_49 rfl (by omega) (by omega) (fun c49 => ?_) (fun c49 => ?_)
      · refine g_iinc (lv' := [(3, .int (nI (r + 1))), (4, .int (nI (ms n T L r))), (0, .ref (Z.2.2.1 10 0)), (1, .ref (Z.2.2.1 1 0)), (2, .int (nI n))]) C ((nI (r + 1))) dX3_paint_55 rfl (inc1 _) rfl rfl ?_
        refine g_goto (tgt := 15) C dX3_paint_58 rfl ?_
        refine g_lv [2, 3, 4, 0] rfl ?_
        exact ih (r + 1) _ _ _ _ _ s3 (by omega) (by omega) up2_self k1 k2 k3 (fun j h1 h2 => by rcases Nat.lt_or_eq_of_le h2 with q | q; exact hh j h1 (by omega); subst q; rw [Nat.add_sub_cancel]; exact c49)
      · refine g_goto (tgt := 61) C dX3_paint_52 rfl ?_
        refine g_iconst C ((nI 0)) dX3_paint_61 (by decide) ?_
        refine g_istn (lv' := [(3, .int (nI 0)), (4, .int (nI (ms n T L r))), (0, .ref (Z.2.2.1 10 0)), (1, .ref (Z.2.2.1 1 0)), (2, .int (nI n))]) C dX3_paint_62 rfl rfl ?_
        refine g_lv [2, 3, 4, 0] rfl ?_
        refine g_I (I1 := sK (CP I (up2 A 0 0 (nI (ms n T L (r + 1)))) B3 E3 F3 H2) 7 (I 7)) (by conv => lhs; rw [← sK_id (CP I (up2 A 0 0 (nI (ms n T L (r + 1)))) B3 E3 F3 H2) 7, cp_o (by decide)]) ?_
        exact l_X3_paint_63 hA C hr hv (k := (r + 1)) ⟨by omega, by omega, fun j h1 h2 => hh j h1 (by omega), Or.inr (by rw [Nat.add_sub_cancel]; exact c49)⟩ up2_self k1 3 0 (I 7) (by omega) (by omega) (fun g v h => absurd h (by omega))

set_option maxRecDepth 100000 in
set_option maxHeartbeats 4000000 in
/-- Painter.paint -/
theorem c_X3_paint {l : Launch} {Y : Yk} (hA : AJ Y.2.2) {I : SI} {J : SJ} {n : Nat} {T : Nat → Nat → Nat} {L : Nat → Nat → Nat → Nat} (hv : CV I n T L)  : MX l Y yX3_paint cX3_paint 5 (none) 4 160 [.ref (Y.2.2 10 0), .ref (Y.2.2 1 0)] I J (paPost n T L I J) := by
  refine MX.of hA (by decide) (own := RX3) rfl rfl rfl ?_
  intro X Z hl hY1 hY2 hY3 C hr
  obtain ⟨D0, ca0, ad0⟩ := Y
  dsimp only at hA hY1 hY2 hY3
  subst hY1; subst hY2; subst hY3; subst hl
  show G X 5 Z (QG X Z _) I J 0 [(0, .ref (Z.2.2.1 10 0)), (1, .ref (Z.2.2.1 1 0))] []
  obtain ⟨⟨hn1, hn9⟩, -⟩ := id hv
  refine g_aldn C dX3_paint_0 rfl ?_
  refine g_iconst C ((nI 0)) dX3_paint_1 (by decide) ?_
  refine g_aald C 1 0 2 (by decide) (by decide) (fun _ _ => rfl) rfl rfl 0 (show 0 < 2 by omega) rfl dX3_paint_2 ?_
  refine g_get C 2 0 (by decide) (by decide) u1 rfl 0 rfl fX3_29 rfl rfl dX3_paint_3 ?_
  refine g_top (y := (nI n)) (hv.sz (by decide)) ?_
  refine g_istn (lv' := [(2, .int (nI n)), (0, .ref (Z.2.2.1 10 0)), (1, .ref (Z.2.2.1 1 0))]) C dX3_paint_6 rfl rfl ?_
  refine g_aldn C dX3_paint_7 rfl ?_
  refine g_aldn C dX3_paint_8 rfl ?_
  refine g_ildn C dX3_paint_9 rfl ?_
  refine g_callV (As := [.ref (Z.2.2.1 1 0), .int (nI n)]) (st := []) C (c_X3_paintTints hA hv) wX3_paintTints iX3_paintTints sX3_paintTints mX3_35 10 0 (by decide) (by decide) rfl rfl rfl rfl rfl rfl rfl rfl dX3_paint_10 ?_
  rintro v9 I9 J9 ⟨A, B, E, F, H, s, h91, h92, h93, k1, k2, k3, k4⟩
  rw [h91, h92, h93]
  clear h91 h92 h93 v9 I9 J9
  show G X _ Z _ (CP I A B E F H) J 13 [(2, .int (nI n)), (0, .ref (Z.2.2.1 10 0)), (1, .ref (Z.2.2.1 1 0))] []
  refine g_iconst C ((nI 0)) dX3_paint_13 (by decide) ?_
  refine g_istn (lv' := [(3, .int (nI 0)), (2, .int (nI n)), (0, .ref (Z.2.2.1 10 0)), (1, .ref (Z.2.2.1 1 0))]) C dX3_paint_14 rfl rfl ?_
  refine g_lv [2, 3, 1, 0] rfl ?_
  exact l_X3_paint_15 hA C hr hv 19 0 A B E F H s (by omega) (by omega) k1 k2 k3 k4 (fun j h1 h2 => absurd h1 (by omega))

theorem up2_r {α : Type} (F : Nat → Nat → α) (r i j : Nat) (x : α) : up2 F r i x r j = if j = i then x else F r j := by
  rw [up2_at]
  by_cases h : j = i
  · rw [if_pos ⟨rfl, h⟩, if_pos h]
  · rw [if_neg (fun q => h q.2), if_neg h]
def tI (z : Int) : Int32 := Int32.ofInt z
theorem tI_inc (z : Int) : tI z + nI 1 = tI (z + 1) := (Int32.ofInt_add z 1).symm
theorem tI_dec (z : Int) : tI z - nI 1 = tI (z - 1) := (Int32.ofInt_sub z 1).symm
theorem tI_0 {z : Int} (h1 : -100 < z) (h2 : z < 100) : tI z = 0 ↔ z = 0 := by
  constructor
  · intro h
    have h3 := congrArg Int32.toInt h
    rw [show (tI z).toInt = z from Int32.toInt_ofInt_of_le (by omega) (by omega)] at h3
    exact h3
  · intro h; rw [h]; rfl
set_option maxRecDepth 100000 in
set_option maxHeartbeats 4000000 in
theorem l_X3_paintsAlike_62 {X : Pk} {Z : Zk} {I : SI} {J : SJ} (hA : AJ Z.2.2.1) (C : Cx X cX3_paintsAlike 3 RX3 Z 1 40) (hr : (xE X).sig.returnType = some .boolean) {n : Nat} {T : Nat → Nat → Nat} {L : Nat → Nat → Nat → Nat} (hv : CV I n T L) {K : Nat → Nat → Nat} (hc : CC I n K) {m : Nat} (hm : m ≤ 18) (hnum : I 10 0 0 = nI m) {F : Nat → Nat → Int32} (hF : ∀ x, x < 18 → F 0 x = tI (((ct (fun u => decide (K 0 u = x)) n : Nat) : Int) - ((ct (fun u => decide (K 1 u = x)) n : Nat) : Int))) : ∀ k y, m - y < k → y ≤ m → (∀ x, x < y → ct (fun u => decide (K 0 u = x)) n = ct (fun u => decide (K 1 u = x)) n) → G X 3 Z (QG X Z (fun v' I' J' => ∃ (b : Bool) (F : Nat → Nat → Int32), v' = some (.int (bI b)) ∧ I' = sK I 14 F ∧ J' = J ∧ (b = true ↔ ∀ x, x < m → ct (fun u => decide (K 0 u = x)) n = ct (fun u => decide (K 1 u = x)) n))) (sK I 14 F) J 62 [(0, .ref (Z.2.2.1 10 0)), (1, .ref (Z.2.2.1 1 0)), (2, .int (nI y))] [] := by
  obtain ⟨⟨hn1, hn9⟩, -⟩ := id hv
  intro k
  induction k with
  | zero => intro y h; exact absurd h (by omega)
  | succ k ih =>
    intro y hk hy hin
    have z1 := ct_le (fun u => decide (K 0 u = y)) n
    have z2 := ct_le (fun u => decide (K 1 u = y)) n
    refine g_ildn C dX3_paintsAlike_62 rfl ?_
    refine g_aldn C dX3_paintsAlike_63 rfl ?_
    refine g_get C 10 0 (by decide) (by decide) u3 rfl 0 rfl fX3_39 rfl rfl dX3_paintsAlike_64 ?_
    refine g_top (y := (nI m)) ((congrFun (congrFun (sK_ne (by decide)) 0) 0).trans hnum) ?_
    refine n_icmp_ge (tgt := 87) C dX3_paintsAlike_67 rfl (by omega) (by omega) (fun c67 => ?_) (fun c67 => ?_)
    · refine g_iconst C ((nI 1)) dX3_paintsAlike_87 (by decide) ?_
      exact g_zreturn C hr (by decide) dX3_paintsAlike_88 ⟨true, F, rfl, rfl, rfl, ⟨fun _ x hx => hin x (by omega), fun _ => rfl⟩⟩
    · refine g_aldn C dX3_paintsAlike_70 rfl ?_
      refine g_get C 10 0 (by decide) (by decide) u3 rfl 4 rfl fX3_21 rfl rfl dX3_paintsAlike_71 ?_
      refine g_ildn C dX3_paintsAlike_74 rfl ?_
      refine g_iald C 14 0 (by decide) (by decide) (fun _ _ => rfl) y (show y < 18 by omega) rfl dX3_paintsAlike_75 (v := (tI (((ct (fun u => decide (K 0 u = y)) n : Nat) : Int) - ((ct (fun u => decide (K 1 u = y)) n : Nat) : Int)))) (by rw [sK_self]; exact hF y (by omega)) ?_
      refine g_if_eq (tgt := 81) C dX3_paintsAlike_76 rfl (fun c76 => ?_) (fun c76 => ?_)
      · refine g_iinc (lv' := [(2, .int (nI (y + 1))), (0, .ref (Z.2.2.1 10 0)), (1, .ref (Z.2.2.1 1 0))]) C ((nI (y + 1))) dX3_paintsAlike_81 rfl (inc1 _) rfl rfl ?_
        refine g_goto (tgt := 62) C dX3_paintsAlike_84 rfl ?_
        refine g_lv [1, 2, 0] rfl ?_
        exact ih (y + 1) (by omega) (by omega) (fun x hx => (Nat.lt_or_eq_of_le (Nat.le_of_lt_succ hx)).elim (hin x) (fun e => by rw [e]; have := (tI_0 (by omega) (by omega)).mp c76; omega))
      · refine g_iconst C ((nI 0)) dX3_paintsAlike_79 (by decide) ?_
        exact g_zreturn C hr (by decide) dX3_paintsAlike_80 ⟨false, F, rfl, rfl, rfl, ⟨fun h => absurd h (by decide), fun h => absurd ((tI_0 (by omega) (by omega)).mpr (by have := h y (by omega); omega)) c76⟩⟩

set_option maxRecDepth 100000 in
set_option maxHeartbeats 4000000 in
theorem l_X3_paintsAlike_10 {X : Pk} {Z : Zk} {I : SI} {J : SJ} (hA : AJ Z.2.2.1) (C : Cx X cX3_paintsAlike 3 RX3 Z 1 40) (hr : (xE X).sig.returnType = some .boolean) {n : Nat} {T : Nat → Nat → Nat} {L : Nat → Nat → Nat → Nat} (hv : CV I n T L) {K : Nat → Nat → Nat} (hc : CC I n K) {m : Nat} (hm : m ≤ 18) (hnum : I 10 0 0 = nI m) : ∀ k v (F : Nat → Nat → Int32), n - v < k → v ≤ n → (∀ x, x < 18 → F 0 x = tI (((ct (fun u => decide (K 0 u = x)) v : Nat) : Int) - ((ct (fun u => decide (K 1 u = x)) v : Nat) : Int))) → G X 3 Z (QG X Z (fun v' I' J' => ∃ (b : Bool) (F : Nat → Nat → Int32), v' = some (.int (bI b)) ∧ I' = sK I 14 F ∧ J' = J ∧ (b = true ↔ ∀ x, x < m → ct (fun u => decide (K 0 u = x)) n = ct (fun u => decide (K 1 u = x)) n))) (sK I 14 F) J 10 [(0, .ref (Z.2.2.1 10 0)), (1, .ref (Z.2.2.1 1 0)), (2, .int (nI v))] [] := by
  obtain ⟨⟨hn1, hn9⟩, -⟩ := id hv
  intro k
  induction k with
  | zero => intro v F h; exact absurd h (by omega)
  | succ k ih =>
    intro v F hk hvn hF
    have z0 : v < n → K 0 v < 18 := fun h => (hc 0 (by decide) v h).2
    have z1 : v < n → K 1 v < 18 := fun h => (hc 1 (by decide) v h).2
    refine g_ildn C dX3_paintsAlike_10 rfl ?_
    refine g_aldn C dX3_paintsAlike_11 rfl ?_
    refine g_iconst C ((nI 0)) dX3_paintsAlike_12 (by decide) ?_
    refine g_aald C 1 0 2 (by decide) (by decide) (fun _ _ => rfl) rfl rfl 0 (show 0 < 2 by omega) rfl dX3_paintsAlike_13 ?_
    refine g_get C 2 0 (by decide) (by decide) u1 rfl 0 rfl fX3_29 rfl rfl dX3_paintsAlike_14 ?_
    refine g_top (y := (nI n)) ((hv.of (sK_ne (by decide)) (sK_ne (by decide)) (sK_ne (by decide)) : CV (sK I 14 F) n T L).sz (by decide)) ?_
    refine n_icmp_ge (tgt := 60) C dX3_paintsAlike_17 rfl (by omega) (by omega) (fun c17 => ?_) (fun c17 => ?_)
    · have evn : v = n := by omega
      subst evn
      refine g_iconst C ((nI 0)) dX3_paintsAlike_60 (by decide) ?_
      refine g_istn (lv' := [(2, .int (nI 0)), (0, .ref (Z.2.2.1 10 0)), (1, .ref (Z.2.2.1 1 0))]) C dX3_paintsAlike_61 rfl rfl ?_
      refine g_lv [1, 2, 0] rfl ?_
      exact l_X3_paintsAlike_62 hA C hr hv hc hm hnum hF (m + 1) 0 (by omega) (by omega) (fun x hx => absurd hx (by omega))
    · refine g_aldn C dX3_paintsAlike_20 rfl ?_
      refine g_get C 10 0 (by decide) (by decide) u3 rfl 4 rfl fX3_21 rfl rfl dX3_paintsAlike_21 ?_
      refine g_aldn C dX3_paintsAlike_24 rfl ?_
      refine g_iconst C ((nI 0)) dX3_paintsAlike_25 (by decide) ?_
      refine g_aald C 1 0 2 (by decide) (by decide) (fun _ _ => rfl) rfl rfl 0 (show 0 < 2 by omega) rfl dX3_paintsAlike_26 ?_
      refine g_get C 2 0 (by decide) (by decide) u1 rfl 3 rfl fX3_49 rfl rfl dX3_paintsAlike_27 ?_
      refine g_ildn C dX3_paintsAlike_30 rfl ?_
      refine g_iald C 7 0 (by decide) (by decide) (fun _ _ => rfl) v (show v < 9 by omega) rfl dX3_paintsAlike_31 (v := (nI (K 0 v))) (by rw [sK_ne (by decide)]; exact (hc 0 (by decide) v (by omega)).1) ?_
      refine g_dup2 C dX3_paintsAlike_32 rfl rfl ?_
      refine g_iald C 14 0 (by decide) (by decide) (fun _ _ => rfl) (K 0 v) (show K 0 v < 18 by omega) rfl dX3_paintsAlike_33 (v := (tI (((ct (fun u => decide (K 0 u = K 0 v)) v : Nat) : Int) - ((ct (fun u => decide (K 1 u = K 0 v)) v : Nat) : Int)))) (by rw [sK_self]; exact hF (K 0 v) (by omega)) ?_
      refine g_iconst C ((nI 1)) dX3_paintsAlike_34 (by decide) ?_
      refine g_iadd (v := (tI (((ct (fun u => decide (K 0 u = K 0 v)) v : Nat) : Int) - ((ct (fun u => decide (K 1 u = K 0 v)) v : Nat) : Int) + 1))) C dX3_paintsAlike_35 (tI_inc _) ?_
      refine g_iast C 14 0 (by decide) (by decide) (fun _ _ => rfl) (K 0 v) (show K 0 v < 18 by omega) rfl dX3_paintsAlike_36 ?_
      refine g_I (I1 := sK I 14 (up2 F 0 (K 0 v) (tI (((ct (fun u => decide (K 0 u = K 0 v)) v : Nat) : Int) - ((ct (fun u => decide (K 1 u = K 0 v)) v : Nat) : Int) + 1)))) (by rw [sK_self, sK_sK]) ?_
      refine g_aldn C dX3_paintsAlike_37 rfl ?_
      refine g_get C 10 0 (by decide) (by decide) u3 rfl 4 rfl fX3_21 rfl rfl dX3_paintsAlike_38 ?_
      refine g_aldn C dX3_paintsAlike_41 rfl ?_
      refine g_iconst C ((nI 1)) dX3_paintsAlike_42 (by decide) ?_
      refine g_aald C 1 0 2 (by decide) (by decide) (fun _ _ => rfl) rfl rfl 1 (show 1 < 2 by omega) rfl dX3_paintsAlike_43 ?_
      refine g_get C 2 1 (by decide) (by decide) u1 rfl 3 rfl fX3_49 rfl rfl dX3_paintsAlike_44 ?_
      refine g_ildn C dX3_paintsAlike_47 rfl ?_
      refine g_iald C 7 1 (by decide) (by decide) (fun _ _ => rfl) v (show v < 9 by omega) rfl dX3_paintsAlike_48 (v := (nI (K 1 v))) (by rw [sK_ne (by decide)]; exact (hc 1 (by decide) v (by omega)).1) ?_
      refine g_dup2 C dX3_paintsAlike_49 rfl rfl ?_
      refine g_iald C 14 0 (by decide) (by decide) (fun _ _ => rfl) (K 1 v) (show K 1 v < 18 by omega) rfl dX3_paintsAlike_50 (v := (up2 F 0 (K 0 v) (tI (((ct (fun u => decide (K 0 u = K 0 v)) v : Nat) : Int) - ((ct (fun u => decide (K 1 u = K 0 v)) v : Nat) : Int) + 1)) 0 (K 1 v))) (by rw [sK_self]) ?_
      refine g_iconst C ((nI 1)) dX3_paintsAlike_51 (by decide) ?_
      refine g_isub (v := (up2 F 0 (K 0 v) (tI (((ct (fun u => decide (K 0 u = K 0 v)) v : Nat) : Int) - ((ct (fun u => decide (K 1 u = K 0 v)) v : Nat) : Int) + 1)) 0 (K 1 v) - nI 1)) C dX3_paintsAlike_52 rfl ?_
      refine g_iast C 14 0 (by decide) (by decide) (fun _ _ => rfl) (K 1 v) (show K 1 v < 18 by omega) rfl dX3_paintsAlike_53 ?_
      refine g_I (I1 := sK I 14 (up2 (up2 F 0 (K 0 v) (tI (((ct (fun u => decide (K 0 u = K 0 v)) v : Nat) : Int) - ((ct (fun u => decide (K 1 u = K 0 v)) v : Nat) : Int) + 1))) 0 (K 1 v) ((up2 F 0 (K 0 v) (tI (((ct (fun u => decide (K 0 u = K 0 v)) v : Nat) : Int) - ((ct (fun u => decide (K 1 u = K 0 v)) v : Nat) : Int) + 1)) 0 (K 1 v) - nI 1)))) (by rw [sK_self, sK_sK]) ?_
      refine g_iinc (lv' := [(2, .int (nI (v + 1))), (0, .ref (Z.2.2.1 10 0)), (1, .ref (Z.2.2.1 1 0))]) C ((nI (v + 1))) dX3_paintsAlike_54 rfl (inc1 _) rfl rfl ?_
      refine g_goto (tgt := 10) C dX3_paintsAlike_57 rfl ?_
      refine g_lv [1, 2, 0] rfl ?_
      refine ih (v + 1) _ (by omega) (by omega) (fun x hx => ?_)
      simp only [up2_r, ct_s]
      by_cases e1 : x = K 1 v
      · rw [if_pos e1]
        by_cases e0 : x = K 0 v
        · have e2 : K 1 v = K 0 v := by omega
          rw [if_pos e2, tI_dec, if_pos (decide_eq_true e0.symm), if_pos (decide_eq_true e1.symm), ← e0]
          congr 1; omega
        · have e2 : ¬ K 1 v = K 0 v := by omega
          rw [if_neg e2, hF (K 1 v) (by omega), tI_dec, ← e1, if_neg (by rw [decide_eq_true_iff]; omega), if_pos (decide_eq_true rfl)]
          congr 1; omega
      · rw [if_neg e1]
        by_cases e0 : x = K 0 v
        · rw [if_pos e0, if_pos (decide_eq_true e0.symm), if_neg (by rw [decide_eq_true_iff]; omega), ← e0]
          congr 1; omega
        · rw [if_neg e0, hF x hx, if_neg (by rw [decide_eq_true_iff]; omega), if_neg (by rw [decide_eq_true_iff]; omega)]
          rfl

set_option maxRecDepth 100000 in
set_option maxHeartbeats 4000000 in
/-- paintsAlike -/
theorem c_X3_paintsAlike {l : Launch} {Y : Yk} (hA : AJ Y.2.2) {I : SI} {J : SJ} {n : Nat} {T : Nat → Nat → Nat} {L : Nat → Nat → Nat → Nat} (hv : CV I n T L) {K : Nat → Nat → Nat} (hc : CC I n K) {m : Nat} (hm : m ≤ 18) (hnum : I 10 0 0 = nI m)  : MX l Y yX3_paintsAlike cX3_paintsAlike 3 (some .boolean) 1 40 [.ref (Y.2.2 10 0), .ref (Y.2.2 1 0)] I J (fun v' I' J' => ∃ (b : Bool) (F : Nat → Nat → Int32), v' = some (.int (bI b)) ∧ I' = sK I 14 F ∧ J' = J ∧ (b = true ↔ ∀ x, x < m → ct (fun u => decide (K 0 u = x)) n = ct (fun u => decide (K 1 u = x)) n)) := by
  refine MX.of hA (by decide) (own := RX3) rfl rfl rfl ?_
  intro X Z hl hY1 hY2 hY3 C hr
  obtain ⟨D0, ca0, ad0⟩ := Y
  dsimp only at hA hY1 hY2 hY3
  subst hY1; subst hY2; subst hY3; subst hl
  show G X 3 Z (QG X Z _) I J 0 [(0, .ref (Z.2.2.1 10 0)), (1, .ref (Z.2.2.1 1 0))] []
  obtain ⟨⟨hn1, hn9⟩, -⟩ := id hv
  refine g_aldn C dX3_paintsAlike_0 rfl ?_
  refine g_get C 10 0 (by decide) (by decide) u3 rfl 4 rfl fX3_21 rfl rfl dX3_paintsAlike_1 ?_
  refine g_iconst C ((nI 0)) dX3_paintsAlike_4 (by decide) ?_
  refine g_callS (As := [.ref (Z.2.2.1 14 0), .int (nI 0)]) (st := []) C (c_fillI hA (k := 14) (r := 0) (n := 18) (by decide) (by decide) (fun _ _ => rfl) (by decide)) wJ7_fill_53178 tJ7_fill_53178 mX3_58 rfl rfl rfl rfl dX3_paintsAlike_5 ?_
  rintro v9 I9 J9 ⟨h91, h92, h93⟩
  rw [h91, h92, h93]
  clear h91 h92 h93 v9 I9 J9
  show G X _ Z _ (sK I 14 (va_up (I 14) 0 (fl (I 14 0) 18 (nI 0)))) J 8 [(0, .ref (Z.2.2.1 10 0)), (1, .ref (Z.2.2.1 1 0))] []
  refine g_iconst C ((nI 0)) dX3_paintsAlike_8 (by decide) ?_
  refine g_istn (lv' := [(2, .int (nI 0)), (0, .ref (Z.2.2.1 10 0)), (1, .ref (Z.2.2.1 1 0))]) C dX3_paintsAlike_9 rfl rfl ?_
  refine g_lv [1, 2, 0] rfl ?_
  exact l_X3_paintsAlike_10 hA C hr hv hc hm hnum (n + 1) 0 _ (by omega) (by omega) (fun x hx => by rw [va_up_self, fl_lt hx]; rfl)
end
section
/-! ===== colours part nothing that a naming joins ===== -/
theorem RK_mono {n : Nat} {lt : Nat → Nat → Prop} (hw : WO lt) {a b : Nat} (ha : thr n a) (h : lt a b) : RK n lt a < RK n lt b := by
  obtain ⟨r, r1, r2, r3, r4⟩ := fst_rep hw (a + 1) a (by omega) ha
  have h1 := RK_up hw r1 r2 r3 r4 (P := fun y => ¬ lt a y) (fun y _ => Iff.rfl)
  have h2 : ∀ m, ct (fun y => dc (thr n y ∧ ¬ lt a y ∧ ∀ z, z < y → thr n z → lt z y ∨ lt y z)) m ≤ ct (fun y => dc (thr n y ∧ lt y b ∧ ∀ z, z < y → thr n z → lt z y ∨ lt y z)) m := by
    intro m
    induction m with
    | zero => exact Nat.le_refl _
    | succ m ih =>
      rw [ct_s, ct_s]
      cases hd : dc (thr n m ∧ ¬ lt a m ∧ ∀ z, z < m → thr n z → lt z m ∨ lt m z) with
      | false => simp; omega
      | true =>
        obtain ⟨q1, q2, q3⟩ := dc_t.mp hd
        have : dc (thr n m ∧ lt m b ∧ ∀ z, z < m → thr n z → lt z m ∨ lt m z) = true := dc_t.mpr ⟨q1, by
          cases hq : dc (lt m b) with
          | true => exact dc_t.mp hq
          | false => exact absurd h (hw.2.2 a m b q2 (fun z => by rw [dc_t.mpr z] at hq; exact absurd hq (by decide))), q3⟩
        rw [this]
        omega
  have := h2 18
  unfold RK at h1 ⊢
  omega
/-- the colours by graph and vertex -/
noncomputable def col (n : Nat) (T : Nat → Nat → Nat) (L : Nat → Nat → Nat → Nat) (k : Nat) : Nat → Nat → Nat := fun g v => cs n T L k (9 * g + v)
theorem cs_fine {n : Nat} {T : Nat → Nat → Nat} {L : Nat → Nat → Nat → Nat} : ∀ k {a b : Nat}, thr n a → thr n b → cs n T L k a = cs n T L k b → T (a / 9) (a % 9) = T (b / 9) (b % 9)
  | 0, a, b, ha, hb, e => by
    rcases Nat.lt_trichotomy (T (a / 9) (a % 9)) (T (b / 9) (b % 9)) with q | q | q
    · have := RK_mono (WO_tlt T) ha (show tlt T a b from q)
      have e2 : RK n (tlt T) a = RK n (tlt T) b := e
      omega
    · exact q
    · have := RK_mono (WO_tlt T) hb (show tlt T b a from q)
      have e2 : RK n (tlt T) a = RK n (tlt T) b := e
      omega
  | k + 1, a, b, ha, hb, e => by
    refine cs_fine (L := L) k ha hb ?_
    have e2 : RK n (slt n L (cs n T L k)) a = RK n (slt n L (cs n T L k)) b := e
    rcases Nat.lt_trichotomy (cs n T L k a) (cs n T L k b) with q | q | q
    · have := RK_mono (WO_slt n L (cs n T L k)) ha (Or.inl q : slt n L (cs n T L k) a b)
      omega
    · exact q
    · have := RK_mono (WO_slt n L (cs n T L k)) hb (Or.inl q : slt n L (cs n T L k) b a)
      omega
theorem tr_nmg {n : Nat} {K : Nat → Nat → Nat} {L : Nat → Nat → Nat → Nat} {g h : Nat} {f : Nat → Nat} (ht : tr n K L g h f n) : nmg n f := by
  refine ⟨fun i hi => (ht i hi).1, fun i j hi hj e => ?_⟩
  rcases Nat.lt_trichotomy i j with q | q | q
  · exact absurd e ((ht j hj).2.1 i q)
  · exact q
  · exact absurd e.symm ((ht i hi).2.1 j q)
theorem tr_l {n : Nat} {K : Nat → Nat → Nat} {L : Nat → Nat → Nat → Nat} {g h : Nat} {f : Nat → Nat} (ht : tr n K L g h f n) {u v : Nat} (hu : u < n) (hv : v < n) (hne : u ≠ v) : L g u v = L h (f u) (f v) := by
  rcases Nat.lt_or_gt_of_ne hne with q | q
  · exact ((ht v hv).2.2.2 u q).2
  · exact ((ht u hu).2.2.2 v q).1
theorem cs_iso {n : Nat} {T : Nat → Nat → Nat} {L : Nat → Nat → Nat → Nat} {g h : Nat} (hn : n ≤ 9) (hg : g < 2) (hh : h < 2) {f : Nat → Nat} (ht : tr n T L g h f n) : ∀ k v, v < n → cs n T L k (9 * g + v) = cs n T L k (9 * h + f v) := by
  have hf := tr_nmg ht
  intro k
  induction k with
  | zero =>
    intro v hv
    have hfv := hf.1 v hv
    have e := (ht v hv).2.2.1
    refine RK_eq (WO_tlt T) ?_ ?_
    · unfold tlt
      rw [show (9 * g + v) / 9 = g by omega, show (9 * g + v) % 9 = v by omega, show (9 * h + f v) / 9 = h by omega, show (9 * h + f v) % 9 = f v by omega]
      omega
    · unfold tlt
      rw [show (9 * g + v) / 9 = g by omega, show (9 * g + v) % 9 = v by omega, show (9 * h + f v) / 9 = h by omega, show (9 * h + f v) % 9 = f v by omega]
      omega
  | succ k ih =>
    intro v hv
    have hfv := hf.1 v hv
    have ec := ih v hv
    have ek : ∀ x, kn n L (cs n T L k) (9 * g + v) x = kn n L (cs n T L k) (9 * h + f v) x := fun x => by
      unfold kn ky1
      rw [show (9 * g + v) / 9 = g by omega, show (9 * g + v) % 9 = v by omega, show (9 * h + f v) / 9 = h by omega, show (9 * h + f v) % 9 = f v by omega]
      rw [← ct_perm n f (fun w => sel 0 (f v) w && decide (pr L h (f v) w * 18 + cs n T L k (9 * h + w) = x)) hf]
      refine ct_congr n (fun w hw => ?_)
      show (sel 0 v w && decide (pr L g v w * 18 + cs n T L k (9 * g + w) = x)) = (sel 0 (f v) (f w) && decide (pr L h (f v) (f w) * 18 + cs n T L k (9 * h + f w) = x))
      by_cases e : w = v
      · rw [sel_v e, sel_v (congrArg f e)]
        rfl
      · rw [sel_t e (Nat.zero_testBit w), sel_t (fun q => e (hf.2 w v hw hv q)) (Nat.zero_testBit _), ih w hw]
        unfold pr
        rw [tr_l ht hv hw (Ne.symm e), tr_l ht hw hv e]
    refine RK_eq (WO_slt n L (cs n T L k)) ?_ ?_
    · rintro (q | ⟨_, x, _, q⟩)
      · omega
      · rw [ek x] at q; omega
    · rintro (q | ⟨_, x, _, q⟩)
      · omega
      · rw [ek x] at q; omega
/-- full namings that fit by colours are those that fit by tints -/
theorem tr_col {n : Nat} {T : Nat → Nat → Nat} {L : Nat → Nat → Nat → Nat} {g h : Nat} (hn : n ≤ 9) (hg : g < 2) (hh : h < 2) (k : Nat) {f : Nat → Nat} : tr n (col n T L k) L g h f n ↔ tr n T L g h f n := by
  constructor
  · intro ht i hi
    obtain ⟨h1, h2, h3, h4⟩ := ht i hi
    refine ⟨h1, h2, ?_, h4⟩
    have e : cs n T L k (9 * g + i) = cs n T L k (9 * h + f i) := h3
    have := cs_fine (T := T) (L := L) k (a := 9 * g + i) (b := 9 * h + f i) ⟨by omega, by omega⟩ ⟨by omega, by omega⟩ e
    rw [show (9 * g + i) / 9 = g by omega, show (9 * g + i) % 9 = i by omega, show (9 * h + f i) / 9 = h by omega, show (9 * h + f i) % 9 = f i by omega] at this
    exact this
  · intro ht i hi
    obtain ⟨h1, h2, _, h4⟩ := ht i hi
    exact ⟨h1, h2, cs_iso hn hg hh ht k i hi, h4⟩
theorem syn_col {n : Nat} {T : Nat → Nat → Nat} {L : Nat → Nat → Nat → Nat} {g : Nat} (hn : n ≤ 9) (hg : g < 2) (k : Nat) {v w : Nat} {f : Nat → Nat} : syn n (col n T L k) L g v w f ↔ syn n T L g v w f := by
  unfold syn
  rw [tr_col hn hg hg k]
theorem sn_col {n : Nat} {T : Nat → Nat → Nat} {L : Nat → Nat → Nat → Nat} {g : Nat} (hn : n ≤ 9) (hg : g < 2) (k : Nat) : ∀ v, sn n (col n T L k) L g v = sn n T L g v
  | 0 => rfl
  | v + 1 => by
    show sn n (col n T L k) L g v * (1 + ct (fun w => dc (v < w ∧ ∃ f, syn n (col n T L k) L g v w f)) n) = sn n T L g v * (1 + ct (fun w => dc (v < w ∧ ∃ f, syn n T L g v w f)) n)
    have e : ct (fun w => dc (v < w ∧ ∃ f, syn n (col n T L k) L g v w f)) n = ct (fun w => dc (v < w ∧ ∃ f, syn n T L g v w f)) n := ct_congr n (fun w _ => dc_congr ⟨fun q => ⟨q.1, q.2.elim (fun f b => ⟨f, (syn_col hn hg k).mp b⟩)⟩, fun q => ⟨q.1, q.2.elim (fun f b => ⟨f, (syn_col hn hg k).mpr b⟩)⟩⟩)
    rw [sn_col hn hg k v, e]
theorem OR_col {n : Nat} {T : Nat → Nat → Nat} {L : Nat → Nat → Nat → Nat} {g : Nat} (hn : n ≤ 9) (hg : g < 2) (k : Nat) {o : Nat → Nat} {D : Nat → Nat → Prop} (h : OR n (col n T L k) L g o D) : OR n T L g o D :=
  ⟨h.1, fun v w h1 h2 h3 ⟨f, h4⟩ => by
    obtain ⟨f2, e1, e2⟩ := h.2.1 v w h1 h2 h3 ⟨f, (syn_col hn hg k).mpr h4⟩
    exact ⟨f2, (syn_col hn hg k).mp e1, e2⟩, fun R hR r1 => h.2.2 R hR (fun f hf => r1 f ((tr_col hn hg hg k).mp hf))⟩
end
