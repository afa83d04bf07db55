section GO
variable {X : Pk} {cc : ByteArray} {nL : Nat} {own : String} {Z : Zk} {fr lo : Nat} {Q : State → Prop} {I : SI} {J : SJ} {pc : Nat} {lv lv' : List (Nat × Value)} {st : List Value}
theorem g_top {x y : Int32} (h : x = y) (k : G X nL Z Q I J pc lv (.int y :: st)) : G X nL Z Q I J pc lv (.int x :: st) := h ▸ k
theorem g_topl {x y : Int64} (h : x = y) (k : G X nL Z Q I J pc lv (.long y :: st)) : G X nL Z Q I J pc lv (.long x :: st) := h ▸ k
theorem g_I {I1 : SI} (h : I = I1) (k : G X nL Z Q I1 J pc lv st) : G X nL Z Q I J pc lv st := h ▸ k
theorem g_J {J1 : SJ} (h : J = J1) (k : G X nL Z Q I J1 pc lv st) : G X nL Z Q I J pc lv st := h ▸ k
theorem g_pc {pc1 : Nat} (h : pc = pc1) (k : G X nL Z Q I J pc1 lv st) : G X nL Z Q I J pc lv st := h ▸ k
theorem g_lv {lv1 : List (Nat × Value)} (is : List Nat) (h : lv_pick lv is = lv1) (k : G X nL Z Q I J pc lv1 st) : G X nL Z Q I J pc lv st := fun H locs ls hP hS hl => k H locs ls hP hS (lv_sub hl is h)
theorem g_iadd (C : Cx X cc nL own Z fr lo) {x y v : Int32} (d : decode cc pc = .ok (.iadd, 1)) (hv : x + y = v) (k : G X nL Z Q I J (pc + 1) lv (.int v :: st)) : G X nL Z Q I J pc lv (.int y :: .int x :: st) :=
  fun H locs ls hP hS hl => lv_iadd C.1 C.2.1 d (by rw [hv]; exact k H locs ls hP hS hl)
theorem g_isub (C : Cx X cc nL own Z fr lo) {x y v : Int32} (d : decode cc pc = .ok (.isub, 1)) (hv : x - y = v) (k : G X nL Z Q I J (pc + 1) lv (.int v :: st)) : G X nL Z Q I J pc lv (.int y :: .int x :: st) :=
  fun H locs ls hP hS hl => lv_isub C.1 C.2.1 d (by rw [hv]; exact k H locs ls hP hS hl)
theorem g_imul (C : Cx X cc nL own Z fr lo) {x y v : Int32} (d : decode cc pc = .ok (.imul, 1)) (hv : x * y = v) (k : G X nL Z Q I J (pc + 1) lv (.int v :: st)) : G X nL Z Q I J pc lv (.int y :: .int x :: st) :=
  fun H locs ls hP hS hl => lv_imul C.1 C.2.1 d (by rw [hv]; exact k H locs ls hP hS hl)
theorem g_iand (C : Cx X cc nL own Z fr lo) {x y v : Int32} (d : decode cc pc = .ok (.iand, 1)) (hv : x &&& y = v) (k : G X nL Z Q I J (pc + 1) lv (.int v :: st)) : G X nL Z Q I J pc lv (.int y :: .int x :: st) :=
  fun H locs ls hP hS hl => lv_iand C.1 C.2.1 d (by rw [hv]; exact k H locs ls hP hS hl)
theorem g_ior (C : Cx X cc nL own Z fr lo) {x y v : Int32} (d : decode cc pc = .ok (.ior, 1)) (hv : x ||| y = v) (k : G X nL Z Q I J (pc + 1) lv (.int v :: st)) : G X nL Z Q I J pc lv (.int y :: .int x :: st) :=
  fun H locs ls hP hS hl => lv_ior C.1 C.2.1 d (by rw [hv]; exact k H locs ls hP hS hl)
theorem g_ixor (C : Cx X cc nL own Z fr lo) {x y v : Int32} (d : decode cc pc = .ok (.ixor, 1)) (hv : x ^^^ y = v) (k : G X nL Z Q I J (pc + 1) lv (.int v :: st)) : G X nL Z Q I J pc lv (.int y :: .int x :: st) :=
  fun H locs ls hP hS hl => lv_ixor C.1 C.2.1 d (by rw [hv]; exact k H locs ls hP hS hl)
theorem g_ladd (C : Cx X cc nL own Z fr lo) {x y v : Int64} (d : decode cc pc = .ok (.ladd, 1)) (hv : x + y = v) (k : G X nL Z Q I J (pc + 1) lv (.long v :: st)) : G X nL Z Q I J pc lv (.long y :: .long x :: st) :=
  fun H locs ls hP hS hl => lv_ladd C.1 C.2.1 d (by rw [hv]; exact k H locs ls hP hS hl)
theorem g_lsub (C : Cx X cc nL own Z fr lo) {x y v : Int64} (d : decode cc pc = .ok (.lsub, 1)) (hv : x - y = v) (k : G X nL Z Q I J (pc + 1) lv (.long v :: st)) : G X nL Z Q I J pc lv (.long y :: .long x :: st) :=
  fun H locs ls hP hS hl => lv_lsub C.1 C.2.1 d (by rw [hv]; exact k H locs ls hP hS hl)
theorem g_lmul (C : Cx X cc nL own Z fr lo) {x y v : Int64} (d : decode cc pc = .ok (.lmul, 1)) (hv : x * y = v) (k : G X nL Z Q I J (pc + 1) lv (.long v :: st)) : G X nL Z Q I J pc lv (.long y :: .long x :: st) :=
  fun H locs ls hP hS hl => lv_lmul C.1 C.2.1 d (by rw [hv]; exact k H locs ls hP hS hl)
theorem g_land (C : Cx X cc nL own Z fr lo) {x y v : Int64} (d : decode cc pc = .ok (.land, 1)) (hv : x &&& y = v) (k : G X nL Z Q I J (pc + 1) lv (.long v :: st)) : G X nL Z Q I J pc lv (.long y :: .long x :: st) :=
  fun H locs ls hP hS hl => lv_land C.1 C.2.1 d (by rw [hv]; exact k H locs ls hP hS hl)
theorem g_lor (C : Cx X cc nL own Z fr lo) {x y v : Int64} (d : decode cc pc = .ok (.lor, 1)) (hv : x ||| y = v) (k : G X nL Z Q I J (pc + 1) lv (.long v :: st)) : G X nL Z Q I J pc lv (.long y :: .long x :: st) :=
  fun H locs ls hP hS hl => lv_lor C.1 C.2.1 d (by rw [hv]; exact k H locs ls hP hS hl)
theorem g_lxor (C : Cx X cc nL own Z fr lo) {x y v : Int64} (d : decode cc pc = .ok (.lxor, 1)) (hv : x ^^^ y = v) (k : G X nL Z Q I J (pc + 1) lv (.long v :: st)) : G X nL Z Q I J pc lv (.long y :: .long x :: st) :=
  fun H locs ls hP hS hl => lv_lxor C.1 C.2.1 d (by rw [hv]; exact k H locs ls hP hS hl)
theorem g_ishl (C : Cx X cc nL own Z fr lo) {x y v : Int32} (d : decode cc pc = .ok (.ishl, 1)) (hv : x <<< (y &&& 31) = v) (k : G X nL Z Q I J (pc + 1) lv (.int v :: st)) : G X nL Z Q I J pc lv (.int y :: .int x :: st) :=
  fun H locs ls hP hS hl => lv_ishl C.1 C.2.1 d (by rw [hv]; exact k H locs ls hP hS hl)
theorem g_ishr (C : Cx X cc nL own Z fr lo) {x y v : Int32} (d : decode cc pc = .ok (.ishr, 1)) (hv : x >>> (y &&& 31) = v) (k : G X nL Z Q I J (pc + 1) lv (.int v :: st)) : G X nL Z Q I J pc lv (.int y :: .int x :: st) :=
  fun H locs ls hP hS hl => lv_ishr C.1 C.2.1 d (by rw [hv]; exact k H locs ls hP hS hl)
theorem g_lshl (C : Cx X cc nL own Z fr lo) {x v : Int64} {y : Int32} (d : decode cc pc = .ok (.lshl, 1)) (hv : x <<< (y.toInt64 &&& 63) = v) (k : G X nL Z Q I J (pc + 1) lv (.long v :: st)) : G X nL Z Q I J pc lv (.int y :: .long x :: st) :=
  fun H locs ls hP hS hl => lv_lshl C.1 C.2.1 d hv (k H locs ls hP hS hl)
theorem g_lshr (C : Cx X cc nL own Z fr lo) {x v : Int64} {y : Int32} (d : decode cc pc = .ok (.lshr, 1)) (hv : x >>> (y.toInt64 &&& 63) = v) (k : G X nL Z Q I J (pc + 1) lv (.long v :: st)) : G X nL Z Q I J pc lv (.int y :: .long x :: st) :=
  fun H locs ls hP hS hl => lv_lshr C.1 C.2.1 d hv (k H locs ls hP hS hl)
theorem g_idiv (C : Cx X cc nL own Z fr lo) {x y v : Int32} (d : decode cc pc = .ok (.idiv, 1)) (hne : ¬ y = 0) (hv : x / y = v) (k : G X nL Z Q I J (pc + 1) lv (.int v :: st)) : G X nL Z Q I J pc lv (.int y :: .int x :: st) :=
  fun H locs ls hP hS hl => lv_idiv C.1 C.2.1 d hne (by rw [hv]; exact k H locs ls hP hS hl)
theorem g_irem (C : Cx X cc nL own Z fr lo) {x y v : Int32} (d : decode cc pc = .ok (.irem, 1)) (hne : ¬ y = 0) (hv : x - x / y * y = v) (k : G X nL Z Q I J (pc + 1) lv (.int v :: st)) : G X nL Z Q I J pc lv (.int y :: .int x :: st) :=
  fun H locs ls hP hS hl => lv_irem C.1 C.2.1 d hne (by rw [hv]; exact k H locs ls hP hS hl)
theorem g_i2l (C : Cx X cc nL own Z fr lo) {x : Int32} {v : Int64} (d : decode cc pc = .ok (.i2l, 1)) (hv : x.toInt64 = v) (k : G X nL Z Q I J (pc + 1) lv (.long v :: st)) : G X nL Z Q I J pc lv (.int x :: st) :=
  fun H locs ls hP hS hl => lv_i2l C.1 C.2.1 d hv (k H locs ls hP hS hl)
theorem g_l2i (C : Cx X cc nL own Z fr lo) {x : Int64} {v : Int32} (d : decode cc pc = .ok (.l2i, 1)) (hv : x.toInt32 = v) (k : G X nL Z Q I J (pc + 1) lv (.int v :: st)) : G X nL Z Q I J pc lv (.long x :: st) :=
  fun H locs ls hP hS hl => lv_l2i C.1 C.2.1 d hv (k H locs ls hP hS hl)
theorem g_lcmp (C : Cx X cc nL own Z fr lo) {x y : Int64} {v : Int32} (d : decode cc pc = .ok (.lcmp, 1)) (hv : lg_cmp x y = v) (k : G X nL Z Q I J (pc + 1) lv (.int v :: st)) : G X nL Z Q I J pc lv (.long y :: .long x :: st) :=
  fun H locs ls hP hS hl => W.lcmp C.1 C.2.1 d (by rw [hv]; exact k H locs ls hP hS hl)
theorem g_dup (C : Cx X cc nL own Z fr lo) {a : Value} (d : decode cc pc = .ok (.dup, 1)) (ha : a.category = 1) (k : G X nL Z Q I J (pc + 1) lv (a :: a :: st)) : G X nL Z Q I J pc lv (a :: st) := fun H locs ls hP hS hl => lv_dup C.1 C.2.1 d ha (k H locs ls hP hS hl)
theorem g_pop (C : Cx X cc nL own Z fr lo) {a : Value} (d : decode cc pc = .ok (.pop, 1)) (ha : a.category = 1) (k : G X nL Z Q I J (pc + 1) lv st) : G X nL Z Q I J pc lv (a :: st) := fun H locs ls hP hS hl => lv_pop C.1 C.2.1 d ha (k H locs ls hP hS hl)
theorem g_dup2 (C : Cx X cc nL own Z fr lo) {a b : Value} (d : decode cc pc = .ok (.dup2, 1)) (ha : a.category = 1) (hb : b.category = 1) (k : G X nL Z Q I J (pc + 1) lv (a :: b :: a :: b :: st)) : G X nL Z Q I J pc lv (a :: b :: st) := fun H locs ls hP hS hl => lv_dup2_11 C.1 C.2.1 d ha hb (k H locs ls hP hS hl)
theorem g_dup_x1 (C : Cx X cc nL own Z fr lo) {a b : Value} (d : decode cc pc = .ok (.dup_x1, 1)) (ha : a.category = 1) (hb : b.category = 1) (k : G X nL Z Q I J (pc + 1) lv (a :: b :: a :: st)) : G X nL Z Q I J pc lv (a :: b :: st) := fun H locs ls hP hS hl => lv_dup_x1 C.1 C.2.1 d ha hb (k H locs ls hP hS hl)
theorem g_goto (C : Cx X cc nL own Z fr lo) {off : Int} {tgt : Nat} (d : decode cc pc = .ok (.goto off, 3)) (ht : (pc : Int) + off = (tgt : Int)) (k : G X nL Z Q I J tgt lv st) : G X nL Z Q I J pc lv st := fun H locs ls hP hS hl => lv_goto C.1 C.2.1 d ht (k H locs ls hP hS hl)
theorem g_icmp_eq (C : Cx X cc nL own Z fr lo) {x y : Int32} {off : Int} {tgt : Nat} (d : decode cc pc = .ok (.if_icmp .eq off, 3)) (ht : (pc : Int) + off = (tgt : Int)) (kt : x = y → G X nL Z Q I J tgt lv st) (kf : ¬ x = y → G X nL Z Q I J (pc + 3) lv st) : G X nL Z Q I J pc lv (.int y :: .int x :: st) :=
  fun H locs ls hP hS hl => lv_icmp_eq C.1 C.2.1 d ht (fun h => kt (by first | exact h | exact Decidable.of_not_not h) H locs ls hP hS hl) (fun h => kf (by first | exact h | exact Decidable.of_not_not h) H locs ls hP hS hl)
theorem g_if_eq (C : Cx X cc nL own Z fr lo) {x : Int32} {off : Int} {tgt : Nat} (d : decode cc pc = .ok (.ifCond .eq off, 3)) (ht : (pc : Int) + off = (tgt : Int)) (kt : x = 0 → G X nL Z Q I J tgt lv st) (kf : ¬ x = 0 → G X nL Z Q I J (pc + 3) lv st) : G X nL Z Q I J pc lv (.int x :: st) :=
  fun H locs ls hP hS hl => lv_if_eq C.1 C.2.1 d ht (fun h => kt (by first | exact h | exact Decidable.of_not_not h) H locs ls hP hS hl) (fun h => kf (by first | exact h | exact Decidable.of_not_not h) H locs ls hP hS hl)
theorem g_icmp_ne (C : Cx X cc nL own Z fr lo) {x y : Int32} {off : Int} {tgt : Nat} (d : decode cc pc = .ok (.if_icmp .ne off, 3)) (ht : (pc : Int) + off = (tgt : Int)) (kt : ¬ x = y → G X nL Z Q I J tgt lv st) (kf : x = y → G X nL Z Q I J (pc + 3) lv st) : G X nL Z Q I J pc lv (.int y :: .int x :: st) :=
  fun H locs ls hP hS hl => lv_icmp_ne C.1 C.2.1 d ht (fun h => kt (by first | exact h | exact Decidable.of_not_not h) H locs ls hP hS hl) (fun h => kf (by first | exact h | exact Decidable.of_not_not h) H locs ls hP hS hl)
theorem g_if_ne (C : Cx X cc nL own Z fr lo) {x : Int32} {off : Int} {tgt : Nat} (d : decode cc pc = .ok (.ifCond .ne off, 3)) (ht : (pc : Int) + off = (tgt : Int)) (kt : ¬ x = 0 → G X nL Z Q I J tgt lv st) (kf : x = 0 → G X nL Z Q I J (pc + 3) lv st) : G X nL Z Q I J pc lv (.int x :: st) :=
  fun H locs ls hP hS hl => lv_if_ne C.1 C.2.1 d ht (fun h => kt (by first | exact h | exact Decidable.of_not_not h) H locs ls hP hS hl) (fun h => kf (by first | exact h | exact Decidable.of_not_not h) H locs ls hP hS hl)
theorem g_icmp_lt (C : Cx X cc nL own Z fr lo) {x y : Int32} {off : Int} {tgt : Nat} (d : decode cc pc = .ok (.if_icmp .lt off, 3)) (ht : (pc : Int) + off = (tgt : Int)) (kt : x < y → G X nL Z Q I J tgt lv st) (kf : ¬ x < y → G X nL Z Q I J (pc + 3) lv st) : G X nL Z Q I J pc lv (.int y :: .int x :: st) :=
  fun H locs ls hP hS hl => lv_icmp_lt C.1 C.2.1 d ht (fun h => kt (by first | exact h | exact Decidable.of_not_not h) H locs ls hP hS hl) (fun h => kf (by first | exact h | exact Decidable.of_not_not h) H locs ls hP hS hl)
theorem g_if_lt (C : Cx X cc nL own Z fr lo) {x : Int32} {off : Int} {tgt : Nat} (d : decode cc pc = .ok (.ifCond .lt off, 3)) (ht : (pc : Int) + off = (tgt : Int)) (kt : x < 0 → G X nL Z Q I J tgt lv st) (kf : ¬ x < 0 → G X nL Z Q I J (pc + 3) lv st) : G X nL Z Q I J pc lv (.int x :: st) :=
  fun H locs ls hP hS hl => lv_if_lt C.1 C.2.1 d ht (fun h => kt (by first | exact h | exact Decidable.of_not_not h) H locs ls hP hS hl) (fun h => kf (by first | exact h | exact Decidable.of_not_not h) H locs ls hP hS hl)
theorem g_icmp_ge (C : Cx X cc nL own Z fr lo) {x y : Int32} {off : Int} {tgt : Nat} (d : decode cc pc = .ok (.if_icmp .ge off, 3)) (ht : (pc : Int) + off = (tgt : Int)) (kt : y ≤ x → G X nL Z Q I J tgt lv st) (kf : ¬ y ≤ x → G X nL Z Q I J (pc + 3) lv st) : G X nL Z Q I J pc lv (.int y :: .int x :: st) :=
  fun H locs ls hP hS hl => lv_icmp_ge C.1 C.2.1 d ht (fun h => kt (by first | exact h | exact Decidable.of_not_not h) H locs ls hP hS hl) (fun h => kf (by first | exact h | exact Decidable.of_not_not h) H locs ls hP hS hl)
theorem g_if_ge (C : Cx X cc nL own Z fr lo) {x : Int32} {off : Int} {tgt : Nat} (d : decode cc pc = .ok (.ifCond .ge off, 3)) (ht : (pc : Int) + off = (tgt : Int)) (kt : 0 ≤ x → G X nL Z Q I J tgt lv st) (kf : ¬ 0 ≤ x → G X nL Z Q I J (pc + 3) lv st) : G X nL Z Q I J pc lv (.int x :: st) :=
  fun H locs ls hP hS hl => lv_if_ge C.1 C.2.1 d ht (fun h => kt (by first | exact h | exact Decidable.of_not_not h) H locs ls hP hS hl) (fun h => kf (by first | exact h | exact Decidable.of_not_not h) H locs ls hP hS hl)
theorem g_icmp_gt (C : Cx X cc nL own Z fr lo) {x y : Int32} {off : Int} {tgt : Nat} (d : decode cc pc = .ok (.if_icmp .gt off, 3)) (ht : (pc : Int) + off = (tgt : Int)) (kt : y < x → G X nL Z Q I J tgt lv st) (kf : ¬ y < x → G X nL Z Q I J (pc + 3) lv st) : G X nL Z Q I J pc lv (.int y :: .int x :: st) :=
  fun H locs ls hP hS hl => lv_icmp_gt C.1 C.2.1 d ht (fun h => kt (by first | exact h | exact Decidable.of_not_not h) H locs ls hP hS hl) (fun h => kf (by first | exact h | exact Decidable.of_not_not h) H locs ls hP hS hl)
theorem g_if_gt (C : Cx X cc nL own Z fr lo) {x : Int32} {off : Int} {tgt : Nat} (d : decode cc pc = .ok (.ifCond .gt off, 3)) (ht : (pc : Int) + off = (tgt : Int)) (kt : 0 < x → G X nL Z Q I J tgt lv st) (kf : ¬ 0 < x → G X nL Z Q I J (pc + 3) lv st) : G X nL Z Q I J pc lv (.int x :: st) :=
  fun H locs ls hP hS hl => lv_if_gt C.1 C.2.1 d ht (fun h => kt (by first | exact h | exact Decidable.of_not_not h) H locs ls hP hS hl) (fun h => kf (by first | exact h | exact Decidable.of_not_not h) H locs ls hP hS hl)
theorem g_icmp_le (C : Cx X cc nL own Z fr lo) {x y : Int32} {off : Int} {tgt : Nat} (d : decode cc pc = .ok (.if_icmp .le off, 3)) (ht : (pc : Int) + off = (tgt : Int)) (kt : x ≤ y → G X nL Z Q I J tgt lv st) (kf : ¬ x ≤ y → G X nL Z Q I J (pc + 3) lv st) : G X nL Z Q I J pc lv (.int y :: .int x :: st) :=
  fun H locs ls hP hS hl => lv_icmp_le C.1 C.2.1 d ht (fun h => kt (by first | exact h | exact Decidable.of_not_not h) H locs ls hP hS hl) (fun h => kf (by first | exact h | exact Decidable.of_not_not h) H locs ls hP hS hl)
theorem g_if_le (C : Cx X cc nL own Z fr lo) {x : Int32} {off : Int} {tgt : Nat} (d : decode cc pc = .ok (.ifCond .le off, 3)) (ht : (pc : Int) + off = (tgt : Int)) (kt : x ≤ 0 → G X nL Z Q I J tgt lv st) (kf : ¬ x ≤ 0 → G X nL Z Q I J (pc + 3) lv st) : G X nL Z Q I J pc lv (.int x :: st) :=
  fun H locs ls hP hS hl => lv_if_le C.1 C.2.1 d ht (fun h => kt (by first | exact h | exact Decidable.of_not_not h) H locs ls hP hS hl) (fun h => kf (by first | exact h | exact Decidable.of_not_not h) H locs ls hP hS hl)
theorem n_icmp_eq (C : Cx X cc nL own Z fr lo) {a b : Nat} {off : Int} {tgt : Nat} (d : decode cc pc = .ok (.if_icmp .eq off, 3)) (ht : (pc : Int) + off = (tgt : Int)) (ha : a < 2 ^ 31) (hb : b < 2 ^ 31) (kt : a = b → G X nL Z Q I J tgt lv st) (kf : a ≠ b → G X nL Z Q I J (pc + 3) lv st) : G X nL Z Q I J pc lv (.int (nI b) :: .int (nI a) :: st) :=
  g_icmp_eq C d ht (fun h => kt ((nI_eq ha hb).mp h)) (fun h => kf (fun e => h ((nI_eq ha hb).mpr e)))
theorem n_if_eq (C : Cx X cc nL own Z fr lo) {a : Nat} {off : Int} {tgt : Nat} (d : decode cc pc = .ok (.ifCond .eq off, 3)) (ht : (pc : Int) + off = (tgt : Int)) (ha : a < 2 ^ 31) (kt : a = 0 → G X nL Z Q I J tgt lv st) (kf : a ≠ 0 → G X nL Z Q I J (pc + 3) lv st) : G X nL Z Q I J pc lv (.int (nI a) :: st) := by
  have hb : 0 < 2 ^ 31 := by decide
  exact g_if_eq C d ht (fun h => kt ((nI_eq ha hb).mp h)) (fun h => kf (fun e => h ((nI_eq ha hb).mpr e)))
theorem n_icmp_ne (C : Cx X cc nL own Z fr lo) {a b : Nat} {off : Int} {tgt : Nat} (d : decode cc pc = .ok (.if_icmp .ne off, 3)) (ht : (pc : Int) + off = (tgt : Int)) (ha : a < 2 ^ 31) (hb : b < 2 ^ 31) (kt : a ≠ b → G X nL Z Q I J tgt lv st) (kf : a = b → G X nL Z Q I J (pc + 3) lv st) : G X nL Z Q I J pc lv (.int (nI b) :: .int (nI a) :: st) :=
  g_icmp_ne C d ht (fun h => kt (fun e => h ((nI_eq ha hb).mpr e))) (fun h => kf ((nI_eq ha hb).mp h))
theorem n_if_ne (C : Cx X cc nL own Z fr lo) {a : Nat} {off : Int} {tgt : Nat} (d : decode cc pc = .ok (.ifCond .ne off, 3)) (ht : (pc : Int) + off = (tgt : Int)) (ha : a < 2 ^ 31) (kt : a ≠ 0 → G X nL Z Q I J tgt lv st) (kf : a = 0 → G X nL Z Q I J (pc + 3) lv st) : G X nL Z Q I J pc lv (.int (nI a) :: st) := by
  have hb : 0 < 2 ^ 31 := by decide
  exact g_if_ne C d ht (fun h => kt (fun e => h ((nI_eq ha hb).mpr e))) (fun h => kf ((nI_eq ha hb).mp h))
theorem n_icmp_lt (C : Cx X cc nL own Z fr lo) {a b : Nat} {off : Int} {tgt : Nat} (d : decode cc pc = .ok (.if_icmp .lt off, 3)) (ht : (pc : Int) + off = (tgt : Int)) (ha : a < 2 ^ 31) (hb : b < 2 ^ 31) (kt : a < b → G X nL Z Q I J tgt lv st) (kf : b ≤ a → G X nL Z Q I J (pc + 3) lv st) : G X nL Z Q I J pc lv (.int (nI b) :: .int (nI a) :: st) :=
  g_icmp_lt C d ht (fun h => kt ((nI_ltI ha hb).mp h)) (fun h => kf (Nat.le_of_not_lt (fun e => h ((nI_ltI ha hb).mpr e))))
theorem n_if_lt (C : Cx X cc nL own Z fr lo) {a : Nat} {off : Int} {tgt : Nat} (d : decode cc pc = .ok (.ifCond .lt off, 3)) (ht : (pc : Int) + off = (tgt : Int)) (ha : a < 2 ^ 31) (kt : a < 0 → G X nL Z Q I J tgt lv st) (kf : 0 ≤ a → G X nL Z Q I J (pc + 3) lv st) : G X nL Z Q I J pc lv (.int (nI a) :: st) := by
  have hb : 0 < 2 ^ 31 := by decide
  exact g_if_lt C d ht (fun h => kt ((nI_ltI ha hb).mp h)) (fun h => kf (Nat.le_of_not_lt (fun e => h ((nI_ltI ha hb).mpr e))))
theorem n_icmp_ge (C : Cx X cc nL own Z fr lo) {a b : Nat} {off : Int} {tgt : Nat} (d : decode cc pc = .ok (.if_icmp .ge off, 3)) (ht : (pc : Int) + off = (tgt : Int)) (ha : a < 2 ^ 31) (hb : b < 2 ^ 31) (kt : b ≤ a → G X nL Z Q I J tgt lv st) (kf : a < b → G X nL Z Q I J (pc + 3) lv st) : G X nL Z Q I J pc lv (.int (nI b) :: .int (nI a) :: st) :=
  g_icmp_ge C d ht (fun h => kt ((nI_leI hb ha).mp h)) (fun h => kf (Nat.lt_of_not_le (fun e => h ((nI_leI hb ha).mpr e))))
theorem n_if_ge (C : Cx X cc nL own Z fr lo) {a : Nat} {off : Int} {tgt : Nat} (d : decode cc pc = .ok (.ifCond .ge off, 3)) (ht : (pc : Int) + off = (tgt : Int)) (ha : a < 2 ^ 31) (kt : 0 ≤ a → G X nL Z Q I J tgt lv st) (kf : a < 0 → G X nL Z Q I J (pc + 3) lv st) : G X nL Z Q I J pc lv (.int (nI a) :: st) := by
  have hb : 0 < 2 ^ 31 := by decide
  exact g_if_ge C d ht (fun h => kt ((nI_leI hb ha).mp h)) (fun h => kf (Nat.lt_of_not_le (fun e => h ((nI_leI hb ha).mpr e))))
theorem n_icmp_gt (C : Cx X cc nL own Z fr lo) {a b : Nat} {off : Int} {tgt : Nat} (d : decode cc pc = .ok (.if_icmp .gt off, 3)) (ht : (pc : Int) + off = (tgt : Int)) (ha : a < 2 ^ 31) (hb : b < 2 ^ 31) (kt : b < a → G X nL Z Q I J tgt lv st) (kf : a ≤ b → G X nL Z Q I J (pc + 3) lv st) : G X nL Z Q I J pc lv (.int (nI b) :: .int (nI a) :: st) :=
  g_icmp_gt C d ht (fun h => kt ((nI_ltI hb ha).mp h)) (fun h => kf (Nat.le_of_not_lt (fun e => h ((nI_ltI hb ha).mpr e))))
theorem n_if_gt (C : Cx X cc nL own Z fr lo) {a : Nat} {off : Int} {tgt : Nat} (d : decode cc pc = .ok (.ifCond .gt off, 3)) (ht : (pc : Int) + off = (tgt : Int)) (ha : a < 2 ^ 31) (kt : 0 < a → G X nL Z Q I J tgt lv st) (kf : a ≤ 0 → G X nL Z Q I J (pc + 3) lv st) : G X nL Z Q I J pc lv (.int (nI a) :: st) := by
  have hb : 0 < 2 ^ 31 := by decide
  exact g_if_gt C d ht (fun h => kt ((nI_ltI hb ha).mp h)) (fun h => kf (Nat.le_of_not_lt (fun e => h ((nI_ltI hb ha).mpr e))))
theorem n_icmp_le (C : Cx X cc nL own Z fr lo) {a b : Nat} {off : Int} {tgt : Nat} (d : decode cc pc = .ok (.if_icmp .le off, 3)) (ht : (pc : Int) + off = (tgt : Int)) (ha : a < 2 ^ 31) (hb : b < 2 ^ 31) (kt : a ≤ b → G X nL Z Q I J tgt lv st) (kf : b < a → G X nL Z Q I J (pc + 3) lv st) : G X nL Z Q I J pc lv (.int (nI b) :: .int (nI a) :: st) :=
  g_icmp_le C d ht (fun h => kt ((nI_leI ha hb).mp h)) (fun h => kf (Nat.lt_of_not_le (fun e => h ((nI_leI ha hb).mpr e))))
theorem n_if_le (C : Cx X cc nL own Z fr lo) {a : Nat} {off : Int} {tgt : Nat} (d : decode cc pc = .ok (.ifCond .le off, 3)) (ht : (pc : Int) + off = (tgt : Int)) (ha : a < 2 ^ 31) (kt : a ≤ 0 → G X nL Z Q I J tgt lv st) (kf : 0 < a → G X nL Z Q I J (pc + 3) lv st) : G X nL Z Q I J pc lv (.int (nI a) :: st) := by
  have hb : 0 < 2 ^ 31 := by decide
  exact g_if_le C d ht (fun h => kt ((nI_leI ha hb).mp h)) (fun h => kf (Nat.lt_of_not_le (fun e => h ((nI_leI ha hb).mpr e))))
def bI (p : Bool) : Int32 := if p then 1 else 0
theorem bI_t : bI true = 1 := rfl
theorem bI_f : bI false = 0 := rfl
theorem b_if_eq (C : Cx X cc nL own Z fr lo) {p : Bool} {off : Int} {tgt : Nat} (d : decode cc pc = .ok (.ifCond .eq off, 3)) (ht : (pc : Int) + off = (tgt : Int)) (kt : p = false → G X nL Z Q I J tgt lv st) (kf : p = true → G X nL Z Q I J (pc + 3) lv st) : G X nL Z Q I J pc lv (.int (bI p) :: st) := by
  cases p with
  | true => exact g_if_eq C d ht (fun h => absurd h (by decide)) (fun _ => kf rfl)
  | false => exact g_if_eq C d ht (fun _ => kt rfl) (fun h => absurd rfl h)
theorem b_if_ne (C : Cx X cc nL own Z fr lo) {p : Bool} {off : Int} {tgt : Nat} (d : decode cc pc = .ok (.ifCond .ne off, 3)) (ht : (pc : Int) + off = (tgt : Int)) (kt : p = true → G X nL Z Q I J tgt lv st) (kf : p = false → G X nL Z Q I J (pc + 3) lv st) : G X nL Z Q I J pc lv (.int (bI p) :: st) := by
  cases p with
  | true => exact g_if_ne C d ht (fun _ => kt rfl) (fun h => absurd h (by decide))
  | false => exact g_if_ne C d ht (fun h => absurd rfl h) (fun _ => kf rfl)
theorem g_ldc2 (C : Cx X cc nL own Z fr lo) {index : Nat} {v : Int64} (hc : Cond.constantLong own index v ∈ wsC) (d : decode cc pc = .ok (.ldc2_w index, 3)) (k : G X nL Z Q I J (pc + 3) lv (.long v :: st)) : G X nL Z Q I J pc lv st :=
  fun H locs ls hP hS hl => lv_ldc2 C.1 C.2.1 C.2.2.2.1 (C.2.2.2.2.1 _ hc) d (k H locs ls hP hS hl)
theorem g_iald (C : Cx X cc nL own Z fr lo) (k r : Nat) (hk : k < 38) (hr : r < cnt k) {n : Nat} (hs : ∀ f g, SSr Z.2.1 Z.2.2.1 k r f g = .inl (Z.2.1 0, n, .inl f)) (i : Nat) (hi : i < n) (hn : Nat.ble n 1000 = true) (d : decode cc pc = .ok (.iaload, 1)) {v : Int32} (hv : I k r i = v) (kk : G X nL Z Q I J (pc + 1) lv (.int v :: st)) : G X nL Z Q I J pc lv (.int (nI i) :: .ref (Z.2.2.1 k r) :: st) := by
  intro H locs ls hP hS hl
  obtain ⟨q, hq⟩ := wl_get hk hr
  have hn2 := Nat.ble_eq.mp hn
  have ha := wl_at (ca := Z.2.1) (ad := Z.2.2.1) (I := I) (J := J) hq
  dsimp only at ha
  rw [hs] at ha
  refine va_iald C.1 C.2.1 C.2.2.2.2.2.1.1 hP q 0 ha rfl (vp_in_nI hi (by omega)) d ?_
  rw [nI_clamp (show i < 2 ^ 31 by omega), hv]
  exact kk H locs ls hP hS hl
theorem g_lald (C : Cx X cc nL own Z fr lo) (k r : Nat) (hk : k < 38) (hr : r < cnt k) {n : Nat} (hs : ∀ f g, SSr Z.2.1 Z.2.2.1 k r f g = .inl (Z.2.1 1, n, .inr (.inl g))) (i : Nat) (hi : i < n) (hn : Nat.ble n 1000 = true) (d : decode cc pc = .ok (.laload, 1)) {v : Int64} (hv : J k r i = v) (kk : G X nL Z Q I J (pc + 1) lv (.long v :: st)) : G X nL Z Q I J pc lv (.int (nI i) :: .ref (Z.2.2.1 k r) :: st) := by
  intro H locs ls hP hS hl
  obtain ⟨q, hq⟩ := wl_get hk hr
  have hn2 := Nat.ble_eq.mp hn
  have ha := wl_at (ca := Z.2.1) (ad := Z.2.2.1) (I := I) (J := J) hq
  dsimp only at ha
  rw [hs] at ha
  refine va_lald C.1 C.2.1 C.2.2.2.2.2.1.1 hP q 1 ha rfl (vp_in_nI hi (by omega)) d ?_
  rw [nI_clamp (show i < 2 ^ 31 by omega), hv]
  exact kk H locs ls hP hS hl
theorem g_zald (C : Cx X cc nL own Z fr lo) (k r : Nat) (hk : k < 38) (hr : r < cnt k) {n : Nat} (hs : ∀ f g, SSr Z.2.1 Z.2.2.1 k r f g = .inl (Z.2.1 5, n, .inl f)) (i : Nat) (hi : i < n) (hn : Nat.ble n 1000 = true) (d : decode cc pc = .ok (.baload, 1)) {v : Int32} (hv : I k r i = v) (kk : G X nL Z Q I J (pc + 1) lv (.int v :: st)) : G X nL Z Q I J pc lv (.int (nI i) :: .ref (Z.2.2.1 k r) :: st) := by
  intro H locs ls hP hS hl
  obtain ⟨q, hq⟩ := wl_get hk hr
  have hn2 := Nat.ble_eq.mp hn
  have ha := wl_at (ca := Z.2.1) (ad := Z.2.2.1) (I := I) (J := J) hq
  dsimp only at ha
  rw [hs] at ha
  refine va_zald C.1 C.2.1 C.2.2.2.2.2.1.1 hP q 5 ha rfl (vp_in_nI hi (by omega)) d ?_
  rw [nI_clamp (show i < 2 ^ 31 by omega), hv]
  exact kk H locs ls hP hS hl
theorem g_iast (C : Cx X cc nL own Z fr lo) (k r : Nat) (hk : k < 38) (hr : r < cnt k) {n : Nat} (hs : ∀ f g, SSr Z.2.1 Z.2.2.1 k r f g = .inl (Z.2.1 0, n, .inl f)) (i : Nat) (hi : i < n) (hn : Nat.ble n 1000 = true) {x : Int32} (d : decode cc pc = .ok (.iastore, 1)) (kk : G X nL Z Q (sK I k (up2 (I k) r i x)) J (pc + 1) lv st) : G X nL Z Q I J pc lv (.int x :: .int (nI i) :: .ref (Z.2.2.1 k r) :: st) := by
  intro H locs ls hP hS hl
  obtain ⟨q, hq⟩ := wl_get hk hr
  have hn2 := Nat.ble_eq.mp hn
  have ha := wl_at (ca := Z.2.1) (ad := Z.2.2.1) (I := I) (J := J) hq
  dsimp only at ha
  rw [hs] at ha
  refine va_iast C.1 C.2.1 C.2.2.2.2.2.1.1 hP (C.2.2.2.2.2.2.1.toD _ _ _) hS q 0 ha rfl (vp_in_nI hi (by omega)) d (fun H1 locs1 hP1 _ hS1 => ?_)
  rw [nI_clamp (show i < 2 ^ 31 by omega), upd_va] at hP1
  exact kk H1 locs1 ls (by rw [← wl_setI hq, hs]; exact hP1) hS1 hl
theorem g_last (C : Cx X cc nL own Z fr lo) (k r : Nat) (hk : k < 38) (hr : r < cnt k) {n : Nat} (hs : ∀ f g, SSr Z.2.1 Z.2.2.1 k r f g = .inl (Z.2.1 1, n, .inr (.inl g))) (i : Nat) (hi : i < n) (hn : Nat.ble n 1000 = true) {x : Int64} (d : decode cc pc = .ok (.lastore, 1)) (kk : G X nL Z Q I (sK J k (up2 (J k) r i x)) (pc + 1) lv st) : G X nL Z Q I J pc lv (.long x :: .int (nI i) :: .ref (Z.2.2.1 k r) :: st) := by
  intro H locs ls hP hS hl
  obtain ⟨q, hq⟩ := wl_get hk hr
  have hn2 := Nat.ble_eq.mp hn
  have ha := wl_at (ca := Z.2.1) (ad := Z.2.2.1) (I := I) (J := J) hq
  dsimp only at ha
  rw [hs] at ha
  refine va_last C.1 C.2.1 C.2.2.2.2.2.1.1 hP (C.2.2.2.2.2.2.1.toD _ _ _) hS q 1 ha rfl (vp_in_nI hi (by omega)) d (fun H1 locs1 hP1 _ hS1 => ?_)
  rw [nI_clamp (show i < 2 ^ 31 by omega), updL_va] at hP1
  exact kk H1 locs1 ls (by rw [← wl_setJ hq, hs]; exact hP1) hS1 hl
theorem g_zast (C : Cx X cc nL own Z fr lo) (k r : Nat) (hk : k < 38) (hr : r < cnt k) {n : Nat} (hs : ∀ f g, SSr Z.2.1 Z.2.2.1 k r f g = .inl (Z.2.1 5, n, .inl f)) (i : Nat) (hi : i < n) (hn : Nat.ble n 1000 = true) {x : Int32} (hx : vp_nar .boolean x = x) (d : decode cc pc = .ok (.bastore, 1)) (kk : G X nL Z Q (sK I k (up2 (I k) r i x)) J (pc + 1) lv st) : G X nL Z Q I J pc lv (.int x :: .int (nI i) :: .ref (Z.2.2.1 k r) :: st) := by
  intro H locs ls hP hS hl
  obtain ⟨q, hq⟩ := wl_get hk hr
  have hn2 := Nat.ble_eq.mp hn
  have ha := wl_at (ca := Z.2.1) (ad := Z.2.2.1) (I := I) (J := J) hq
  dsimp only at ha
  rw [hs] at ha
  refine va_zast C.1 C.2.1 C.2.2.2.2.2.1.1 hP (C.2.2.2.2.2.2.1.toD _ _ _) hS q 5 ha rfl (vp_in_nI hi (by omega)) d (fun H1 locs1 hP1 _ hS1 => ?_)
  rw [nI_clamp (show i < 2 ^ 31 by omega), hx, upd_va] at hP1
  exact kk H1 locs1 ls (by rw [← wl_setI hq, hs]; exact hP1) hS1 hl
theorem g_aald (C : Cx X cc nL own Z fr lo) (k r t : Nat) (hk : k < 38) (hr : r < cnt k) {n : Nat} {h : Nat → Nat} {ty : FieldType} {cA : ClassId} (hs : ∀ f g, SSr Z.2.1 Z.2.2.1 k r f g = aR cA n h) (ht : (tysC Z.2.1)[t]? = some (cA, ty)) (hty : ty.isReference = true) (i : Nat) (hi : i < n) (hn : Nat.ble n 1000 = true) (d : decode cc pc = .ok (.aaload, 1)) (kk : G X nL Z Q I J (pc + 1) lv (.ref (h i) :: st)) : G X nL Z Q I J pc lv (.int (nI i) :: .ref (Z.2.2.1 k r) :: st) := by
  intro H locs ls hP hS hl
  obtain ⟨q, hq⟩ := wl_get hk hr
  have hn2 := Nat.ble_eq.mp hn
  have ha := wl_at (ca := Z.2.1) (ad := Z.2.2.1) (I := I) (J := J) hq
  dsimp only at ha
  rw [hs] at ha
  have hin : vp_in (nI i) n := vp_in_nI hi (by omega)
  have hc := nI_clamp (show i < 2 ^ 31 by omega)
  refine W.aald (v := va_rf (rfs n h i)) (ty := ty) C.1 C.2.1 (hP q _ ha) ((C.2.2.2.2.2.1.1.2 t _ ht).1 n (fun j => va_rf (rfs n h j))) hty (fun q => by cases q) (by show ¬ (nI i < 0 ∨ (arrV _ _ _).slots.size ≤ _); rw [arrV_size]; exact hin) (by show (arrV _ _ _).slots[_]? = _; rw [hc, arrV_read _ _ hi]) rfl rfl d ?_
  rw [rfs_at hi]
  exact kk H locs ls hP hS hl
theorem g_get (C : Cx X cc nL own Z fr lo) (k r : Nat) (hk : k < 38) (hr : r < cnt k) {ci N index : Nat} {Cn : String} {T : u_T} (hin : ∀ w ∈ u_ws Cn T N, w ∈ wsC) (hc : vwCl[ci]? = some (Cn, T, N)) (sl : Nat) (hsl : Nat.blt sl N = true) (hf : Cond.fieldLink own index (T sl).1 (T sl).2.1 (T sl).2.2.1 ∈ wsC) {fs : List Value} {v : Value} (hs : SSr Z.2.1 Z.2.2.1 k r (I k r) (J k r) = .inr (ci, fs)) (hv : fs[sl]? = some v) (d : decode cc pc = .ok (.getfield index, 3)) (kk : G X nL Z Q I J (pc + 3) lv (v :: st)) : G X nL Z Q I J pc lv (.ref (Z.2.2.1 k r) :: st) := by
  intro H locs ls hP hS hl
  obtain ⟨q, hq⟩ := wl_get hk hr
  have ha := wl_at (ca := Z.2.1) (ad := Z.2.2.1) (I := I) (J := J) hq
  dsimp only at ha
  rw [hs] at ha
  exact va_get C.1 C.2.1 C.2.2.2.2.1 hin C.2.2.2.1 C.2.2.2.2.2.1.1 hP q ha hc sl (Nat.blt_eq.mp hsl) (C.2.2.2.2.1 _ hf) (fun _ h => h) hv d (kk H locs ls hP hS hl)
theorem g_put (C : Cx X cc nL own Z fr lo) (k r : Nat) (hk : k < 38) (hr : r < cnt k) {ci N index : Nat} {Cn : String} {T : u_T} (ty0 : Nat → FieldType) (hty : ∀ k, k < N → parseFieldDescriptor (T k).2.2.1 = some (ty0 k)) (hnm : ∀ a, a < N → ∀ b, b < N → a ≠ b → (T a).2.1 ≠ (T b).2.1) (hin : ∀ w ∈ u_ws Cn T N, w ∈ wsC) (hc : vwCl[ci]? = some (Cn, T, N)) (sl : Nat) (hsl : Nat.blt sl N = true) (hf : Cond.fieldLink own index (T sl).1 (T sl).2.1 (T sl).2.2.1 ∈ wsC) (hfin : (T sl).2.2.2 = false) {fs : (Nat → Int32) → List Value} {x : Int32} (hs : ∀ f g, SSr Z.2.1 Z.2.2.1 k r f g = .inr (ci, fs f)) (hset : (fs (I k r)).set sl (.int x) = fs (va_up (I k r) sl x)) (hlen : Nat.blt sl (fs (I k r)).length = true) (hn : narrow (ty0 sl) (.int x) = .int x) (hfit : fits (ty0 sl) (.int x) = true) (d : decode cc pc = .ok (.putfield index, 3)) (kk : G X nL Z Q (sK I k (up2 (I k) r sl x)) J (pc + 3) lv st) : G X nL Z Q I J pc lv (.int x :: .ref (Z.2.2.1 k r) :: st) := by
  intro H locs ls hP hS hl
  obtain ⟨q, hq⟩ := wl_get hk hr
  have ha := wl_at (ca := Z.2.1) (ad := Z.2.2.1) (I := I) (J := J) hq
  dsimp only at ha
  rw [hs] at ha
  refine va_put C.1 C.2.1 C.2.2.2.2.1 hin ty0 hty hnm C.2.2.2.1 C.2.2.2.2.2.1.1 hP (C.2.2.2.2.2.2.1.toD _ _ _) hS q ha hc sl (Nat.blt_eq.mp hsl) (C.2.2.2.2.1 _ hf) (fun _ h => h) hfin (hty sl (Nat.blt_eq.mp hsl)) hn hfit (Nat.blt_eq.mp hlen) d (fun H1 locs1 hP1 _ hS1 => ?_)
  rw [hset] at hP1
  exact kk H1 locs1 ls (by rw [← wl_setI hq, hs]; exact hP1) hS1 hl
end GO
