/-! ===== the law: its loop ===== -/
theorem and15 (x : Int32) : ∃ t : Nat, t < 16 ∧ x &&& nI 15 = nI t := by
  refine ⟨(x.toBitVec &&& 15#32).toNat, ?_, ?_⟩
  · rw [BitVec.toNat_and]
    exact Nat.lt_of_le_of_lt Nat.and_le_right (by decide)
  · apply Int32.toBitVec_inj.mp
    show x.toBitVec &&& 15#32 = BitVec.ofNat 32 (x.toBitVec &&& 15#32).toNat
    rw [BitVec.ofNat_toNat, BitVec.setWidth_eq]
theorem some_int {r1 r : Int32} (h : (some (Value.int r1) : Option Value) = some (.int r)) : r1 = r := by
  injection h with h
  injection h
set_option maxRecDepth 100000 in
set_option maxHeartbeats 4000000 in
theorem law_0 {X : Pk} {Z : Zk} {Q : State → Prop} (hA : AJ Z.2.2.1) (C : Cx X cL_law 4 RL Z 2048 84000) (hrc : 600 ≤ (xR X).cells) (hrs : 9000 ≤ (xR X).slots) {b L : Nat} {xs : Nat → Int32} (hX : va_X b L xs (xS X) (xS X).heap) (hbl : b < (xS X).heap.size) (hbA : ¬ Z.2.2.2 b) (hL : L ≤ 2560) {i : Nat} (hi : i + 5 ≤ L) (hnext : ∀ I J, RS I J → GL X 4 Z Q I J 523 [(0, .ref b), (1, .ref (Z.2.2.1 0 0)), (2, .ref (Z.2.2.1 27 0)), (3, .int (nI i))] []) {I : SI} {J : SJ} (hrs0 : RS I J) : GL X 4 Z Q I J 108 [(0, .ref b), (1, .ref (Z.2.2.1 0 0)), (2, .ref (Z.2.2.1 27 0)), (3, .int (nI i))] [] := by
  obtain ⟨n, T, Lb, ah, nm, hci, hmi⟩ := hrs0
  refine h_aldn C dL_law_108 rfl ?_
  refine h_aldn C dL_law_109 rfl ?_
  refine h_ildn C dL_law_110 rfl ?_
  refine h_iconst C (nI 1) dL_law_111 (by decide) ?_
  refine h_iadd (v := nI (i + 1)) C dL_law_112 (nI_add _ _) ?_
  refine h_sld C hX hbl hbA (i := i + 1) (by omega) (by omega) dL_law_113 ?_
  refine h_callV (As := [.int (xs (nI (i + 1)).toNatClampNeg)]) (st := []) C hrc hrs (c_X5_begin hA hci (xs (nI (i + 1)).toNatClampNeg)) wX5_begin iX5_begin sX5_begin mL_13 0 0 (by decide) (by decide) rfl rfl rfl rfl rfl rfl rfl rfl dL_law_114 ?_
  rintro v1 I1 J1 hc1
  obtain ⟨r1, e1, hk1⟩ := sh_begin (ah := ah) (nm := nm) hc1
  subst e1
  show GL X 4 Z Q I1 J1 117 [(0, .ref b), (1, .ref (Z.2.2.1 0 0)), (2, .ref (Z.2.2.1 27 0)), (3, .int (nI i))] [.int r1]
  refine h_aldn C dL_law_117 rfl ?_
  refine h_aldn C dL_law_118 rfl ?_
  refine h_ildn C dL_law_119 rfl ?_
  refine h_iconst C (nI 1) dL_law_120 (by decide) ?_
  refine h_iadd (v := nI (i + 1)) C dL_law_121 (nI_add _ _) ?_
  refine h_sld C hX hbl hbA (i := i + 1) (by omega) (by omega) dL_law_122 ?_
  refine h_callV (As := [.int (xs (nI (i + 1)).toNatClampNeg)]) (st := [.int r1]) C hrc hrs (c_X6_begin hA (hmi.keep hk1)  (xs (nI (i + 1)).toNatClampNeg)) wX6_begin iX6_begin sX6_begin mL_17 27 0 (by decide) (by decide) rfl rfl rfl rfl rfl rfl rfl rfl dL_law_123 ?_
  rintro v2 I2 J2 hm2
  obtain ⟨r, p1, p2, hrs2⟩ := mt_begin hci hc1 hm2
  subst p2
  have e := some_int p1
  subst e
  show GL X 4 Z Q I2 J2 126 [(0, .ref b), (1, .ref (Z.2.2.1 0 0)), (2, .ref (Z.2.2.1 27 0)), (3, .int (nI i))] [.int r1, .int r1]
  exact h_icmp_eq (tgt := 523) C dL_law_126 rfl (fun _ => hnext I2 J2 hrs2) (fun q => absurd rfl q)
set_option maxRecDepth 100000 in
set_option maxHeartbeats 4000000 in
theorem law_1 {X : Pk} {Z : Zk} {Q : State → Prop} (hA : AJ Z.2.2.1) (C : Cx X cL_law 4 RL Z 2048 84000) (hrc : 600 ≤ (xR X).cells) (hrs : 9000 ≤ (xR X).slots) {b L : Nat} {xs : Nat → Int32} (hX : va_X b L xs (xS X) (xS X).heap) (hbl : b < (xS X).heap.size) (hbA : ¬ Z.2.2.2 b) (hL : L ≤ 2560) {i : Nat} (hi : i + 5 ≤ L) (hnext : ∀ I J, RS I J → GL X 4 Z Q I J 523 [(0, .ref b), (1, .ref (Z.2.2.1 0 0)), (2, .ref (Z.2.2.1 27 0)), (3, .int (nI i))] []) {I : SI} {J : SJ} (hrs0 : RS I J) : GL X 4 Z Q I J 131 [(0, .ref b), (1, .ref (Z.2.2.1 0 0)), (2, .ref (Z.2.2.1 27 0)), (3, .int (nI i))] [] := by
  obtain ⟨n, T, Lb, ah, nm, hci, hmi⟩ := hrs0
  refine h_aldn C dL_law_131 rfl ?_
  refine h_aldn C dL_law_132 rfl ?_
  refine h_ildn C dL_law_133 rfl ?_
  refine h_iconst C (nI 1) dL_law_134 (by decide) ?_
  refine h_iadd (v := nI (i + 1)) C dL_law_135 (nI_add _ _) ?_
  refine h_sld C hX hbl hbA (i := i + 1) (by omega) (by omega) dL_law_136 ?_
  refine h_aldn C dL_law_137 rfl ?_
  refine h_ildn C dL_law_138 rfl ?_
  refine h_iconst C (nI 2) dL_law_139 (by decide) ?_
  refine h_iadd (v := nI (i + 2)) C dL_law_140 (nI_add _ _) ?_
  refine h_sld C hX hbl hbA (i := i + 2) (by omega) (by omega) dL_law_141 ?_
  refine h_aldn C dL_law_142 rfl ?_
  refine h_ildn C dL_law_143 rfl ?_
  refine h_iconst C (nI 3) dL_law_144 (by decide) ?_
  refine h_iadd (v := nI (i + 3)) C dL_law_145 (nI_add _ _) ?_
  refine h_sld C hX hbl hbA (i := i + 3) (by omega) (by omega) dL_law_146 ?_
  refine h_aldn C dL_law_147 rfl ?_
  refine h_ildn C dL_law_148 rfl ?_
  refine h_iconst C (nI 4) dL_law_149 (by decide) ?_
  refine h_iadd (v := nI (i + 4)) C dL_law_150 (nI_add _ _) ?_
  refine h_sld C hX hbl hbA (i := i + 4) (by omega) (by omega) dL_law_151 ?_
  refine h_callV (As := [.int (xs (nI (i + 1)).toNatClampNeg), .int (xs (nI (i + 2)).toNatClampNeg), .int (xs (nI (i + 3)).toNatClampNeg), .int (xs (nI (i + 4)).toNatClampNeg)]) (st := []) C hrc hrs (c_X5_label hA hci (xs (nI (i + 1)).toNatClampNeg) (xs (nI (i + 2)).toNatClampNeg) (xs (nI (i + 3)).toNatClampNeg) (xs (nI (i + 4)).toNatClampNeg)) wX5_label iX5_label sX5_label mL_18 0 0 (by decide) (by decide) rfl rfl rfl rfl rfl rfl rfl rfl dL_law_152 ?_
  rintro v1 I1 J1 hc1
  obtain ⟨r1, e1, hk1⟩ := sh_label (ah := ah) (nm := nm) hc1
  subst e1
  show GL X 4 Z Q I1 J1 155 [(0, .ref b), (1, .ref (Z.2.2.1 0 0)), (2, .ref (Z.2.2.1 27 0)), (3, .int (nI i))] [.int r1]
  refine h_aldn C dL_law_155 rfl ?_
  refine h_aldn C dL_law_156 rfl ?_
  refine h_ildn C dL_law_157 rfl ?_
  refine h_iconst C (nI 1) dL_law_158 (by decide) ?_
  refine h_iadd (v := nI (i + 1)) C dL_law_159 (nI_add _ _) ?_
  refine h_sld C hX hbl hbA (i := i + 1) (by omega) (by omega) dL_law_160 ?_
  refine h_aldn C dL_law_161 rfl ?_
  refine h_ildn C dL_law_162 rfl ?_
  refine h_iconst C (nI 2) dL_law_163 (by decide) ?_
  refine h_iadd (v := nI (i + 2)) C dL_law_164 (nI_add _ _) ?_
  refine h_sld C hX hbl hbA (i := i + 2) (by omega) (by omega) dL_law_165 ?_
  refine h_aldn C dL_law_166 rfl ?_
  refine h_ildn C dL_law_167 rfl ?_
  refine h_iconst C (nI 3) dL_law_168 (by decide) ?_
  refine h_iadd (v := nI (i + 3)) C dL_law_169 (nI_add _ _) ?_
  refine h_sld C hX hbl hbA (i := i + 3) (by omega) (by omega) dL_law_170 ?_
  refine h_aldn C dL_law_171 rfl ?_
  refine h_ildn C dL_law_172 rfl ?_
  refine h_iconst C (nI 4) dL_law_173 (by decide) ?_
  refine h_iadd (v := nI (i + 4)) C dL_law_174 (nI_add _ _) ?_
  refine h_sld C hX hbl hbA (i := i + 4) (by omega) (by omega) dL_law_175 ?_
  refine h_callV (As := [.int (xs (nI (i + 1)).toNatClampNeg), .int (xs (nI (i + 2)).toNatClampNeg), .int (xs (nI (i + 3)).toNatClampNeg), .int (xs (nI (i + 4)).toNatClampNeg)]) (st := [.int r1]) C hrc hrs (c_X6_label hA (hmi.keep hk1)  (xs (nI (i + 1)).toNatClampNeg) (xs (nI (i + 2)).toNatClampNeg) (xs (nI (i + 3)).toNatClampNeg) (xs (nI (i + 4)).toNatClampNeg)) wX6_label iX6_label sX6_label mL_22 27 0 (by decide) (by decide) rfl rfl rfl rfl rfl rfl rfl rfl dL_law_176 ?_
  rintro v2 I2 J2 hm2
  obtain ⟨r, p1, p2, hrs2⟩ := mt_label hci hc1 hm2
  subst p2
  have e := some_int p1
  subst e
  show GL X 4 Z Q I2 J2 179 [(0, .ref b), (1, .ref (Z.2.2.1 0 0)), (2, .ref (Z.2.2.1 27 0)), (3, .int (nI i))] [.int r1, .int r1]
  exact h_icmp_eq (tgt := 523) C dL_law_179 rfl (fun _ => hnext I2 J2 hrs2) (fun q => absurd rfl q)
set_option maxRecDepth 100000 in
set_option maxHeartbeats 4000000 in
theorem law_2 {X : Pk} {Z : Zk} {Q : State → Prop} (hA : AJ Z.2.2.1) (C : Cx X cL_law 4 RL Z 2048 84000) (hrc : 600 ≤ (xR X).cells) (hrs : 9000 ≤ (xR X).slots) {b L : Nat} {xs : Nat → Int32} (hX : va_X b L xs (xS X) (xS X).heap) (hbl : b < (xS X).heap.size) (hbA : ¬ Z.2.2.2 b) (hL : L ≤ 2560) {i : Nat} (hi : i + 5 ≤ L) (hnext : ∀ I J, RS I J → GL X 4 Z Q I J 523 [(0, .ref b), (1, .ref (Z.2.2.1 0 0)), (2, .ref (Z.2.2.1 27 0)), (3, .int (nI i))] []) {I : SI} {J : SJ} (hrs0 : RS I J) : GL X 4 Z Q I J 184 [(0, .ref b), (1, .ref (Z.2.2.1 0 0)), (2, .ref (Z.2.2.1 27 0)), (3, .int (nI i))] [] := by
  obtain ⟨n, T, Lb, ah, nm, hci, hmi⟩ := hrs0
  refine h_aldn C dL_law_184 rfl ?_
  refine h_aldn C dL_law_185 rfl ?_
  refine h_ildn C dL_law_186 rfl ?_
  refine h_iconst C (nI 1) dL_law_187 (by decide) ?_
  refine h_iadd (v := nI (i + 1)) C dL_law_188 (nI_add _ _) ?_
  refine h_sld C hX hbl hbA (i := i + 1) (by omega) (by omega) dL_law_189 ?_
  refine h_aldn C dL_law_190 rfl ?_
  refine h_ildn C dL_law_191 rfl ?_
  refine h_iconst C (nI 2) dL_law_192 (by decide) ?_
  refine h_iadd (v := nI (i + 2)) C dL_law_193 (nI_add _ _) ?_
  refine h_sld C hX hbl hbA (i := i + 2) (by omega) (by omega) dL_law_194 ?_
  refine h_aldn C dL_law_195 rfl ?_
  refine h_ildn C dL_law_196 rfl ?_
  refine h_iconst C (nI 3) dL_law_197 (by decide) ?_
  refine h_iadd (v := nI (i + 3)) C dL_law_198 (nI_add _ _) ?_
  refine h_sld C hX hbl hbA (i := i + 3) (by omega) (by omega) dL_law_199 ?_
  refine h_callV (As := [.int (xs (nI (i + 1)).toNatClampNeg), .int (xs (nI (i + 2)).toNatClampNeg), .int (xs (nI (i + 3)).toNatClampNeg)]) (st := []) C hrc hrs (c_X5_tint hA hci (xs (nI (i + 1)).toNatClampNeg) (xs (nI (i + 2)).toNatClampNeg) (xs (nI (i + 3)).toNatClampNeg)) wX5_tint iX5_tint sX5_tint mL_23 0 0 (by decide) (by decide) rfl rfl rfl rfl rfl rfl rfl rfl dL_law_200 ?_
  rintro v1 I1 J1 hc1
  obtain ⟨r1, e1, hk1⟩ := sh_tint (ah := ah) (nm := nm) hc1
  subst e1
  show GL X 4 Z Q I1 J1 203 [(0, .ref b), (1, .ref (Z.2.2.1 0 0)), (2, .ref (Z.2.2.1 27 0)), (3, .int (nI i))] [.int r1]
  refine h_aldn C dL_law_203 rfl ?_
  refine h_aldn C dL_law_204 rfl ?_
  refine h_ildn C dL_law_205 rfl ?_
  refine h_iconst C (nI 1) dL_law_206 (by decide) ?_
  refine h_iadd (v := nI (i + 1)) C dL_law_207 (nI_add _ _) ?_
  refine h_sld C hX hbl hbA (i := i + 1) (by omega) (by omega) dL_law_208 ?_
  refine h_aldn C dL_law_209 rfl ?_
  refine h_ildn C dL_law_210 rfl ?_
  refine h_iconst C (nI 2) dL_law_211 (by decide) ?_
  refine h_iadd (v := nI (i + 2)) C dL_law_212 (nI_add _ _) ?_
  refine h_sld C hX hbl hbA (i := i + 2) (by omega) (by omega) dL_law_213 ?_
  refine h_aldn C dL_law_214 rfl ?_
  refine h_ildn C dL_law_215 rfl ?_
  refine h_iconst C (nI 3) dL_law_216 (by decide) ?_
  refine h_iadd (v := nI (i + 3)) C dL_law_217 (nI_add _ _) ?_
  refine h_sld C hX hbl hbA (i := i + 3) (by omega) (by omega) dL_law_218 ?_
  refine h_callV (As := [.int (xs (nI (i + 1)).toNatClampNeg), .int (xs (nI (i + 2)).toNatClampNeg), .int (xs (nI (i + 3)).toNatClampNeg)]) (st := [.int r1]) C hrc hrs (c_X6_tint hA (hmi.keep hk1)  (xs (nI (i + 1)).toNatClampNeg) (xs (nI (i + 2)).toNatClampNeg) (xs (nI (i + 3)).toNatClampNeg)) wX6_tint iX6_tint sX6_tint mL_27 27 0 (by decide) (by decide) rfl rfl rfl rfl rfl rfl rfl rfl dL_law_219 ?_
  rintro v2 I2 J2 hm2
  obtain ⟨r, p1, p2, hrs2⟩ := mt_tint hci hc1 hm2
  subst p2
  have e := some_int p1
  subst e
  show GL X 4 Z Q I2 J2 222 [(0, .ref b), (1, .ref (Z.2.2.1 0 0)), (2, .ref (Z.2.2.1 27 0)), (3, .int (nI i))] [.int r1, .int r1]
  exact h_icmp_eq (tgt := 523) C dL_law_222 rfl (fun _ => hnext I2 J2 hrs2) (fun q => absurd rfl q)
set_option maxRecDepth 100000 in
set_option maxHeartbeats 4000000 in
theorem law_3 {X : Pk} {Z : Zk} {Q : State → Prop} (hA : AJ Z.2.2.1) (C : Cx X cL_law 4 RL Z 2048 84000) (hrc : 600 ≤ (xR X).cells) (hrs : 9000 ≤ (xR X).slots) {b L : Nat} {xs : Nat → Int32} (hX : va_X b L xs (xS X) (xS X).heap) (hbl : b < (xS X).heap.size) (hbA : ¬ Z.2.2.2 b) (hL : L ≤ 2560) {i : Nat} (hi : i + 5 ≤ L) (hnext : ∀ I J, RS I J → GL X 4 Z Q I J 523 [(0, .ref b), (1, .ref (Z.2.2.1 0 0)), (2, .ref (Z.2.2.1 27 0)), (3, .int (nI i))] []) {I : SI} {J : SJ} (hrs0 : RS I J) : GL X 4 Z Q I J 227 [(0, .ref b), (1, .ref (Z.2.2.1 0 0)), (2, .ref (Z.2.2.1 27 0)), (3, .int (nI i))] [] := by
  obtain ⟨n, T, Lb, ah, nm, hci, hmi⟩ := hrs0
  refine h_aldn C dL_law_227 rfl ?_
  refine h_aldn C dL_law_228 rfl ?_
  refine h_ildn C dL_law_229 rfl ?_
  refine h_iconst C (nI 1) dL_law_230 (by decide) ?_
  refine h_iadd (v := nI (i + 1)) C dL_law_231 (nI_add _ _) ?_
  refine h_sld C hX hbl hbA (i := i + 1) (by omega) (by omega) dL_law_232 ?_
  refine h_aldn C dL_law_233 rfl ?_
  refine h_ildn C dL_law_234 rfl ?_
  refine h_iconst C (nI 2) dL_law_235 (by decide) ?_
  refine h_iadd (v := nI (i + 2)) C dL_law_236 (nI_add _ _) ?_
  refine h_sld C hX hbl hbA (i := i + 2) (by omega) (by omega) dL_law_237 ?_
  refine h_aldn C dL_law_238 rfl ?_
  refine h_ildn C dL_law_239 rfl ?_
  refine h_iconst C (nI 3) dL_law_240 (by decide) ?_
  refine h_iadd (v := nI (i + 3)) C dL_law_241 (nI_add _ _) ?_
  refine h_sld C hX hbl hbA (i := i + 3) (by omega) (by omega) dL_law_242 ?_
  refine h_callV (As := [.int (xs (nI (i + 1)).toNatClampNeg), .int (xs (nI (i + 2)).toNatClampNeg), .int (xs (nI (i + 3)).toNatClampNeg)]) (st := []) C hrc hrs (c_X5_exchange hA hci (xs (nI (i + 1)).toNatClampNeg) (xs (nI (i + 2)).toNatClampNeg) (xs (nI (i + 3)).toNatClampNeg)) wX5_exchange iX5_exchange sX5_exchange mL_28 0 0 (by decide) (by decide) rfl rfl rfl rfl rfl rfl rfl rfl dL_law_243 ?_
  rintro v1 I1 J1 hc1
  obtain ⟨r1, e1, hk1⟩ := sh_exchange (ah := ah) (nm := nm) hc1
  subst e1
  show GL X 4 Z Q I1 J1 246 [(0, .ref b), (1, .ref (Z.2.2.1 0 0)), (2, .ref (Z.2.2.1 27 0)), (3, .int (nI i))] [.int r1]
  refine h_aldn C dL_law_246 rfl ?_
  refine h_aldn C dL_law_247 rfl ?_
  refine h_ildn C dL_law_248 rfl ?_
  refine h_iconst C (nI 1) dL_law_249 (by decide) ?_
  refine h_iadd (v := nI (i + 1)) C dL_law_250 (nI_add _ _) ?_
  refine h_sld C hX hbl hbA (i := i + 1) (by omega) (by omega) dL_law_251 ?_
  refine h_aldn C dL_law_252 rfl ?_
  refine h_ildn C dL_law_253 rfl ?_
  refine h_iconst C (nI 2) dL_law_254 (by decide) ?_
  refine h_iadd (v := nI (i + 2)) C dL_law_255 (nI_add _ _) ?_
  refine h_sld C hX hbl hbA (i := i + 2) (by omega) (by omega) dL_law_256 ?_
  refine h_aldn C dL_law_257 rfl ?_
  refine h_ildn C dL_law_258 rfl ?_
  refine h_iconst C (nI 3) dL_law_259 (by decide) ?_
  refine h_iadd (v := nI (i + 3)) C dL_law_260 (nI_add _ _) ?_
  refine h_sld C hX hbl hbA (i := i + 3) (by omega) (by omega) dL_law_261 ?_
  refine h_callV (As := [.int (xs (nI (i + 1)).toNatClampNeg), .int (xs (nI (i + 2)).toNatClampNeg), .int (xs (nI (i + 3)).toNatClampNeg)]) (st := [.int r1]) C hrc hrs (c_X6_exchange hA (hmi.keep hk1)  (xs (nI (i + 1)).toNatClampNeg) (xs (nI (i + 2)).toNatClampNeg) (xs (nI (i + 3)).toNatClampNeg)) wX6_exchange iX6_exchange sX6_exchange mL_31 27 0 (by decide) (by decide) rfl rfl rfl rfl rfl rfl rfl rfl dL_law_262 ?_
  rintro v2 I2 J2 hm2
  obtain ⟨r, p1, p2, hrs2⟩ := mt_exchange hci hc1 hm2
  subst p2
  have e := some_int p1
  subst e
  show GL X 4 Z Q I2 J2 265 [(0, .ref b), (1, .ref (Z.2.2.1 0 0)), (2, .ref (Z.2.2.1 27 0)), (3, .int (nI i))] [.int r1, .int r1]
  exact h_icmp_eq (tgt := 523) C dL_law_265 rfl (fun _ => hnext I2 J2 hrs2) (fun q => absurd rfl q)
set_option maxRecDepth 100000 in
set_option maxHeartbeats 4000000 in
theorem law_4 {X : Pk} {Z : Zk} {Q : State → Prop} (hA : AJ Z.2.2.1) (C : Cx X cL_law 4 RL Z 2048 84000) (hrc : 600 ≤ (xR X).cells) (hrs : 9000 ≤ (xR X).slots) {b L : Nat} {xs : Nat → Int32} (hX : va_X b L xs (xS X) (xS X).heap) (hbl : b < (xS X).heap.size) (hbA : ¬ Z.2.2.2 b) (hL : L ≤ 2560) {i : Nat} (hi : i + 5 ≤ L) (hnext : ∀ I J, RS I J → GL X 4 Z Q I J 523 [(0, .ref b), (1, .ref (Z.2.2.1 0 0)), (2, .ref (Z.2.2.1 27 0)), (3, .int (nI i))] []) {I : SI} {J : SJ} (hrs0 : RS I J) : GL X 4 Z Q I J 270 [(0, .ref b), (1, .ref (Z.2.2.1 0 0)), (2, .ref (Z.2.2.1 27 0)), (3, .int (nI i))] [] := by
  obtain ⟨n, T, Lb, ah, nm, hci, hmi⟩ := hrs0
  refine h_aldn C dL_law_270 rfl ?_
  refine h_aldn C dL_law_271 rfl ?_
  refine h_ildn C dL_law_272 rfl ?_
  refine h_iconst C (nI 1) dL_law_273 (by decide) ?_
  refine h_iadd (v := nI (i + 1)) C dL_law_274 (nI_add _ _) ?_
  refine h_sld C hX hbl hbA (i := i + 1) (by omega) (by omega) dL_law_275 ?_
  refine h_callV (As := [.int (xs (nI (i + 1)).toNatClampNeg)]) (st := []) C hrc hrs (c_X5_copy hA hci (xs (nI (i + 1)).toNatClampNeg)) wX5_copy iX5_copy sX5_copy mL_32 0 0 (by decide) (by decide) rfl rfl rfl rfl rfl rfl rfl rfl dL_law_276 ?_
  rintro v1 I1 J1 hc1
  obtain ⟨r1, e1, hk1⟩ := sh_copy (ah := ah) (nm := nm) hc1
  subst e1
  show GL X 4 Z Q I1 J1 279 [(0, .ref b), (1, .ref (Z.2.2.1 0 0)), (2, .ref (Z.2.2.1 27 0)), (3, .int (nI i))] [.int r1]
  refine h_aldn C dL_law_279 rfl ?_
  refine h_aldn C dL_law_280 rfl ?_
  refine h_ildn C dL_law_281 rfl ?_
  refine h_iconst C (nI 1) dL_law_282 (by decide) ?_
  refine h_iadd (v := nI (i + 1)) C dL_law_283 (nI_add _ _) ?_
  refine h_sld C hX hbl hbA (i := i + 1) (by omega) (by omega) dL_law_284 ?_
  refine h_callV (As := [.int (xs (nI (i + 1)).toNatClampNeg)]) (st := [.int r1]) C hrc hrs (c_X6_copy hA (hmi.keep hk1)  (xs (nI (i + 1)).toNatClampNeg)) wX6_copy iX6_copy sX6_copy mL_35 27 0 (by decide) (by decide) rfl rfl rfl rfl rfl rfl rfl rfl dL_law_285 ?_
  rintro v2 I2 J2 hm2
  obtain ⟨r, p1, p2, hrs2⟩ := mt_copy hci hc1 hm2
  subst p2
  have e := some_int p1
  subst e
  show GL X 4 Z Q I2 J2 288 [(0, .ref b), (1, .ref (Z.2.2.1 0 0)), (2, .ref (Z.2.2.1 27 0)), (3, .int (nI i))] [.int r1, .int r1]
  exact h_icmp_eq (tgt := 523) C dL_law_288 rfl (fun _ => hnext I2 J2 hrs2) (fun q => absurd rfl q)
set_option maxRecDepth 100000 in
set_option maxHeartbeats 4000000 in
theorem law_5 {X : Pk} {Z : Zk} {Q : State → Prop} (hA : AJ Z.2.2.1) (C : Cx X cL_law 4 RL Z 2048 84000) (hrc : 600 ≤ (xR X).cells) (hrs : 9000 ≤ (xR X).slots) {b L : Nat} {xs : Nat → Int32} (hX : va_X b L xs (xS X) (xS X).heap) (hbl : b < (xS X).heap.size) (hbA : ¬ Z.2.2.2 b) (hL : L ≤ 2560) {i : Nat} (hi : i + 5 ≤ L) (hnext : ∀ I J, RS I J → GL X 4 Z Q I J 523 [(0, .ref b), (1, .ref (Z.2.2.1 0 0)), (2, .ref (Z.2.2.1 27 0)), (3, .int (nI i))] []) {I : SI} {J : SJ} (hrs0 : RS I J) : GL X 4 Z Q I J 293 [(0, .ref b), (1, .ref (Z.2.2.1 0 0)), (2, .ref (Z.2.2.1 27 0)), (3, .int (nI i))] [] := by
  obtain ⟨n, T, Lb, ah, nm, hci, hmi⟩ := hrs0
  refine h_aldn C dL_law_293 rfl ?_
  refine h_callV (As := []) (st := []) C hrc hrs (c_X5_colours hA hci ) wX5_colours iX5_colours sX5_colours mL_36 0 0 (by decide) (by decide) rfl rfl rfl rfl rfl rfl rfl rfl dL_law_294 ?_
  rintro v1 I1 J1 hc1
  obtain ⟨r1, e1, hk1⟩ := sh_colours (ah := ah) (nm := nm) hc1
  subst e1
  show GL X 4 Z Q I1 J1 297 [(0, .ref b), (1, .ref (Z.2.2.1 0 0)), (2, .ref (Z.2.2.1 27 0)), (3, .int (nI i))] [.int r1]
  refine h_aldn C dL_law_297 rfl ?_
  refine h_callV (As := []) (st := [.int r1]) C hrc hrs (c_X6_colours hA (hmi.keep hk1)  ) wX6_colours iX6_colours sX6_colours mL_40 27 0 (by decide) (by decide) rfl rfl rfl rfl rfl rfl rfl rfl dL_law_298 ?_
  rintro v2 I2 J2 hm2
  obtain ⟨r, p1, p2, hrs2⟩ := mt_colours hci hc1 hm2
  subst p2
  have e := some_int p1
  subst e
  show GL X 4 Z Q I2 J2 301 [(0, .ref b), (1, .ref (Z.2.2.1 0 0)), (2, .ref (Z.2.2.1 27 0)), (3, .int (nI i))] [.int r1, .int r1]
  exact h_icmp_eq (tgt := 523) C dL_law_301 rfl (fun _ => hnext I2 J2 hrs2) (fun q => absurd rfl q)
set_option maxRecDepth 100000 in
set_option maxHeartbeats 4000000 in
theorem law_6 {X : Pk} {Z : Zk} {Q : State → Prop} (hA : AJ Z.2.2.1) (C : Cx X cL_law 4 RL Z 2048 84000) (hrc : 600 ≤ (xR X).cells) (hrs : 9000 ≤ (xR X).slots) {b L : Nat} {xs : Nat → Int32} (hX : va_X b L xs (xS X) (xS X).heap) (hbl : b < (xS X).heap.size) (hbA : ¬ Z.2.2.2 b) (hL : L ≤ 2560) {i : Nat} (hi : i + 5 ≤ L) (hnext : ∀ I J, RS I J → GL X 4 Z Q I J 523 [(0, .ref b), (1, .ref (Z.2.2.1 0 0)), (2, .ref (Z.2.2.1 27 0)), (3, .int (nI i))] []) {I : SI} {J : SJ} (hrs0 : RS I J) : GL X 4 Z Q I J 306 [(0, .ref b), (1, .ref (Z.2.2.1 0 0)), (2, .ref (Z.2.2.1 27 0)), (3, .int (nI i))] [] := by
  obtain ⟨n, T, Lb, ah, nm, hci, hmi⟩ := hrs0
  refine h_aldn C dL_law_306 rfl ?_
  refine h_aldn C dL_law_307 rfl ?_
  refine h_ildn C dL_law_308 rfl ?_
  refine h_iconst C (nI 1) dL_law_309 (by decide) ?_
  refine h_iadd (v := nI (i + 1)) C dL_law_310 (nI_add _ _) ?_
  refine h_sld C hX hbl hbA (i := i + 1) (by omega) (by omega) dL_law_311 ?_
  refine h_aldn C dL_law_312 rfl ?_
  refine h_ildn C dL_law_313 rfl ?_
  refine h_iconst C (nI 2) dL_law_314 (by decide) ?_
  refine h_iadd (v := nI (i + 2)) C dL_law_315 (nI_add _ _) ?_
  refine h_sld C hX hbl hbA (i := i + 2) (by omega) (by omega) dL_law_316 ?_
  refine h_callV (As := [.int (xs (nI (i + 1)).toNatClampNeg), .int (xs (nI (i + 2)).toNatClampNeg)]) (st := []) C hrc hrs (c_X5_colour hA hci (xs (nI (i + 1)).toNatClampNeg) (xs (nI (i + 2)).toNatClampNeg)) wX5_colour iX5_colour sX5_colour mL_41 0 0 (by decide) (by decide) rfl rfl rfl rfl rfl rfl rfl rfl dL_law_317 ?_
  rintro v1 I1 J1 hc1
  obtain ⟨r1, e1, hk1⟩ := sh_colour (ah := ah) (nm := nm) hc1
  subst e1
  show GL X 4 Z Q I1 J1 320 [(0, .ref b), (1, .ref (Z.2.2.1 0 0)), (2, .ref (Z.2.2.1 27 0)), (3, .int (nI i))] [.int r1]
  refine h_aldn C dL_law_320 rfl ?_
  refine h_aldn C dL_law_321 rfl ?_
  refine h_ildn C dL_law_322 rfl ?_
  refine h_iconst C (nI 1) dL_law_323 (by decide) ?_
  refine h_iadd (v := nI (i + 1)) C dL_law_324 (nI_add _ _) ?_
  refine h_sld C hX hbl hbA (i := i + 1) (by omega) (by omega) dL_law_325 ?_
  refine h_aldn C dL_law_326 rfl ?_
  refine h_ildn C dL_law_327 rfl ?_
  refine h_iconst C (nI 2) dL_law_328 (by decide) ?_
  refine h_iadd (v := nI (i + 2)) C dL_law_329 (nI_add _ _) ?_
  refine h_sld C hX hbl hbA (i := i + 2) (by omega) (by omega) dL_law_330 ?_
  refine h_callV (As := [.int (xs (nI (i + 1)).toNatClampNeg), .int (xs (nI (i + 2)).toNatClampNeg)]) (st := [.int r1]) C hrc hrs (c_X6_colour hA (hmi.keep hk1)  (xs (nI (i + 1)).toNatClampNeg) (xs (nI (i + 2)).toNatClampNeg)) wX6_colour iX6_colour sX6_colour mL_45 27 0 (by decide) (by decide) rfl rfl rfl rfl rfl rfl rfl rfl dL_law_331 ?_
  rintro v2 I2 J2 hm2
  obtain ⟨r, p1, p2, hrs2⟩ := mt_colour hci hc1 hm2
  subst p2
  have e := some_int p1
  subst e
  show GL X 4 Z Q I2 J2 334 [(0, .ref b), (1, .ref (Z.2.2.1 0 0)), (2, .ref (Z.2.2.1 27 0)), (3, .int (nI i))] [.int r1, .int r1]
  exact h_icmp_eq (tgt := 523) C dL_law_334 rfl (fun _ => hnext I2 J2 hrs2) (fun q => absurd rfl q)
set_option maxRecDepth 100000 in
set_option maxHeartbeats 4000000 in
theorem law_7 {X : Pk} {Z : Zk} {Q : State → Prop} (hA : AJ Z.2.2.1) (C : Cx X cL_law 4 RL Z 2048 84000) (hrc : 600 ≤ (xR X).cells) (hrs : 9000 ≤ (xR X).slots) {b L : Nat} {xs : Nat → Int32} (hX : va_X b L xs (xS X) (xS X).heap) (hbl : b < (xS X).heap.size) (hbA : ¬ Z.2.2.2 b) (hL : L ≤ 2560) {i : Nat} (hi : i + 5 ≤ L) (hnext : ∀ I J, RS I J → GL X 4 Z Q I J 523 [(0, .ref b), (1, .ref (Z.2.2.1 0 0)), (2, .ref (Z.2.2.1 27 0)), (3, .int (nI i))] []) {I : SI} {J : SJ} (hrs0 : RS I J) : GL X 4 Z Q I J 339 [(0, .ref b), (1, .ref (Z.2.2.1 0 0)), (2, .ref (Z.2.2.1 27 0)), (3, .int (nI i))] [] := by
  obtain ⟨n, T, Lb, ah, nm, hci, hmi⟩ := hrs0
  refine h_aldn C dL_law_339 rfl ?_
  refine h_callV (As := []) (st := []) C hrc hrs (c_X5_twins hA hci ) wX5_twins iX5_twins sX5_twins mL_46 0 0 (by decide) (by decide) rfl rfl rfl rfl rfl rfl rfl rfl dL_law_340 ?_
  rintro v1 I1 J1 hc1
  obtain ⟨r1, e1, hk1⟩ := sh_twins (ah := ah) (nm := nm) hc1
  subst e1
  show GL X 4 Z Q I1 J1 343 [(0, .ref b), (1, .ref (Z.2.2.1 0 0)), (2, .ref (Z.2.2.1 27 0)), (3, .int (nI i))] [.int r1]
  refine h_aldn C dL_law_343 rfl ?_
  refine h_callV (As := []) (st := [.int r1]) C hrc hrs (c_X6_twins hA (hmi.keep hk1)  ) wX6_twins iX6_twins sX6_twins mL_49 27 0 (by decide) (by decide) rfl rfl rfl rfl rfl rfl rfl rfl dL_law_344 ?_
  rintro v2 I2 J2 hm2
  obtain ⟨r, p1, p2, hrs2⟩ := mt_twins hci hc1 hm2
  subst p2
  have e := some_int p1
  subst e
  show GL X 4 Z Q I2 J2 347 [(0, .ref b), (1, .ref (Z.2.2.1 0 0)), (2, .ref (Z.2.2.1 27 0)), (3, .int (nI i))] [.int r1, .int r1]
  exact h_icmp_eq (tgt := 523) C dL_law_347 rfl (fun _ => hnext I2 J2 hrs2) (fun q => absurd rfl q)
set_option maxRecDepth 100000 in
set_option maxHeartbeats 4000000 in
theorem law_8 {X : Pk} {Z : Zk} {Q : State → Prop} (hA : AJ Z.2.2.1) (C : Cx X cL_law 4 RL Z 2048 84000) (hrc : 600 ≤ (xR X).cells) (hrs : 9000 ≤ (xR X).slots) {b L : Nat} {xs : Nat → Int32} (hX : va_X b L xs (xS X) (xS X).heap) (hbl : b < (xS X).heap.size) (hbA : ¬ Z.2.2.2 b) (hL : L ≤ 2560) {i : Nat} (hi : i + 5 ≤ L) (hnext : ∀ I J, RS I J → GL X 4 Z Q I J 523 [(0, .ref b), (1, .ref (Z.2.2.1 0 0)), (2, .ref (Z.2.2.1 27 0)), (3, .int (nI i))] []) {I : SI} {J : SJ} (hrs0 : RS I J) : GL X 4 Z Q I J 352 [(0, .ref b), (1, .ref (Z.2.2.1 0 0)), (2, .ref (Z.2.2.1 27 0)), (3, .int (nI i))] [] := by
  obtain ⟨n, T, Lb, ah, nm, hci, hmi⟩ := hrs0
  refine h_aldn C dL_law_352 rfl ?_
  refine h_aldn C dL_law_353 rfl ?_
  refine h_ildn C dL_law_354 rfl ?_
  refine h_iconst C (nI 1) dL_law_355 (by decide) ?_
  refine h_iadd (v := nI (i + 1)) C dL_law_356 (nI_add _ _) ?_
  refine h_sld C hX hbl hbA (i := i + 1) (by omega) (by omega) dL_law_357 ?_
  refine h_callV (As := [.int (xs (nI (i + 1)).toNatClampNeg)]) (st := []) C hrc hrs (c_X5_image hA hci (xs (nI (i + 1)).toNatClampNeg)) wX5_image iX5_image sX5_image mL_50 0 0 (by decide) (by decide) rfl rfl rfl rfl rfl rfl rfl rfl dL_law_358 ?_
  rintro v1 I1 J1 hc1
  obtain ⟨r1, e1, hk1⟩ := sh_image (ah := ah) (nm := nm) hc1
  subst e1
  show GL X 4 Z Q I1 J1 361 [(0, .ref b), (1, .ref (Z.2.2.1 0 0)), (2, .ref (Z.2.2.1 27 0)), (3, .int (nI i))] [.int r1]
  refine h_aldn C dL_law_361 rfl ?_
  refine h_aldn C dL_law_362 rfl ?_
  refine h_ildn C dL_law_363 rfl ?_
  refine h_iconst C (nI 1) dL_law_364 (by decide) ?_
  refine h_iadd (v := nI (i + 1)) C dL_law_365 (nI_add _ _) ?_
  refine h_sld C hX hbl hbA (i := i + 1) (by omega) (by omega) dL_law_366 ?_
  refine h_callV (As := [.int (xs (nI (i + 1)).toNatClampNeg)]) (st := [.int r1]) C hrc hrs (c_X6_image hA (hmi.keep hk1)  (xs (nI (i + 1)).toNatClampNeg)) wX6_image iX6_image sX6_image mL_53 27 0 (by decide) (by decide) rfl rfl rfl rfl rfl rfl rfl rfl dL_law_367 ?_
  rintro v2 I2 J2 hm2
  obtain ⟨r, p1, p2, hrs2⟩ := mt_image hci hc1 hm2
  subst p2
  have e := some_int p1
  subst e
  show GL X 4 Z Q I2 J2 370 [(0, .ref b), (1, .ref (Z.2.2.1 0 0)), (2, .ref (Z.2.2.1 27 0)), (3, .int (nI i))] [.int r1, .int r1]
  exact h_icmp_eq (tgt := 523) C dL_law_370 rfl (fun _ => hnext I2 J2 hrs2) (fun q => absurd rfl q)
set_option maxRecDepth 100000 in
set_option maxHeartbeats 4000000 in
theorem law_9 {X : Pk} {Z : Zk} {Q : State → Prop} (hA : AJ Z.2.2.1) (C : Cx X cL_law 4 RL Z 2048 84000) (hrc : 600 ≤ (xR X).cells) (hrs : 9000 ≤ (xR X).slots) {b L : Nat} {xs : Nat → Int32} (hX : va_X b L xs (xS X) (xS X).heap) (hbl : b < (xS X).heap.size) (hbA : ¬ Z.2.2.2 b) (hL : L ≤ 2560) {i : Nat} (hi : i + 5 ≤ L) (hnext : ∀ I J, RS I J → GL X 4 Z Q I J 523 [(0, .ref b), (1, .ref (Z.2.2.1 0 0)), (2, .ref (Z.2.2.1 27 0)), (3, .int (nI i))] []) {I : SI} {J : SJ} (hrs0 : RS I J) : GL X 4 Z Q I J 375 [(0, .ref b), (1, .ref (Z.2.2.1 0 0)), (2, .ref (Z.2.2.1 27 0)), (3, .int (nI i))] [] := by
  obtain ⟨n, T, Lb, ah, nm, hci, hmi⟩ := hrs0
  refine h_aldn C dL_law_375 rfl ?_
  refine h_callV (As := []) (st := []) C hrc hrs (c_X5_next hA hci ) wX5_next iX5_next sX5_next mL_54 0 0 (by decide) (by decide) rfl rfl rfl rfl rfl rfl rfl rfl dL_law_376 ?_
  rintro v1 I1 J1 hc1
  obtain ⟨r1, e1, hk1⟩ := sh_next (ah := ah) (nm := nm) hc1
  subst e1
  show GL X 4 Z Q I1 J1 379 [(0, .ref b), (1, .ref (Z.2.2.1 0 0)), (2, .ref (Z.2.2.1 27 0)), (3, .int (nI i))] [.int r1]
  refine h_aldn C dL_law_379 rfl ?_
  refine h_callV (As := []) (st := [.int r1]) C hrc hrs (c_X6_next hA (hmi.keep hk1) (fun q => (hci.2.2.2.2.1 q).2.2) ) wX6_next iX6_next sX6_next mL_57 27 0 (by decide) (by decide) rfl rfl rfl rfl rfl rfl rfl rfl dL_law_380 ?_
  rintro v2 I2 J2 hm2
  obtain ⟨r, p1, p2, hrs2⟩ := mt_next hci hc1 hm2
  subst p2
  have e := some_int p1
  subst e
  show GL X 4 Z Q I2 J2 383 [(0, .ref b), (1, .ref (Z.2.2.1 0 0)), (2, .ref (Z.2.2.1 27 0)), (3, .int (nI i))] [.int r1, .int r1]
  exact h_icmp_eq (tgt := 523) C dL_law_383 rfl (fun _ => hnext I2 J2 hrs2) (fun q => absurd rfl q)
set_option maxRecDepth 100000 in
set_option maxHeartbeats 4000000 in
theorem law_10 {X : Pk} {Z : Zk} {Q : State → Prop} (hA : AJ Z.2.2.1) (C : Cx X cL_law 4 RL Z 2048 84000) (hrc : 600 ≤ (xR X).cells) (hrs : 9000 ≤ (xR X).slots) {b L : Nat} {xs : Nat → Int32} (hX : va_X b L xs (xS X) (xS X).heap) (hbl : b < (xS X).heap.size) (hbA : ¬ Z.2.2.2 b) (hL : L ≤ 2560) {i : Nat} (hi : i + 5 ≤ L) (hnext : ∀ I J, RS I J → GL X 4 Z Q I J 523 [(0, .ref b), (1, .ref (Z.2.2.1 0 0)), (2, .ref (Z.2.2.1 27 0)), (3, .int (nI i))] []) {I : SI} {J : SJ} (hrs0 : RS I J) : GL X 4 Z Q I J 388 [(0, .ref b), (1, .ref (Z.2.2.1 0 0)), (2, .ref (Z.2.2.1 27 0)), (3, .int (nI i))] [] := by
  obtain ⟨n, T, Lb, ah, nm, hci, hmi⟩ := hrs0
  refine h_aldn C dL_law_388 rfl ?_
  refine h_aldn C dL_law_389 rfl ?_
  refine h_ildn C dL_law_390 rfl ?_
  refine h_iconst C (nI 1) dL_law_391 (by decide) ?_
  refine h_iadd (v := nI (i + 1)) C dL_law_392 (nI_add _ _) ?_
  refine h_sld C hX hbl hbA (i := i + 1) (by omega) (by omega) dL_law_393 ?_
  refine h_callV (As := [.int (xs (nI (i + 1)).toNatClampNeg)]) (st := []) C hrc hrs (c_X5_symmetries hA hci (xs (nI (i + 1)).toNatClampNeg)) wX5_symmetries iX5_symmetries sX5_symmetries mL_58 0 0 (by decide) (by decide) rfl rfl rfl rfl rfl rfl rfl rfl dL_law_394 ?_
  rintro v1 I1 J1 hc1
  obtain ⟨r1, e1, hk1⟩ := sh_symmetries (ah := ah) (nm := nm) hc1
  subst e1
  show GL X 4 Z Q I1 J1 397 [(0, .ref b), (1, .ref (Z.2.2.1 0 0)), (2, .ref (Z.2.2.1 27 0)), (3, .int (nI i))] [.int r1]
  refine h_aldn C dL_law_397 rfl ?_
  refine h_aldn C dL_law_398 rfl ?_
  refine h_ildn C dL_law_399 rfl ?_
  refine h_iconst C (nI 1) dL_law_400 (by decide) ?_
  refine h_iadd (v := nI (i + 1)) C dL_law_401 (nI_add _ _) ?_
  refine h_sld C hX hbl hbA (i := i + 1) (by omega) (by omega) dL_law_402 ?_
  refine h_callV (As := [.int (xs (nI (i + 1)).toNatClampNeg)]) (st := [.int r1]) C hrc hrs (c_X6_symmetries hA (hmi.keep hk1)  (xs (nI (i + 1)).toNatClampNeg)) wX6_symmetries iX6_symmetries sX6_symmetries mL_61 27 0 (by decide) (by decide) rfl rfl rfl rfl rfl rfl rfl rfl dL_law_403 ?_
  rintro v2 I2 J2 hm2
  obtain ⟨r, p1, p2, hrs2⟩ := mt_symmetries hci hc1 hm2
  subst p2
  have e := some_int p1
  subst e
  show GL X 4 Z Q I2 J2 406 [(0, .ref b), (1, .ref (Z.2.2.1 0 0)), (2, .ref (Z.2.2.1 27 0)), (3, .int (nI i))] [.int r1, .int r1]
  exact h_icmp_eq (tgt := 523) C dL_law_406 rfl (fun _ => hnext I2 J2 hrs2) (fun q => absurd rfl q)
set_option maxRecDepth 100000 in
set_option maxHeartbeats 4000000 in
theorem law_11 {X : Pk} {Z : Zk} {Q : State → Prop} (hA : AJ Z.2.2.1) (C : Cx X cL_law 4 RL Z 2048 84000) (hrc : 600 ≤ (xR X).cells) (hrs : 9000 ≤ (xR X).slots) {b L : Nat} {xs : Nat → Int32} (hX : va_X b L xs (xS X) (xS X).heap) (hbl : b < (xS X).heap.size) (hbA : ¬ Z.2.2.2 b) (hL : L ≤ 2560) {i : Nat} (hi : i + 5 ≤ L) (hnext : ∀ I J, RS I J → GL X 4 Z Q I J 523 [(0, .ref b), (1, .ref (Z.2.2.1 0 0)), (2, .ref (Z.2.2.1 27 0)), (3, .int (nI i))] []) {I : SI} {J : SJ} (hrs0 : RS I J) : GL X 4 Z Q I J 411 [(0, .ref b), (1, .ref (Z.2.2.1 0 0)), (2, .ref (Z.2.2.1 27 0)), (3, .int (nI i))] [] := by
  obtain ⟨n, T, Lb, ah, nm, hci, hmi⟩ := hrs0
  refine h_aldn C dL_law_411 rfl ?_
  refine h_aldn C dL_law_412 rfl ?_
  refine h_ildn C dL_law_413 rfl ?_
  refine h_iconst C (nI 1) dL_law_414 (by decide) ?_
  refine h_iadd (v := nI (i + 1)) C dL_law_415 (nI_add _ _) ?_
  refine h_sld C hX hbl hbA (i := i + 1) (by omega) (by omega) dL_law_416 ?_
  refine h_aldn C dL_law_417 rfl ?_
  refine h_ildn C dL_law_418 rfl ?_
  refine h_iconst C (nI 2) dL_law_419 (by decide) ?_
  refine h_iadd (v := nI (i + 2)) C dL_law_420 (nI_add _ _) ?_
  refine h_sld C hX hbl hbA (i := i + 2) (by omega) (by omega) dL_law_421 ?_
  refine h_callV (As := [.int (xs (nI (i + 1)).toNatClampNeg), .int (xs (nI (i + 2)).toNatClampNeg)]) (st := []) C hrc hrs (c_X5_orbit hA hci (xs (nI (i + 1)).toNatClampNeg) (xs (nI (i + 2)).toNatClampNeg)) wX5_orbit iX5_orbit sX5_orbit mL_62 0 0 (by decide) (by decide) rfl rfl rfl rfl rfl rfl rfl rfl dL_law_422 ?_
  rintro v1 I1 J1 hc1
  obtain ⟨r1, e1, hk1⟩ := sh_orbit (ah := ah) (nm := nm) hc1
  subst e1
  show GL X 4 Z Q I1 J1 425 [(0, .ref b), (1, .ref (Z.2.2.1 0 0)), (2, .ref (Z.2.2.1 27 0)), (3, .int (nI i))] [.int r1]
  refine h_aldn C dL_law_425 rfl ?_
  refine h_aldn C dL_law_426 rfl ?_
  refine h_ildn C dL_law_427 rfl ?_
  refine h_iconst C (nI 1) dL_law_428 (by decide) ?_
  refine h_iadd (v := nI (i + 1)) C dL_law_429 (nI_add _ _) ?_
  refine h_sld C hX hbl hbA (i := i + 1) (by omega) (by omega) dL_law_430 ?_
  refine h_aldn C dL_law_431 rfl ?_
  refine h_ildn C dL_law_432 rfl ?_
  refine h_iconst C (nI 2) dL_law_433 (by decide) ?_
  refine h_iadd (v := nI (i + 2)) C dL_law_434 (nI_add _ _) ?_
  refine h_sld C hX hbl hbA (i := i + 2) (by omega) (by omega) dL_law_435 ?_
  refine h_callV (As := [.int (xs (nI (i + 1)).toNatClampNeg), .int (xs (nI (i + 2)).toNatClampNeg)]) (st := [.int r1]) C hrc hrs (c_X6_orbit hA (hmi.keep hk1)  (xs (nI (i + 1)).toNatClampNeg) (xs (nI (i + 2)).toNatClampNeg)) wX6_orbit iX6_orbit sX6_orbit mL_65 27 0 (by decide) (by decide) rfl rfl rfl rfl rfl rfl rfl rfl dL_law_436 ?_
  rintro v2 I2 J2 hm2
  obtain ⟨r, p1, p2, hrs2⟩ := mt_orbit hci hc1 hm2
  subst p2
  have e := some_int p1
  subst e
  show GL X 4 Z Q I2 J2 439 [(0, .ref b), (1, .ref (Z.2.2.1 0 0)), (2, .ref (Z.2.2.1 27 0)), (3, .int (nI i))] [.int r1, .int r1]
  exact h_icmp_eq (tgt := 523) C dL_law_439 rfl (fun _ => hnext I2 J2 hrs2) (fun q => absurd rfl q)
set_option maxRecDepth 100000 in
set_option maxHeartbeats 4000000 in
theorem law_12 {X : Pk} {Z : Zk} {Q : State → Prop} (hA : AJ Z.2.2.1) (C : Cx X cL_law 4 RL Z 2048 84000) (hrc : 600 ≤ (xR X).cells) (hrs : 9000 ≤ (xR X).slots) {b L : Nat} {xs : Nat → Int32} (hX : va_X b L xs (xS X) (xS X).heap) (hbl : b < (xS X).heap.size) (hbA : ¬ Z.2.2.2 b) (hL : L ≤ 2560) {i : Nat} (hi : i + 5 ≤ L) (hnext : ∀ I J, RS I J → GL X 4 Z Q I J 523 [(0, .ref b), (1, .ref (Z.2.2.1 0 0)), (2, .ref (Z.2.2.1 27 0)), (3, .int (nI i))] []) {I : SI} {J : SJ} (hrs0 : RS I J) : GL X 4 Z Q I J 444 [(0, .ref b), (1, .ref (Z.2.2.1 0 0)), (2, .ref (Z.2.2.1 27 0)), (3, .int (nI i))] [] := by
  obtain ⟨n, T, Lb, ah, nm, hci, hmi⟩ := hrs0
  refine h_aldn C dL_law_444 rfl ?_
  refine h_aldn C dL_law_445 rfl ?_
  refine h_ildn C dL_law_446 rfl ?_
  refine h_iconst C (nI 1) dL_law_447 (by decide) ?_
  refine h_iadd (v := nI (i + 1)) C dL_law_448 (nI_add _ _) ?_
  refine h_sld C hX hbl hbA (i := i + 1) (by omega) (by omega) dL_law_449 ?_
  refine h_aldn C dL_law_450 rfl ?_
  refine h_ildn C dL_law_451 rfl ?_
  refine h_iconst C (nI 2) dL_law_452 (by decide) ?_
  refine h_iadd (v := nI (i + 2)) C dL_law_453 (nI_add _ _) ?_
  refine h_sld C hX hbl hbA (i := i + 2) (by omega) (by omega) dL_law_454 ?_
  refine h_callV (As := [.int (xs (nI (i + 1)).toNatClampNeg), .int (xs (nI (i + 2)).toNatClampNeg)]) (st := []) C hrc hrs (c_X5_form hA hci (xs (nI (i + 1)).toNatClampNeg) (xs (nI (i + 2)).toNatClampNeg)) wX5_form iX5_form sX5_form mL_66 0 0 (by decide) (by decide) rfl rfl rfl rfl rfl rfl rfl rfl dL_law_455 ?_
  rintro v1 I1 J1 hc1
  obtain ⟨r1, e1, hk1⟩ := sh_form (ah := ah) (nm := nm) hc1
  subst e1
  show GL X 4 Z Q I1 J1 458 [(0, .ref b), (1, .ref (Z.2.2.1 0 0)), (2, .ref (Z.2.2.1 27 0)), (3, .int (nI i))] [.int r1]
  refine h_aldn C dL_law_458 rfl ?_
  refine h_aldn C dL_law_459 rfl ?_
  refine h_ildn C dL_law_460 rfl ?_
  refine h_iconst C (nI 1) dL_law_461 (by decide) ?_
  refine h_iadd (v := nI (i + 1)) C dL_law_462 (nI_add _ _) ?_
  refine h_sld C hX hbl hbA (i := i + 1) (by omega) (by omega) dL_law_463 ?_
  refine h_aldn C dL_law_464 rfl ?_
  refine h_ildn C dL_law_465 rfl ?_
  refine h_iconst C (nI 2) dL_law_466 (by decide) ?_
  refine h_iadd (v := nI (i + 2)) C dL_law_467 (nI_add _ _) ?_
  refine h_sld C hX hbl hbA (i := i + 2) (by omega) (by omega) dL_law_468 ?_
  refine h_callV (As := [.int (xs (nI (i + 1)).toNatClampNeg), .int (xs (nI (i + 2)).toNatClampNeg)]) (st := [.int r1]) C hrc hrs (c_X6_form hA (hmi.keep hk1)  (xs (nI (i + 1)).toNatClampNeg) (xs (nI (i + 2)).toNatClampNeg)) wX6_form iX6_form sX6_form mL_69 27 0 (by decide) (by decide) rfl rfl rfl rfl rfl rfl rfl rfl dL_law_469 ?_
  rintro v2 I2 J2 hm2
  obtain ⟨r, p1, p2, hrs2⟩ := mt_form hci hc1 hm2
  subst p2
  have e := some_int p1
  subst e
  show GL X 4 Z Q I2 J2 472 [(0, .ref b), (1, .ref (Z.2.2.1 0 0)), (2, .ref (Z.2.2.1 27 0)), (3, .int (nI i))] [.int r1, .int r1]
  exact h_icmp_eq (tgt := 523) C dL_law_472 rfl (fun _ => hnext I2 J2 hrs2) (fun q => absurd rfl q)
set_option maxRecDepth 100000 in
set_option maxHeartbeats 4000000 in
theorem law_13 {X : Pk} {Z : Zk} {Q : State → Prop} (hA : AJ Z.2.2.1) (C : Cx X cL_law 4 RL Z 2048 84000) (hrc : 600 ≤ (xR X).cells) (hrs : 9000 ≤ (xR X).slots) {b L : Nat} {xs : Nat → Int32} (hX : va_X b L xs (xS X) (xS X).heap) (hbl : b < (xS X).heap.size) (hbA : ¬ Z.2.2.2 b) (hL : L ≤ 2560) {i : Nat} (hi : i + 5 ≤ L) (hnext : ∀ I J, RS I J → GL X 4 Z Q I J 523 [(0, .ref b), (1, .ref (Z.2.2.1 0 0)), (2, .ref (Z.2.2.1 27 0)), (3, .int (nI i))] []) {I : SI} {J : SJ} (hrs0 : RS I J) : GL X 4 Z Q I J 477 [(0, .ref b), (1, .ref (Z.2.2.1 0 0)), (2, .ref (Z.2.2.1 27 0)), (3, .int (nI i))] [] := by
  obtain ⟨n, T, Lb, ah, nm, hci, hmi⟩ := hrs0
  refine h_aldn C dL_law_477 rfl ?_
  refine h_aldn C dL_law_478 rfl ?_
  refine h_ildn C dL_law_479 rfl ?_
  refine h_iconst C (nI 1) dL_law_480 (by decide) ?_
  refine h_iadd (v := nI (i + 1)) C dL_law_481 (nI_add _ _) ?_
  refine h_sld C hX hbl hbA (i := i + 1) (by omega) (by omega) dL_law_482 ?_
  refine h_callV (As := [.int (xs (nI (i + 1)).toNatClampNeg)]) (st := []) C hrc hrs (c_X5_compare hA hci (xs (nI (i + 1)).toNatClampNeg)) wX5_compare iX5_compare sX5_compare mL_70 0 0 (by decide) (by decide) rfl rfl rfl rfl rfl rfl rfl rfl dL_law_483 ?_
  rintro v1 I1 J1 hc1
  obtain ⟨r1, e1, hk1⟩ := sh_compare (ah := ah) (nm := nm) hc1
  subst e1
  show GL X 4 Z Q I1 J1 486 [(0, .ref b), (1, .ref (Z.2.2.1 0 0)), (2, .ref (Z.2.2.1 27 0)), (3, .int (nI i))] [.int r1]
  refine h_aldn C dL_law_486 rfl ?_
  refine h_aldn C dL_law_487 rfl ?_
  refine h_ildn C dL_law_488 rfl ?_
  refine h_iconst C (nI 1) dL_law_489 (by decide) ?_
  refine h_iadd (v := nI (i + 1)) C dL_law_490 (nI_add _ _) ?_
  refine h_sld C hX hbl hbA (i := i + 1) (by omega) (by omega) dL_law_491 ?_
  refine h_callV (As := [.int (xs (nI (i + 1)).toNatClampNeg)]) (st := [.int r1]) C hrc hrs (c_X6_compare hA (hmi.keep hk1)  (xs (nI (i + 1)).toNatClampNeg)) wX6_compare iX6_compare sX6_compare mL_73 27 0 (by decide) (by decide) rfl rfl rfl rfl rfl rfl rfl rfl dL_law_492 ?_
  rintro v2 I2 J2 hm2
  obtain ⟨r, p1, p2, hrs2⟩ := mt_compare hci hc1 hm2
  subst p2
  have e := some_int p1
  subst e
  show GL X 4 Z Q I2 J2 495 [(0, .ref b), (1, .ref (Z.2.2.1 0 0)), (2, .ref (Z.2.2.1 27 0)), (3, .int (nI i))] [.int r1, .int r1]
  exact h_icmp_eq (tgt := 523) C dL_law_495 rfl (fun _ => hnext I2 J2 hrs2) (fun q => absurd rfl q)
set_option maxRecDepth 100000 in
set_option maxHeartbeats 4000000 in
theorem law_14 {X : Pk} {Z : Zk} {Q : State → Prop} (hA : AJ Z.2.2.1) (C : Cx X cL_law 4 RL Z 2048 84000) (hrc : 600 ≤ (xR X).cells) (hrs : 9000 ≤ (xR X).slots) {b L : Nat} {xs : Nat → Int32} (hX : va_X b L xs (xS X) (xS X).heap) (hbl : b < (xS X).heap.size) (hbA : ¬ Z.2.2.2 b) (hL : L ≤ 2560) {i : Nat} (hi : i + 5 ≤ L) (hnext : ∀ I J, RS I J → GL X 4 Z Q I J 523 [(0, .ref b), (1, .ref (Z.2.2.1 0 0)), (2, .ref (Z.2.2.1 27 0)), (3, .int (nI i))] []) {I : SI} {J : SJ} (hrs0 : RS I J) : GL X 4 Z Q I J 500 [(0, .ref b), (1, .ref (Z.2.2.1 0 0)), (2, .ref (Z.2.2.1 27 0)), (3, .int (nI i))] [] := by
  obtain ⟨n, T, Lb, ah, nm, hci, hmi⟩ := hrs0
  refine h_aldn C dL_law_500 rfl ?_
  refine h_aldn C dL_law_501 rfl ?_
  refine h_ildn C dL_law_502 rfl ?_
  refine h_iconst C (nI 1) dL_law_503 (by decide) ?_
  refine h_iadd (v := nI (i + 1)) C dL_law_504 (nI_add _ _) ?_
  refine h_sld C hX hbl hbA (i := i + 1) (by omega) (by omega) dL_law_505 ?_
  refine h_callV (As := [.int (xs (nI (i + 1)).toNatClampNeg)]) (st := []) C hrc hrs (c_X5_count hA hci (xs (nI (i + 1)).toNatClampNeg)) wX5_count iX5_count sX5_count mL_74 0 0 (by decide) (by decide) rfl rfl rfl rfl rfl rfl rfl rfl dL_law_506 ?_
  rintro v1 I1 J1 hc1
  obtain ⟨r1, e1, hk1⟩ := sh_count (ah := ah) (nm := nm) hc1
  subst e1
  show GL X 4 Z Q I1 J1 509 [(0, .ref b), (1, .ref (Z.2.2.1 0 0)), (2, .ref (Z.2.2.1 27 0)), (3, .int (nI i))] [.int r1]
  refine h_aldn C dL_law_509 rfl ?_
  refine h_aldn C dL_law_510 rfl ?_
  refine h_ildn C dL_law_511 rfl ?_
  refine h_iconst C (nI 1) dL_law_512 (by decide) ?_
  refine h_iadd (v := nI (i + 1)) C dL_law_513 (nI_add _ _) ?_
  refine h_sld C hX hbl hbA (i := i + 1) (by omega) (by omega) dL_law_514 ?_
  refine h_callV (As := [.int (xs (nI (i + 1)).toNatClampNeg)]) (st := [.int r1]) C hrc hrs (c_X6_count hA (hmi.keep hk1) hci.2.1 (xs (nI (i + 1)).toNatClampNeg)) wX6_count iX6_count sX6_count mL_77 27 0 (by decide) (by decide) rfl rfl rfl rfl rfl rfl rfl rfl dL_law_515 ?_
  rintro v2 I2 J2 hm2
  obtain ⟨r, p1, p2, hrs2⟩ := mt_count hci hc1 hm2
  subst p2
  have e := some_int p1
  subst e
  show GL X 4 Z Q I2 J2 518 [(0, .ref b), (1, .ref (Z.2.2.1 0 0)), (2, .ref (Z.2.2.1 27 0)), (3, .int (nI i))] [.int r1, .int r1]
  exact h_icmp_eq (tgt := 523) C dL_law_518 rfl (fun _ => hnext I2 J2 hrs2) (fun q => absurd rfl q)
set_option maxRecDepth 100000 in
set_option maxHeartbeats 4000000 in
theorem law_loop {X : Pk} {Z : Zk} {Q : State → Prop} (hA : AJ Z.2.2.1) (C : Cx X cL_law 4 RL Z 2048 84000) (hrc : 600 ≤ (xR X).cells) (hrs : 9000 ≤ (xR X).slots) {b L : Nat} {xs : Nat → Int32} (hX : va_X b L xs (xS X) (xS X).heap) (hbl : b < (xS X).heap.size) (hbA : ¬ Z.2.2.2 b) (hL : L ≤ 2560) (hend : ∀ I J, GL X 4 Z Q I J 529 [(0, .ref b)] []) : ∀ (k i : Nat) (I : SI) (J : SJ), 2600 - i < k → i ≤ 2600 → RS I J → GL X 4 Z Q I J 18 [(0, .ref b), (1, .ref (Z.2.2.1 0 0)), (2, .ref (Z.2.2.1 27 0)), (3, .int (nI i))] [] := by
  intro k
  induction k with
  | zero => intro i I J h; exact absurd h (Nat.not_lt_zero _)
  | succ k ih =>
    intro i I J hk hi0 hrs0
    refine h_ildn C dL_law_18 rfl ?_
    refine h_aldn C dL_law_19 rfl ?_
    refine h_slen C hX hbl hbA dL_law_20 ?_
    refine h_iconst C (nI 5) dL_law_21 (by decide) ?_
    refine h_isub (v := nI L - nI 5) C dL_law_22 rfl ?_
    refine h_icmp_gt (tgt := 529) C dL_law_23 rfl (fun _ => h_lv [0] rfl (hend I J)) (fun c23 => ?_)
    have hi : i + 5 ≤ L := by
      rcases Nat.lt_or_ge L 5 with q | q
      · exact absurd (Int32.lt_of_lt_of_le (sub_neg (by omega) (by omega) q) (nI_le (a := 0) (b := i) (by omega) (by omega))) c23
      · rw [pk_sub q] at c23
        rcases Nat.lt_or_ge L (i + 5) with z | z
        · exact absurd ((nI_ltI (by omega) (by omega)).mpr (show L - 5 < i by omega)) c23
        · exact z
    have hnext : ∀ I J, RS I J → GL X 4 Z Q I J 523 [(0, .ref b), (1, .ref (Z.2.2.1 0 0)), (2, .ref (Z.2.2.1 27 0)), (3, .int (nI i))] [] := fun I J h => by
      refine h_iinc (lv' := [(3, .int (nI (i + 5))), (0, .ref b), (1, .ref (Z.2.2.1 0 0)), (2, .ref (Z.2.2.1 27 0))]) C (nI (i + 5)) dL_law_523 rfl (nI_add _ _) rfl rfl ?_
      refine h_goto (tgt := 18) C dL_law_526 rfl ?_
      refine h_lv (lv1 := [(0, .ref b), (1, .ref (Z.2.2.1 0 0)), (2, .ref (Z.2.2.1 27 0)), (3, .int (nI (i + 5)))]) [1, 2, 3, 0] rfl ?_
      exact ih (i + 5) I J (by omega) (by omega) h
    refine h_aldn C dL_law_26 rfl ?_
    refine h_ildn C dL_law_27 rfl ?_
    refine h_sld C hX hbl hbA (i := i) (by omega) (by omega) dL_law_28 ?_
    refine h_bipush C (nI 15) dL_law_29 (by decide) ?_
    obtain ⟨t, ht, et⟩ := and15 (xs (nI i).toNatClampNeg)
    refine h_iand (v := nI t) C dL_law_31 et ?_
    rcases (show t = 0 ∨ t = 1 ∨ t = 2 ∨ t = 3 ∨ t = 4 ∨ t = 5 ∨ t = 6 ∨ t = 7 ∨ t = 8 ∨ t = 9 ∨ t = 10 ∨ t = 11 ∨ t = 12 ∨ t = 13 ∨ t = 14 ∨ t = 15 by omega) with q | q | q | q | q | q | q | q | q | q | q | q | q | q | q | q
    · subst q
      exact h_tabIn (tgt := 108) C dL_law_32 (by decide) (by decide) rfl rfl (law_0 hA C hrc hrs hX hbl hbA hL hi hnext hrs0)
    · subst q
      exact h_tabIn (tgt := 131) C dL_law_32 (by decide) (by decide) rfl rfl (law_1 hA C hrc hrs hX hbl hbA hL hi hnext hrs0)
    · subst q
      exact h_tabIn (tgt := 184) C dL_law_32 (by decide) (by decide) rfl rfl (law_2 hA C hrc hrs hX hbl hbA hL hi hnext hrs0)
    · subst q
      exact h_tabIn (tgt := 227) C dL_law_32 (by decide) (by decide) rfl rfl (law_3 hA C hrc hrs hX hbl hbA hL hi hnext hrs0)
    · subst q
      exact h_tabIn (tgt := 270) C dL_law_32 (by decide) (by decide) rfl rfl (law_4 hA C hrc hrs hX hbl hbA hL hi hnext hrs0)
    · subst q
      exact h_tabIn (tgt := 293) C dL_law_32 (by decide) (by decide) rfl rfl (law_5 hA C hrc hrs hX hbl hbA hL hi hnext hrs0)
    · subst q
      exact h_tabIn (tgt := 306) C dL_law_32 (by decide) (by decide) rfl rfl (law_6 hA C hrc hrs hX hbl hbA hL hi hnext hrs0)
    · subst q
      exact h_tabIn (tgt := 339) C dL_law_32 (by decide) (by decide) rfl rfl (law_7 hA C hrc hrs hX hbl hbA hL hi hnext hrs0)
    · subst q
      exact h_tabIn (tgt := 352) C dL_law_32 (by decide) (by decide) rfl rfl (law_8 hA C hrc hrs hX hbl hbA hL hi hnext hrs0)
    · subst q
      exact h_tabIn (tgt := 375) C dL_law_32 (by decide) (by decide) rfl rfl (law_9 hA C hrc hrs hX hbl hbA hL hi hnext hrs0)
    · subst q
      exact h_tabIn (tgt := 388) C dL_law_32 (by decide) (by decide) rfl rfl (law_10 hA C hrc hrs hX hbl hbA hL hi hnext hrs0)
    · subst q
      exact h_tabIn (tgt := 411) C dL_law_32 (by decide) (by decide) rfl rfl (law_11 hA C hrc hrs hX hbl hbA hL hi hnext hrs0)
    · subst q
      exact h_tabIn (tgt := 444) C dL_law_32 (by decide) (by decide) rfl rfl (law_12 hA C hrc hrs hX hbl hbA hL hi hnext hrs0)
    · subst q
      exact h_tabIn (tgt := 477) C dL_law_32 (by decide) (by decide) rfl rfl (law_13 hA C hrc hrs hX hbl hbA hL hi hnext hrs0)
    · subst q
      exact h_tabIn (tgt := 500) C dL_law_32 (by decide) (by decide) rfl rfl (law_14 hA C hrc hrs hX hbl hbA hL hi hnext hrs0)
    · subst q
      exact h_tabOut (tgt := 523) C dL_law_32 (by decide) rfl (hnext I J hrs0)

