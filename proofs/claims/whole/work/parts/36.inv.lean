/-! ===== the class's object: what its cells mean ===== -/
def PTk (I : SI) (n : Nat) (T : Nat → Nat → Nat) (L : Nat → Nat → Nat → Nat) (k : Nat) : Prop := rnd n T L k ∧ I 10 0 0 = nI (ms n T L k) ∧ ∀ g v, g < 2 → v < n → I 7 g v = nI (col n T L k g v)
def SYk (I : SI) (n : Nat) (T : Nat → Nat → Nat) (L : Nat → Nat → Nat → Nat) (g : Nat) : Prop := I 2 g 5 = nI (sn n T L g n) ∧ ∃ o : Nat → Nat, (∀ v, v < n → I 8 g v = nI (o v)) ∧ OR n T L g o (fun _ _ => True)
def FMk (J : SJ) (n : Nat) (T : Nat → Nat → Nat) (L : Nat → Nat → Nat → Nat) (g : Nat) : Prop := ∃ B : Nat → Nat, (∀ i, i < n → J 9 g i = lN (B i) ∧ B i ≤ 2 ^ 40) ∧ frm n T L g B
def ATk (I : SI) (n : Nat) (T : Nat → Nat → Nat) (L : Nat → Nat → Nat → Nat) (nm : Nat → Nat) : Prop := (∀ i, i < n → I 18 0 i = nI (nm i)) ∧ tr n T L 0 1 nm n
def SF (I : SI) (J : SJ) (n : Nat) (T : Nat → Nat → Nat) (L : Nat → Nat → Nat → Nat) (g : Nat) : Prop := (∃ sk : Bool, I 2 g 6 = bI sk ∧ (sk = true → SYk I n T L g)) ∧ ∃ fk : Bool, I 2 g 8 = bI fk ∧ (fk = true → FMk J n T L g)
def CI (I : SI) (J : SJ) (n : Nat) (T : Nat → Nat → Nat) (L : Nat → Nat → Nat → Nat) (ah : Bool) (nm : Nat → Nat) : Prop :=
  CV I n T L ∧ (∀ g v, g < 2 → v < n → L g v v = 0) ∧ (∃ pt : Bool, I 0 0 5 = bI pt ∧ (pt = true → ∃ k, PTk I n T L k)) ∧ I 0 0 6 = bI ah ∧ (ah = true → I 0 0 5 = bI true ∧ ATk I n T L nm) ∧ ∀ g, g < 2 → SF I J n T L g
theorem PTk.cc {I : SI} {n : Nat} {T : Nat → Nat → Nat} {L : Nat → Nat → Nat → Nat} {k : Nat} (hn : n ≤ 9) (h : PTk I n T L k) : CC I n (col n T L k) := fun g hg v hv => ⟨h.2.2 g v hg hv, cs_lt k ⟨by omega, by omega⟩⟩
theorem SF.of {I I' : SI} {J J' : SJ} {n : Nat} {T : Nat → Nat → Nat} {L : Nat → Nat → Nat → Nat} {g : Nat} (h : SF I J n T L g) (h2 : I' 2 g = I 2 g) (h8 : I' 8 g = I 8 g) (h9 : J' 9 g = J 9 g) : SF I' J' n T L g := by
  unfold SF SYk FMk
  rw [h2, h8, h9]
  exact h
theorem CI.upd {I I' : SI} {J J' : SJ} {n : Nat} {T : Nat → Nat → Nat} {L : Nat → Nat → Nat → Nat} {ah : Bool} {nm : Nat → Nat} (h : CI I J n T L ah nm) (h2 : I' 2 = I 2) (h3 : I' 3 = I 3) (h5 : I' 5 = I 5) (h8 : I' 8 = I 8) (h18 : I' 18 0 = I 18 0) (h9 : J' 9 = J 9) (h06 : I' 0 0 6 = I 0 0 6) (hp : ∃ pt : Bool, I' 0 0 5 = bI pt ∧ (pt = true → ∃ k, PTk I' n T L k)) (hp2 : ah = true → I' 0 0 5 = bI true) : CI I' J' n T L ah nm := by
  refine ⟨h.1.of h2 h3 h5, h.2.1, hp, h06.trans h.2.2.2.1, fun ha => ⟨hp2 ha, ?_⟩, fun g hg => (h.2.2.2.2.2 g hg).of (by rw [h2]) (by rw [h8]) (by rw [h9])⟩
  unfold ATk
  rw [h18]
  exact (h.2.2.2.2.1 ha).2
theorem rv_g {T T' : Nat → Nat → Nat} {L L' : Nat → Nat → Nat → Nat} {g : Nat} (hT : T' g = T g) (hL : L' g = L g) (f : Nat → Nat) : ∀ d w, rv T' L' g f d w = rv T L g f d w
  | 0, w => by show T' g w = T g w; rw [hT]
  | d + 1, w => by
    show rv T' L' g f d w * 16 + pr L' g w (f d) = rv T L g f d w * 16 + pr L g w (f d)
    rw [rv_g hT hL f d w]
    unfold pr
    rw [hL]
theorem tr_g {n : Nat} {T T' : Nat → Nat → Nat} {L L' : Nat → Nat → Nat → Nat} {g : Nat} (hT : T' g = T g) (hL : L' g = L g) (f : Nat → Nat) (k : Nat) : tr n T' L' g g f k ↔ tr n T L g g f k := by
  unfold tr ftn
  rw [hT, hL]
theorem syn_g {n : Nat} {T T' : Nat → Nat → Nat} {L L' : Nat → Nat → Nat → Nat} {g : Nat} (hT : T' g = T g) (hL : L' g = L g) (v w : Nat) (f : Nat → Nat) : syn n T' L' g v w f ↔ syn n T L g v w f := by
  unfold syn
  rw [tr_g hT hL]
theorem sn_g {n : Nat} {T T' : Nat → Nat → Nat} {L L' : Nat → Nat → Nat → Nat} {g : Nat} (hT : T' g = T g) (hL : L' g = L g) : ∀ v, sn n T' L' g v = sn n T L g v
  | 0 => rfl
  | v + 1 => by
    show sn n T' L' g v * (1 + ct (fun w => dc (v < w ∧ ∃ f, syn n T' L' g v w f)) n) = sn n T L g v * (1 + ct (fun w => dc (v < w ∧ ∃ f, syn n T L g v w f)) n)
    have e : ct (fun w => dc (v < w ∧ ∃ f, syn n T' L' g v w f)) n = ct (fun w => dc (v < w ∧ ∃ f, syn n T L g v w f)) n := ct_congr n (fun w _ => dc_congr ⟨fun q => ⟨q.1, q.2.elim (fun f b => ⟨f, (syn_g hT hL v w f).mp b⟩)⟩, fun q => ⟨q.1, q.2.elim (fun f b => ⟨f, (syn_g hT hL v w f).mpr b⟩)⟩⟩)
    rw [sn_g hT hL v, e]
theorem SF.g {I : SI} {J : SJ} {n : Nat} {T T' : Nat → Nat → Nat} {L L' : Nat → Nat → Nat → Nat} {g : Nat} (hT : T' g = T g) (hL : L' g = L g) (h : SF I J n T L g) : SF I J n T' L' g := by
  obtain ⟨⟨sk, h1, h2⟩, fk, h3, h4⟩ := h
  refine ⟨⟨sk, h1, fun q => ?_⟩, fk, h3, fun q => ?_⟩
  · obtain ⟨a1, o, a2, a3⟩ := h2 q
    refine ⟨by rw [sn_g hT hL]; exact a1, o, a2, a3.1, fun v w b1 b2 b3 ⟨f, b4⟩ => ?_, fun R hR r1 => a3.2.2 R hR (fun f hf => r1 f ((tr_g hT hL f n).mpr hf))⟩
    obtain ⟨f2, e1, e2⟩ := a3.2.1 v w b1 b2 b3 ⟨f, (syn_g hT hL v w f).mp b4⟩
    exact ⟨f2, (syn_g hT hL v w f2).mpr e1, e2⟩
  · obtain ⟨B, a1, ⟨f, a2, a3⟩, a4⟩ := h4 q
    have hR : ∀ f i, Rq T' L' g f i = Rq T L g f i := fun f i => rv_g hT hL f i (f i)
    refine ⟨B, a1, ⟨f, a2, fun i hi => by rw [hR]; exact a3 i hi⟩, fun f2 b => ?_⟩
    rcases a4 f2 b with q2 | q2
    · exact Or.inl (lx_r q2 (fun i _ => (hR f2 i).symm))
    · exact Or.inr (fun i hi => by rw [hR]; exact q2 i hi)
/-- behind a change of graph g (its marks cleared): the other graph's findings stay -/
theorem CI.chg {I I' : SI} {J J' : SJ} {n : Nat} {T T' : Nat → Nat → Nat} {L L' : Nat → Nat → Nat → Nat} {ah : Bool} {nm : Nat → Nat} {g : Nat} (h : CI I J n T L ah nm) (hv : CV I' n T' L') (hd : ∀ g v, g < 2 → v < n → L' g v v = 0) (h05 : I' 0 0 5 = nI 0) (h06 : I' 0 0 6 = nI 0) (hg6 : I' 2 g 6 = nI 0) (hg8 : I' 2 g 8 = nI 0) (ho : ∀ a, a ≠ g → T' a = T a ∧ L' a = L a ∧ I' 2 a = I 2 a) (h8 : I' 8 = I 8) (h9 : J' 9 = J 9) (nm' : Nat → Nat) : CI I' J' n T' L' false nm' := by
  refine ⟨hv, hd, ⟨false, h05, fun q => absurd q (by decide)⟩, h06, fun q => absurd q (by decide), fun a ha => ?_⟩
  by_cases e : a = g
  · subst e; exact ⟨⟨false, hg6, fun q => absurd q (by decide)⟩, false, hg8, fun q => absurd q (by decide)⟩
  · obtain ⟨o1, o2, o3⟩ := ho a e
    exact ((h.2.2.2.2.2 a ha).of o3 (by rw [h8]) (by rw [h9])).g o1 o2
/-- the reference's cells stay -/
def keep (I I' : SI) : Prop := ∀ q, 27 ≤ q → I' q = I q
