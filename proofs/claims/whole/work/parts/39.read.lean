/-! reading, square by square -/
/-- the place, blocks, their facts -/
abbrev RS := Nat × Nat × (Nat → Int)
def rBind (s : Nat ⊕ RS) (k : RS → Nat ⊕ RS) : Nat ⊕ RS := Sum.elim (fun e => .inl e) k s
def rLeaf (g : Nat → Nat) (T w h x y : Nat) (q : RS) : Nat ⊕ RS := Sum.elim (fun e => .inl e) (fun b => .inr (b.2, q.2.1 + 1, addF q.2.2 q.2.1 x y (2 * h) b.1)) (rFit g T w h q.1)
def rSq (g : Nat → Nat) (T w least : Nat) : Nat → Nat → Nat → RS → Nat ⊕ RS
  | 0, x, y, q => rLeaf g T w (2 ^ 0) x y q
  | d + 1, x, y, q => if 2 * 2 ^ (d + 1) ≤ least then rLeaf g T w (2 ^ (d + 1)) x y q
    else if q.1 + 1 ≤ T then
      (if bt g q.1 = 1 then rBind (rSq g T w least d x y (q.1 + 1, q.2)) (fun q1 => rBind (rSq g T w least d (x + 2 * 2 ^ d) y q1) (fun q2 => rBind (rSq g T w least d x (y + 2 * 2 ^ d) q2) (fun q3 => rSq g T w least d (x + 2 * 2 ^ d) (y + 2 * 2 ^ d) q3)))
      else rLeaf g T w (2 ^ (d + 1)) x y (q.1 + 1, q.2))
    else .inl 3
def rQ (g : Nat → Nat) (T w least d x y : Nat) (q : RS) : Nat ⊕ RS := rBind (rSq g T w least d x y q) (fun q1 => rBind (rSq g T w least d (x + 2 * 2 ^ d) y q1) (fun q2 => rBind (rSq g T w least d x (y + 2 * 2 ^ d) q2) (fun q3 => rSq g T w least d (x + 2 * 2 ^ d) (y + 2 * 2 ^ d) q3)))
/-- what a square adds at most -/
def rLe (T a : Nat) (q : RS) (s : Nat ⊕ RS) : Prop := ∀ q', s = .inr q' → q'.1 ≤ T ∧ q'.2.1 ≤ q.2.1 + a
theorem rFit_le {g : Nat → Nat} {T w h t : Nat} {b : Fit5 × Nat} (e : rFit g T w h t = .inr b) : b.2 ≤ T ∧ b.1.1 < dac w h * dac w h ∧ b.1.2.1 < 8 ∧ -7 ≤ b.1.2.2.1 ∧ b.1.2.2.1 ≤ 7 ∧ -256 ≤ b.1.2.2.2.1 ∧ b.1.2.2.2.1 ≤ 767 := by
  unfold rFit at e
  generalize db (dac w h * dac w h) = D at e
  have b2 : tk g (t + D) 3 < 2 ^ 3 := tk_lt g (t + D) 3
  have b4 : tk g (t + D + 3 + 4) 10 < 2 ^ 10 := tk_lt g (t + D + 3 + 4) 10
  by_cases c1 : t + D ≤ T
  · rw [if_pos c1] at e
    by_cases c2 : tk g t D < dac w h * dac w h
    · rw [if_pos c2] at e
      by_cases c3 : t + D + 3 ≤ T
      · rw [if_pos c3] at e
        by_cases c4 : t + D + 3 + 4 ≤ T
        · rw [if_pos c4] at e
          by_cases c5 : tk g (t + D + 3) 4 ≤ 14
          · rw [if_pos c5] at e
            by_cases c6 : t + D + 3 + 4 + 10 ≤ T
            · rw [if_pos c6] at e
              have e := Sum.inr.inj e
              subst e
              dsimp only
              refine ⟨c6, c2, b2, ?_, ?_, ?_, ?_⟩ <;> omega
            · rw [if_neg c6] at e; cases e
          · rw [if_neg c5] at e; cases e
        · rw [if_neg c4] at e; cases e
      · rw [if_neg c3] at e; cases e
    · rw [if_neg c2] at e; cases e
  · rw [if_neg c1] at e; cases e
theorem rLeaf_le {g : Nat → Nat} {T w h x y : Nat} {q : RS} : rLe T 1 q (rLeaf g T w h x y q) := by
  intro q' e
  unfold rLeaf at e
  cases hb : rFit g T w h q.1 with
  | inl e2 => rw [hb] at e; cases e
  | inr b =>
    rw [hb] at e
    have e := Sum.inr.inj e
    subst e
    exact ⟨(rFit_le hb).1, Nat.le_refl _⟩
theorem rBind_le {T a c : Nat} {q : RS} {s : Nat ⊕ RS} {k : RS → Nat ⊕ RS} (h1 : rLe T a q s) (h2 : ∀ q1, q1.1 ≤ T → rLe T c q1 (k q1)) : rLe T (a + c) q (rBind s k) := by
  intro q' e
  cases s with
  | inl e2 => cases e
  | inr q1 =>
    have a1 := h1 q1 rfl
    have a2 := h2 q1 a1.1 q' e
    exact ⟨a2.1, by omega⟩
theorem rLe_mono {T a c : Nat} {q : RS} {s : Nat ⊕ RS} (h : rLe T a q s) (hc : a ≤ c) : rLe T c q s := fun q' e => ⟨(h q' e).1, by have := (h q' e).2; omega⟩
theorem rSq_le {g : Nat → Nat} {T w least : Nat} : ∀ (d x y : Nat) (q : RS), rLe T (4 ^ d) q (rSq g T w least d x y q) := by
  intro d
  induction d with
  | zero => intro x y q; rw [rSq]; exact rLeaf_le
  | succ d ih =>
    intro x y q
    have f1 := four_pos d
    have f2 := four_succ d
    rw [rSq]
    split
    · exact rLe_mono rLeaf_le (by omega)
    · split
      · split
        · have := rBind_le (ih x y (q.1 + 1, q.2)) (fun q1 _ => rBind_le (ih (x + 2 * 2 ^ d) y q1) (fun q2 _ => rBind_le (ih x (y + 2 * 2 ^ d) q2) (fun q3 _ => ih (x + 2 * 2 ^ d) (y + 2 * 2 ^ d) q3)))
          intro q' e
          have := this q' e
          exact ⟨this.1, by have := this.2; dsimp only at this; omega⟩
        · intro q' e
          have := rLeaf_le q' e
          exact ⟨this.1, by have := this.2; dsimp only at this; omega⟩
      · intro q' e; cases e
/-! the class -/
abbrev Z8 := Int32 × (Nat → Int32) × Int32 × Int32 × Int32 × Int32 × Int32 × Int32
def zRel (kp : Nat) (k0 : Int32) (K0 : Nat → Int32) (q : RS) (z : Z8) : Prop := z.2.2.2.2.2.2.2 = nI q.1 ∧ (kp = 0 → z.1 = k0 ∧ z.2.1 = K0) ∧ (kp ≠ 0 → z.1 = nI q.2.1 ∧ kRep 0 z.2.1 q.2.2 q.2.1)
def rOk (kp : Nat) (k0 : Int32) (K0 : Nat → Int32) (s : Nat ⊕ RS) (r : Int32 × Z8) : Prop := Sum.elim (fun e => r.1 = nI e ∧ e ≤ 4 ∧ (kp = 0 → r.2.1 = k0 ∧ r.2.2.1 = K0)) (fun q => r.1 = iM ∧ zRel kp k0 K0 q r.2) s
def cRd (kn N n : Nat) (f : Nat → Int32) (D : Nat) (x y s l kp S : Int32) (z : Z8) : Option (Int32 × Z8) := f_F_readSquare (f_F_readQuarters D) x y s l kp S z.1 kn z.2.1 z.2.2.1 z.2.2.2.1 z.2.2.2.2.1 z.2.2.2.2.2.1 z.2.2.2.2.2.2.1 (nI (8 * N)) z.2.2.2.2.2.2.2 n f
def cRq (kn N n : Nat) (f : Nat → Int32) (D : Nat) (x y s l kp S : Int32) (z : Z8) : Option (Int32 × Z8) := f_F_readQuarters D x y s l kp S z.1 kn z.2.1 z.2.2.1 z.2.2.2.1 z.2.2.2.2.1 z.2.2.2.2.2.1 z.2.2.2.2.2.2.1 (nI (8 * N)) z.2.2.2.2.2.2.2 n f
def c13 (kn N n : Nat) (f : Nat → Int32) (D : Nat) (x y s l kp S : Int32) (F : Nat) (e v : Int32) (z : Z8) : Option (Int32 × Int32 × Z8) := f_F_readQuarters_13 (f_F_readQuarters D) x y s l kp S kn (nI (8 * N)) n f F e v z.1 z.2.1 z.2.2.1 z.2.2.2.1 z.2.2.2.2.1 z.2.2.2.2.2.1 z.2.2.2.2.2.2.1 z.2.2.2.2.2.2.2
section
variable {kn N n : Nat} {f : Nat → Int32} {g : Nat → Nat} {w least kp : Nat} {k0 : Int32} {K0 : Nat → Int32}
theorem c13_end {D F : Nat} {x y s l c S e : Int32} {z : Z8} : c13 kn N n f D x y s l c S (F + 1) e (nI 4) z = some (e, nI 4, z) := by
  unfold c13
  rw [f_F_readQuarters_13, if_pos (by decide)]
theorem c13_stop {D F v : Nat} {x y s l c S e : Int32} {z : Z8} (hv : v ≤ 4) (he : e ≠ iM) : c13 kn N n f D x y s l c S (F + 1) e (nI v) z = some (e, nI v, z) := by
  unfold c13
  rw [f_F_readQuarters_13]
  by_cases g1 : (4 : Int32) ≤ nI v
  · rw [if_pos g1]
  · rw [if_neg g1, m1_iM, if_neg he]
theorem c13_step {D F v : Nat} {x y s l c S : Int32} {z : Z8} (hv : v < 4) : c13 kn N n f D x y s l c S (F + 1) iM (nI v) z = (cRd kn N n f D (x + nI (v % 2) * s) (y + nI (v / 2) * s) s l c S z).bind (fun r => c13 kn N n f D x y s l c S F r.1 (nI (v + 1)) r.2) := by
  have g1 : ¬ (4 : Int32) ≤ nI v := by rw [n4, nJ_leF (by omega) (by omega)]; exact not_false
  unfold c13 cRd
  rw [f_F_readQuarters_13, if_neg g1, m1_iM, if_pos rfl, l_across hv, l_down hv]
  simp only [Option.bind_some]
  rw [n1, nJ_add]
theorem cRq_eq {D s : Nat} {x y l c S : Int32} {z : Z8} (h2 : 2 ≤ s) (hs2 : s < 2147483648) : cRq kn N n f (D + 1) x y (nI s) l c S z = (c13 kn N n f D x y (nI s) l c S FU iM (nI 0) z).bind (fun q => some (q.1, q.2.2)) := by
  have g1 : (2 : Int32) ≤ nI s := by rw [n2, nJ_leT (by omega) (by omega)]; exact trivial
  unfold cRq c13
  rw [f_F_readQuarters, if_pos g1]
  rfl
theorem nI_ne {e : Nat} (he : e ≤ 4) : nI e ≠ iM := by
  intro h
  rw [iM_eqF (by omega)] at h
  exact h
/-- a square of this size is read rightly -/
def RdOk (kn N n : Nat) (f : Nat → Int32) (g : Nat → Nat) (w least kp : Nat) (k0 : Int32) (K0 : Nat → Int32) (d D : Nat) : Prop := ∀ (x y : Nat) (q : RS) (z : Z8), x + 2 * 2 ^ d ≤ 2 * w → y + 2 * 2 ^ d ≤ 2 * w → q.1 ≤ 8 * N → zRel kp k0 K0 q z → q.2.1 + 4 ^ d ≤ w * w →
  ∃ r, cRd kn N n f D (nI x) (nI y) (nI (2 * 2 ^ d)) (nI least) (nI kp) (nI (2 * w)) z = some r ∧ rOk kp k0 K0 (rSq g (8 * N) w least d x y q) r
theorem l_cRq {d D : Nat} (hw : w ≤ 16) (ih : RdOk kn N n f g w least kp k0 K0 d D) {x y : Nat} {q : RS} {z : Z8} (hd : 2 * 2 ^ d ≤ 64) (hx : x + 4 * 2 ^ d ≤ 2 * w) (hy : y + 4 * 2 ^ d ≤ 2 * w) (hq : q.1 ≤ 8 * N) (hz : zRel kp k0 K0 q z) (hc : q.2.1 + 4 * 4 ^ d ≤ w * w) :
    ∃ r, cRq kn N n f (D + 1) (nI x) (nI y) (nI (2 * 2 ^ d)) (nI least) (nI kp) (nI (2 * w)) z = some r ∧ rOk kp k0 K0 (rQ g (8 * N) w least d x y q) r := by
  have t1 := two_pos' d
  have hFU : FU = 1048571 + 1 + 1 + 1 + 1 + 1 := rfl
  have m0 : nI x + nI (0 % 2) * nI (2 * 2 ^ d) = nI x := by rw [nJ_mul, nJ_add]; congr 1; omega
  have m0' : nI y + nI (0 / 2) * nI (2 * 2 ^ d) = nI y := by rw [nJ_mul, nJ_add]; congr 1; omega
  have m1 : nI x + nI (1 % 2) * nI (2 * 2 ^ d) = nI (x + 2 * 2 ^ d) := by rw [nJ_mul, nJ_add]; congr 1; omega
  have m1' : nI y + nI (1 / 2) * nI (2 * 2 ^ d) = nI y := by rw [nJ_mul, nJ_add]; congr 1; omega
  have m2 : nI x + nI (2 % 2) * nI (2 * 2 ^ d) = nI x := by rw [nJ_mul, nJ_add]; congr 1; omega
  have m2' : nI y + nI (2 / 2) * nI (2 * 2 ^ d) = nI (y + 2 * 2 ^ d) := by rw [nJ_mul, nJ_add]; congr 1; omega
  have m3 : nI x + nI (3 % 2) * nI (2 * 2 ^ d) = nI (x + 2 * 2 ^ d) := by rw [nJ_mul, nJ_add]; congr 1; omega
  have m3' : nI y + nI (3 / 2) * nI (2 * 2 ^ d) = nI (y + 2 * 2 ^ d) := by rw [nJ_mul, nJ_add]; congr 1; omega
  unfold rQ
  obtain ⟨r1, a1, b1⟩ := ih x y q z (by omega) (by omega) hq hz (by omega)
  have l1 := rSq_le (g := g) (T := 8 * N) (w := w) (least := least) d x y q
  cases h1 : rSq g (8 * N) w least d x y q with
  | inl e =>
    rw [h1] at b1
    obtain ⟨u1, u2, u3⟩ := b1
    refine ⟨(r1.1, r1.2), ?_, u1, u2, u3⟩
    rw [cRq_eq (by omega) (by omega), hFU, c13_step (by omega), m0, m0', a1, Option.bind_some, c13_stop (by omega) (by rw [u1]; exact nI_ne u2)]
    rfl
  | inr q1 =>
    rw [h1] at b1 l1
    obtain ⟨u1, z1⟩ := b1
    obtain ⟨v1, v2⟩ := l1 q1 rfl
    obtain ⟨r2, a2, b2⟩ := ih (x + 2 * 2 ^ d) y q1 r1.2 (by omega) (by omega) v1 z1 (by omega)
    have l2 := rSq_le (g := g) (T := 8 * N) (w := w) (least := least) d (x + 2 * 2 ^ d) y q1
    show ∃ r, _ ∧ rOk kp k0 K0 (rBind (rSq g (8 * N) w least d (x + 2 * 2 ^ d) y q1) _) r
    cases h2 : rSq g (8 * N) w least d (x + 2 * 2 ^ d) y q1 with
    | inl e =>
      rw [h2] at b2
      obtain ⟨u1', u2, u3⟩ := b2
      refine ⟨(r2.1, r2.2), ?_, u1', u2, u3⟩
      rw [cRq_eq (by omega) (by omega), hFU, c13_step (by omega), m0, m0', a1, Option.bind_some, u1, c13_step (by omega), m1, m1', a2, Option.bind_some, c13_stop (by omega) (by rw [u1']; exact nI_ne u2)]
      rfl
    | inr q2 =>
      rw [h2] at b2 l2
      obtain ⟨u1', z2⟩ := b2
      obtain ⟨v3, v4⟩ := l2 q2 rfl
      obtain ⟨r3, a3, b3⟩ := ih x (y + 2 * 2 ^ d) q2 r2.2 (by omega) (by omega) v3 z2 (by omega)
      have l3 := rSq_le (g := g) (T := 8 * N) (w := w) (least := least) d x (y + 2 * 2 ^ d) q2
      show ∃ r, _ ∧ rOk kp k0 K0 (rBind (rSq g (8 * N) w least d x (y + 2 * 2 ^ d) q2) _) r
      cases h3 : rSq g (8 * N) w least d x (y + 2 * 2 ^ d) q2 with
      | inl e =>
        rw [h3] at b3
        obtain ⟨u1'', u2, u3⟩ := b3
        refine ⟨(r3.1, r3.2), ?_, u1'', u2, u3⟩
        rw [cRq_eq (by omega) (by omega), hFU, c13_step (by omega), m0, m0', a1, Option.bind_some, u1, c13_step (by omega), m1, m1', a2, Option.bind_some, u1', c13_step (by omega), m2, m2', a3, Option.bind_some, c13_stop (by omega) (by rw [u1'']; exact nI_ne u2)]
        rfl
      | inr q3 =>
        rw [h3] at b3 l3
        obtain ⟨u1'', z3⟩ := b3
        obtain ⟨v5, v6⟩ := l3 q3 rfl
        obtain ⟨r4, a4, b4⟩ := ih (x + 2 * 2 ^ d) (y + 2 * 2 ^ d) q3 r3.2 (by omega) (by omega) v5 z3 (by omega)
        refine ⟨(r4.1, r4.2), ?_, b4⟩
        rw [cRq_eq (by omega) (by omega), hFU, c13_step (by omega), m0, m0', a1, Option.bind_some, u1, c13_step (by omega), m1, m1', a2, Option.bind_some, u1', c13_step (by omega), m2, m2', a3, Option.bind_some, u1'', c13_step (by omega), m3, m3', a4, Option.bind_some, c13_end]
        rfl
/-- a leaf of the class -/
def rdLeaf (kn N n : Nat) (f : Nat → Int32) (x y s kp S : Int32) (z : Z8) : Option (Int32 × Z8) := (f_F_readFit s S z.2.2.1 z.2.2.2.1 z.2.2.2.2.1 z.2.2.2.2.2.1 z.2.2.2.2.2.2.1 (nI (8 * N)) z.2.2.2.2.2.2.2 n f).bind (fun q => if q.1 = iM then (if kp = 0 then some (q.1, z.1, z.2.1, q.2.1, q.2.2.1, q.2.2.2.1, q.2.2.2.2.1, q.2.2.2.2.2.1, q.2.2.2.2.2.2) else ((f_K_add x y s z.1 kn z.2.1 q.2.1 q.2.2.1 q.2.2.2.1 q.2.2.2.2.1 q.2.2.2.2.2.1).bind (fun c => some (q.1, c.1, c.2, q.2.1, q.2.2.1, q.2.2.2.1, q.2.2.2.2.1, q.2.2.2.2.2.1, q.2.2.2.2.2.2)))) else some (q.1, z.1, z.2.1, q.2.1, q.2.2.1, q.2.2.2.1, q.2.2.2.2.1, q.2.2.2.2.2.1, q.2.2.2.2.2.2))
theorem l_rdLeaf {h x y : Nat} {q : RS} {z : Z8} (hw : w ≤ 16) (h1 : 0 < h) (h2 : 2 * h ≤ w) (hN : N ≤ n) (hn : n ≤ 2000) (hr : fRep f g N) (hkn : kn = 8 * (w * w)) (hkp : kp < 2) (hq : q.1 ≤ 8 * N) (hz : zRel kp k0 K0 q z) (hc : q.2.1 + 1 ≤ w * w) :
    ∃ r, rdLeaf kn N n f (nI x) (nI y) (nI (2 * h)) (nI kp) (nI (2 * w)) z = some r ∧ rOk kp k0 K0 (rLeaf g (8 * N) w h x y q) r := by
  have hww : w * w ≤ 16 * 16 := Nat.mul_le_mul hw hw
  obtain ⟨e1, e2, e3⟩ := hz
  unfold rdLeaf rLeaf
  rw [e1]
  obtain ⟨r, c1, c2⟩ := l_F_readFit (w := w) (h := h) (t := q.1) (a1 := z.2.2.1) (a2 := z.2.2.2.1) (a3 := z.2.2.2.2.1) (a4 := z.2.2.2.2.2.1) (a5 := z.2.2.2.2.2.2.1) hw h1 h2 hq hN hn hr
  rw [c1, Option.bind_some]
  cases hb : rFit g (8 * N) w h q.1 with
  | inl e =>
    rw [hb] at c2
    obtain ⟨u1, u2⟩ := c2
    rw [if_neg (by rw [u1]; exact nI_ne u2)]
    exact ⟨_, rfl, u1, u2, e2⟩
  | inr b =>
    rw [hb] at c2
    have c2 : r = _ := c2
    rw [c2, if_pos rfl]
    by_cases k : kp = 0
    · rw [if_pos (by rw [k]; rfl)]
      exact ⟨_, rfl, rfl, rfl, e2, fun h => absurd k h⟩
    · have kk : ¬ nI kp = 0 := by rw [n0, nJ_eqF k (by omega) (by omega)]; exact not_false
      obtain ⟨e4, e5⟩ := e3 k
      obtain ⟨K', k1, k2⟩ := l_K_add (x := x) (y := y) (s := 2 * h) (c := q.2.1) (n := kn) (f := z.2.1) (F := q.2.2) (B := b.1) (by omega) (by omega) e5
      rw [if_neg kk, e4]
      dsimp only
      rw [k1]
      exact ⟨_, rfl, rfl, rfl, fun h => absurd h k, fun _ => ⟨rfl, k2⟩⟩
theorem l_cRd (hw : w ≤ 16) (hl2 : 2 ≤ least) (hl : least ≤ 16) (hN : N ≤ n) (hn : n ≤ 2000) (hr : fRep f g N) (hkn : kn = 8 * (w * w)) (hkp : kp < 2) :
    ∀ d, 2 * 2 ^ d ≤ w → ∀ D, d ≤ D → RdOk kn N n f g w least kp k0 K0 d D := by
  intro d
  induction d with
  | zero =>
    intro hd D hD x y q z hx hy hq hz hc
    have e4 : 4 ^ 0 = 1 := rfl
    rw [e4] at hc
    rw [rSq]
    obtain ⟨r, c1, c2⟩ := l_rdLeaf (x := x) (y := y) (kp := kp) hw (show 0 < 2 ^ 0 by omega) hd hN hn hr hkn hkp hq hz hc
    refine ⟨r, ?_, c2⟩
    have g1 : nI (2 * 2 ^ 0) ≤ nI least := by rw [nJ_leT (by omega) (by omega)]; exact trivial
    unfold cRd f_F_readSquare
    rw [if_pos g1, if_neg (by decide), if_neg (by decide)]
    exact c1
  | succ d ih =>
    intro hd D hD x y q z hx hy hq hz hc
    have f1 := four_pos d
    have f2 := four_succ d
    have t1 := two_pos' d
    have t2 := two_succ d
    rw [rSq]
    by_cases g0 : 2 * 2 ^ (d + 1) ≤ least
    · rw [if_pos g0]
      obtain ⟨r, c1, c2⟩ := l_rdLeaf (x := x) (y := y) (kp := kp) hw (show 0 < 2 ^ (d + 1) by omega) hd hN hn hr hkn hkp hq hz (by omega)
      refine ⟨r, ?_, c2⟩
      have g1 : nI (2 * 2 ^ (d + 1)) ≤ nI least := by rw [nJ_leT (by omega) (by omega)]; exact trivial
      unfold cRd f_F_readSquare
      rw [if_pos g1, if_neg (by decide), if_neg (by decide)]
      exact c1
    · rw [if_neg g0]
      have g1 : ¬ nI (2 * 2 ^ (d + 1)) ≤ nI least := by rw [nJ_leF (by omega) (by omega)]; exact not_false
      have hz0 := hz
      obtain ⟨e1, e2, e3⟩ := hz0
      by_cases c1 : q.1 + 1 ≤ 8 * N
      · rw [if_pos c1]
        have tt := l_B_take_T (k := 1) (by omega) c1 hN hn hr
        have eb : tk g q.1 1 = bt g q.1 := by
          show 2 * 0 + bt g (q.1 + 0) = _
          rw [Nat.add_zero]; omega
        rw [eb] at tt
        have lt := bt_lt g q.1
        have tt : f_B_take 1 (nI (8 * N)) z.2.2.2.2.2.2.2 n f = some (nI (bt g q.1), nI (q.1 + 1)) := by rw [e1]; exact tt
        have hz2 : zRel kp k0 K0 (q.1 + 1, q.2) (z.1, z.2.1, z.2.2.1, z.2.2.2.1, z.2.2.2.2.1, z.2.2.2.2.2.1, z.2.2.2.2.2.2.1, nI (q.1 + 1)) := ⟨rfl, e2, e3⟩
        by_cases c2 : bt g q.1 = 1
        · rw [if_pos c2]
          match D, hD with
          | D + 1, hD =>
            obtain ⟨r, k1, k2⟩ := l_cRq hw (ih (by omega) D (by omega)) (x := x) (y := y) (by omega) (by omega) (by omega) c1 hz2 (show q.2.1 + 4 * 4 ^ d ≤ w * w by omega)
            refine ⟨r, ?_, k2⟩
            have hv : nI (2 * 2 ^ (d + 1)) / 2 = nI (2 * 2 ^ d) := by rw [n2, nJ_div (by omega) (by omega)]; congr 1; omega
            unfold cRq at k1
            dsimp only at k1
            unfold cRd f_F_readSquare
            rw [if_neg g1, tt, Option.bind_some, if_neg (by rw [m1_iM]; exact nI_ne (by omega)), if_pos (by rw [c2]; rfl), hv]
            dsimp only
            rw [k1]
            rfl
        · rw [if_neg c2]
          obtain ⟨r, k1, k2⟩ := l_rdLeaf (x := x) (y := y) (kp := kp) hw (show 0 < 2 ^ (d + 1) by omega) hd hN hn hr hkn hkp c1 hz2 (show q.2.1 + 1 ≤ w * w by omega)
          refine ⟨r, ?_, k2⟩
          unfold cRd f_F_readSquare
          rw [if_neg g1, tt, Option.bind_some, if_neg (by rw [m1_iM]; exact nI_ne (by omega)), if_neg (by rw [n1, nJ_eqF c2 (by omega) (by omega)]; exact not_false)]
          exact k1
      · rw [if_neg c1]
        have tt := l_B_take_F (f := f) (k := 1) (by omega) c1 hq hN hn
        have tt : f_B_take 1 (nI (8 * N)) z.2.2.2.2.2.2.2 n f = some (iM, nI q.1) := by rw [e1]; exact tt
        unfold cRd f_F_readSquare
        rw [if_neg g1, tt, Option.bind_some, m1_iM, if_pos rfl]
        exact ⟨_, rfl, rfl, by omega, e2⟩
end
