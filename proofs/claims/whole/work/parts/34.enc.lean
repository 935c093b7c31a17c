/-! an encoding, square by square -/
/-- blocks, their facts, bits, bytes, tried -/
abbrev ES := Nat × (Nat → Int) × Nat × (Nat → Nat) × Nat
def eTr (t : Nat) (e : ES) : ES := (e.1, e.2.1, e.2.2.1, e.2.2.2.1, e.2.2.2.2 + t)
def eBit (v : Nat) (e : ES) : ES := (e.1, e.2.1, e.2.2.1 + 1, apN v 1 e.2.2.2.1 e.2.2.1, e.2.2.2.2)
def eLeaf (w h x y : Nat) (B : Fit5) (e : ES) : ES := (e.1 + 1, addF e.2.1 e.1 x y (2 * h) B, e.2.2.1 + db (dac w h * dac w h) + 17, wFit (db (dac w h * dac w h)) B e.2.2.2.1 e.2.2.1, e.2.2.2.2)
def eSq (p : Nat → Nat) (w least : Nat) (bd : Nat) : Nat → Nat → Nat → ES → ES
  | 0, x, y, e => eLeaf w (2 ^ 0) x y (best p w (2 ^ 0) x y).1 (eTr (best p w (2 ^ 0) x y).2 e)
  | d + 1, x, y, e => if 2 * 2 ^ (d + 1) ≤ least then eLeaf w (2 ^ (d + 1)) x y (best p w (2 ^ (d + 1)) x y).1 (eTr (best p w (2 ^ (d + 1)) x y).2 e)
    else if (best p w (2 ^ (d + 1)) x y).1.2.2.2.2 ≤ (bd : Int) then eLeaf w (2 ^ (d + 1)) x y (best p w (2 ^ (d + 1)) x y).1 (eBit 0 (eTr (best p w (2 ^ (d + 1)) x y).2 e))
    else eSq p w least bd d (x + 2 * 2 ^ d) (y + 2 * 2 ^ d) (eSq p w least bd d x (y + 2 * 2 ^ d) (eSq p w least bd d (x + 2 * 2 ^ d) y (eSq p w least bd d x y (eBit 1 (eTr (best p w (2 ^ (d + 1)) x y).2 e)))))
def eQ (p : Nat → Nat) (w least bd d x y : Nat) (e : ES) : ES := eSq p w least bd d (x + 2 * 2 ^ d) (y + 2 * 2 ^ d) (eSq p w least bd d x (y + 2 * 2 ^ d) (eSq p w least bd d (x + 2 * 2 ^ d) y (eSq p w least bd d x y e)))
theorem four_pos (d : Nat) : 1 ≤ 4 ^ d := Nat.pow_pos (by omega)
theorem four_succ (d : Nat) : 4 ^ (d + 1) = 4 * 4 ^ d := by rw [Nat.pow_succ, Nat.mul_comm]
theorem two_succ (d : Nat) : 2 ^ (d + 1) = 2 * 2 ^ d := by rw [Nat.pow_succ, Nat.mul_comm]
theorem two_pos' (d : Nat) : 1 ≤ 2 ^ d := Nat.pow_pos (by omega)
theorem eLeaf_le {w h x y : Nat} {B : Fit5} {e : ES} (hw : w ≤ 16) : (eLeaf w h x y B e).1 = e.1 + 1 ∧ (eLeaf w h x y B e).2.2.1 ≤ e.2.2.1 + 25 := by
  have ha := dac_le (h := h) hw
  obtain ⟨d1, _, _⟩ := db_spec (dac w h * dac w h) (by omega)
  exact ⟨rfl, by show e.2.2.1 + db (dac w h * dac w h) + 17 ≤ e.2.2.1 + 25; omega⟩
theorem eSq_le {p : Nat → Nat} {w least bd : Nat} (hw : w ≤ 16) : ∀ (d x y : Nat) (e : ES), (eSq p w least bd d x y e).1 ≤ e.1 + 4 ^ d ∧ (eSq p w least bd d x y e).2.2.1 < e.2.2.1 + 26 * 4 ^ d := by
  intro d
  induction d with
  | zero =>
    intro x y e
    rw [eSq]
    obtain ⟨h1, h2⟩ := eLeaf_le (h := 2 ^ 0) (x := x) (y := y) (B := (best p w (2 ^ 0) x y).1) (e := eTr (best p w (2 ^ 0) x y).2 e) hw
    have e1 : (eTr (best p w (2 ^ 0) x y).2 e).1 = e.1 := rfl
    have e2 : (eTr (best p w (2 ^ 0) x y).2 e).2.2.1 = e.2.2.1 := rfl
    rw [e1] at h1; rw [e2] at h2
    have : 4 ^ 0 = 1 := rfl
    omega
  | succ d ih =>
    intro x y e
    have f1 := four_pos d
    have f2 := four_succ d
    rw [eSq]
    split
    · obtain ⟨h1, h2⟩ := eLeaf_le (h := 2 ^ (d + 1)) (x := x) (y := y) (B := (best p w (2 ^ (d + 1)) x y).1) (e := eTr (best p w (2 ^ (d + 1)) x y).2 e) hw
      have e1 : (eTr (best p w (2 ^ (d + 1)) x y).2 e).1 = e.1 := rfl
      have e2 : (eTr (best p w (2 ^ (d + 1)) x y).2 e).2.2.1 = e.2.2.1 := rfl
      rw [e1] at h1; rw [e2] at h2
      omega
    · split
      · obtain ⟨h1, h2⟩ := eLeaf_le (h := 2 ^ (d + 1)) (x := x) (y := y) (B := (best p w (2 ^ (d + 1)) x y).1) (e := eBit 0 (eTr (best p w (2 ^ (d + 1)) x y).2 e)) hw
        have e1 : (eBit 0 (eTr (best p w (2 ^ (d + 1)) x y).2 e)).1 = e.1 := rfl
        have e2 : (eBit 0 (eTr (best p w (2 ^ (d + 1)) x y).2 e)).2.2.1 = e.2.2.1 + 1 := rfl
        rw [e1] at h1; rw [e2] at h2
        omega
      · have e1 : (eBit 1 (eTr (best p w (2 ^ (d + 1)) x y).2 e)).1 = e.1 := rfl
        have e2 : (eBit 1 (eTr (best p w (2 ^ (d + 1)) x y).2 e)).2.2.1 = e.2.2.1 + 1 := rfl
        generalize eBit 1 (eTr (best p w (2 ^ (d + 1)) x y).2 e) = e' at e1 e2 ⊢
        have i1 := ih x y e'
        generalize eSq p w least bd d x y e' = s1 at i1 ⊢
        have i2 := ih (x + 2 * 2 ^ d) y s1
        generalize eSq p w least bd d (x + 2 * 2 ^ d) y s1 = s2 at i2 ⊢
        have i3 := ih x (y + 2 * 2 ^ d) s2
        generalize eSq p w least bd d x (y + 2 * 2 ^ d) s2 = s3 at i3 ⊢
        have i4 := ih (x + 2 * 2 ^ d) (y + 2 * 2 ^ d) s3
        generalize eSq p w least bd d (x + 2 * 2 ^ d) (y + 2 * 2 ^ d) s3 = s4 at i4 ⊢
        omega
/-- how a machine state tells an encoding -/
def eRep (o : Nat) (cnt : Int32) (K : Nat → Int32) (mm : Int32) (C : Nat → Int32) (tr : Int32) (e : ES) : Prop := cnt = nI e.1 ∧ kRep o K e.2.1 e.1 ∧ mm = nI e.2.2.1 ∧ bRep C e.2.2.2.1 e.2.2.1 ∧ bGood e.2.2.2.1 e.2.2.1 ∧ tr = nI e.2.2.2.2
/-! the class -/
abbrev Z24 := Int32 × Int32 × Int32 × Int32 × Int32 × Int32 × Int32 × Int32 × Int32 × Int32 × Int32 × (Nat → Int32) × (Nat → Int32) × (Nat → Int32) × (Nat → Int32) × Int32 × Int32 × Int32 × Int32 × Int32 × Int32 × (Nat → Int32) × Int32 × (Nat → Int32)
def cSq (n : Nat) (f : Nat → Int32) (hn : Nat) (hf : Nat → Int32) (wn dn qn rn kn cn : Nat) (D : Nat) (x y s l b S hs : Int32) (z : Z24) : Option Z24 := f_F_encodeSquare (f_F_encodeQuarters D) x y s l b S S n f hs hn hf z.1 z.2.1 z.2.2.1 z.2.2.2.1 z.2.2.2.2.1 z.2.2.2.2.2.1 z.2.2.2.2.2.2.1 z.2.2.2.2.2.2.2.1 z.2.2.2.2.2.2.2.2.1 z.2.2.2.2.2.2.2.2.2.1 z.2.2.2.2.2.2.2.2.2.2.1 wn z.2.2.2.2.2.2.2.2.2.2.2.1 dn z.2.2.2.2.2.2.2.2.2.2.2.2.1 qn z.2.2.2.2.2.2.2.2.2.2.2.2.2.1 rn z.2.2.2.2.2.2.2.2.2.2.2.2.2.2.1 z.2.2.2.2.2.2.2.2.2.2.2.2.2.2.2.1 z.2.2.2.2.2.2.2.2.2.2.2.2.2.2.2.2.1 z.2.2.2.2.2.2.2.2.2.2.2.2.2.2.2.2.2.1 z.2.2.2.2.2.2.2.2.2.2.2.2.2.2.2.2.2.2.1 z.2.2.2.2.2.2.2.2.2.2.2.2.2.2.2.2.2.2.2.1 z.2.2.2.2.2.2.2.2.2.2.2.2.2.2.2.2.2.2.2.2.1 kn z.2.2.2.2.2.2.2.2.2.2.2.2.2.2.2.2.2.2.2.2.2.1 z.2.2.2.2.2.2.2.2.2.2.2.2.2.2.2.2.2.2.2.2.2.2.1 cn z.2.2.2.2.2.2.2.2.2.2.2.2.2.2.2.2.2.2.2.2.2.2.2
def cQt (n : Nat) (f : Nat → Int32) (hn : Nat) (hf : Nat → Int32) (wn dn qn rn kn cn : Nat) (D : Nat) (x y s l b S hs : Int32) (z : Z24) : Option Z24 := f_F_encodeQuarters D x y s l b S S n f hs hn hf z.1 z.2.1 z.2.2.1 z.2.2.2.1 z.2.2.2.2.1 z.2.2.2.2.2.1 z.2.2.2.2.2.2.1 z.2.2.2.2.2.2.2.1 z.2.2.2.2.2.2.2.2.1 z.2.2.2.2.2.2.2.2.2.1 z.2.2.2.2.2.2.2.2.2.2.1 wn z.2.2.2.2.2.2.2.2.2.2.2.1 dn z.2.2.2.2.2.2.2.2.2.2.2.2.1 qn z.2.2.2.2.2.2.2.2.2.2.2.2.2.1 rn z.2.2.2.2.2.2.2.2.2.2.2.2.2.2.1 z.2.2.2.2.2.2.2.2.2.2.2.2.2.2.2.1 z.2.2.2.2.2.2.2.2.2.2.2.2.2.2.2.2.1 z.2.2.2.2.2.2.2.2.2.2.2.2.2.2.2.2.2.1 z.2.2.2.2.2.2.2.2.2.2.2.2.2.2.2.2.2.2.1 z.2.2.2.2.2.2.2.2.2.2.2.2.2.2.2.2.2.2.2.1 z.2.2.2.2.2.2.2.2.2.2.2.2.2.2.2.2.2.2.2.2.1 kn z.2.2.2.2.2.2.2.2.2.2.2.2.2.2.2.2.2.2.2.2.2.1 z.2.2.2.2.2.2.2.2.2.2.2.2.2.2.2.2.2.2.2.2.2.2.1 cn z.2.2.2.2.2.2.2.2.2.2.2.2.2.2.2.2.2.2.2.2.2.2.2
def c9 (n : Nat) (f : Nat → Int32) (hn : Nat) (hf : Nat → Int32) (wn dn qn rn kn cn : Nat) (D : Nat) (x y s l b S hs : Int32) (N : Nat) (v : Int32) (z : Z24) : Option (Int32 × Z24) := f_F_encodeQuarters_9 (f_F_encodeQuarters D) x y s l b S S n f hs hn hf wn dn qn rn kn cn N v z.1 z.2.1 z.2.2.1 z.2.2.2.1 z.2.2.2.2.1 z.2.2.2.2.2.1 z.2.2.2.2.2.2.1 z.2.2.2.2.2.2.2.1 z.2.2.2.2.2.2.2.2.1 z.2.2.2.2.2.2.2.2.2.1 z.2.2.2.2.2.2.2.2.2.2.1 z.2.2.2.2.2.2.2.2.2.2.2.1 z.2.2.2.2.2.2.2.2.2.2.2.2.1 z.2.2.2.2.2.2.2.2.2.2.2.2.2.1 z.2.2.2.2.2.2.2.2.2.2.2.2.2.2.1 z.2.2.2.2.2.2.2.2.2.2.2.2.2.2.2.1 z.2.2.2.2.2.2.2.2.2.2.2.2.2.2.2.2.1 z.2.2.2.2.2.2.2.2.2.2.2.2.2.2.2.2.2.1 z.2.2.2.2.2.2.2.2.2.2.2.2.2.2.2.2.2.2.1 z.2.2.2.2.2.2.2.2.2.2.2.2.2.2.2.2.2.2.2.1 z.2.2.2.2.2.2.2.2.2.2.2.2.2.2.2.2.2.2.2.2.1 z.2.2.2.2.2.2.2.2.2.2.2.2.2.2.2.2.2.2.2.2.2.1 z.2.2.2.2.2.2.2.2.2.2.2.2.2.2.2.2.2.2.2.2.2.2.1 z.2.2.2.2.2.2.2.2.2.2.2.2.2.2.2.2.2.2.2.2.2.2.2
def zRep (z : Z24) (e : ES) : Prop := eRep 0 z.2.2.2.2.2.2.2.2.2.2.2.2.2.2.2.2.2.2.2.2.1 z.2.2.2.2.2.2.2.2.2.2.2.2.2.2.2.2.2.2.2.2.2.1 z.2.2.2.2.2.2.2.2.2.2.2.2.2.2.2.2.2.2.2.2.2.2.1 z.2.2.2.2.2.2.2.2.2.2.2.2.2.2.2.2.2.2.2.2.2.2.2 z.2.2.2.2.2.1 e
section
variable {n : Nat} {f : Nat → Int32} {hn : Nat} {hf : Nat → Int32} {wn dn qn rn kn cn : Nat}
theorem c9_end {D N : Nat} {x y s l b S hs : Int32} {z : Z24} : c9 n f hn hf wn dn qn rn kn cn D x y s l b S hs (N + 1) (nI 4) z = some (nI 4, z) := by
  unfold c9
  rw [f_F_encodeQuarters_9, if_pos (by decide)]
theorem c9_step {D N v : Nat} {x y s l b S hs : Int32} {z : Z24} (hv : v < 4) : c9 n f hn hf wn dn qn rn kn cn D x y s l b S hs (N + 1) (nI v) z = (cSq n f hn hf wn dn qn rn kn cn D (x + nI (v % 2) * s) (y + nI (v / 2) * s) s l b S hs z).bind (fun r => c9 n f hn hf wn dn qn rn kn cn D x y s l b S hs N (nI (v + 1)) r) := by
  have g : ¬ (4 : Int32) ≤ nI v := by rw [n4, nJ_leF (by omega) (by omega)]; exact not_false
  unfold c9 cSq
  rw [f_F_encodeQuarters_9, if_neg g, l_across hv, l_down hv]
  simp only [Option.bind_some]
  rw [n1, nJ_add]
theorem cQt_eq {D : Nat} {x y l b S hs : Int32} {s : Nat} {z : Z24} (h2 : 2 ≤ s) (hs2 : s < 2147483648) : cQt n f hn hf wn dn qn rn kn cn (D + 1) x y (nI s) l b S hs z = (c9 n f hn hf wn dn qn rn kn cn D x y (nI s) l b S hs FU (nI 0) z).bind (fun q => some q.2) := by
  have g : (2 : Int32) ≤ nI s := by rw [n2, nJ_leT (by omega) (by omega)]; exact trivial
  unfold cQt c9
  rw [f_F_encodeQuarters, if_pos g]
  rfl
variable {p : Nat → Nat} {w least bd : Nat}
/-- a square of this size is encoded rightly -/
def SqOk (n : Nat) (f : Nat → Int32) (hn : Nat) (hf : Nat → Int32) (wn dn qn rn kn cn : Nat) (p : Nat → Nat) (w least bd d D : Nat) : Prop := ∀ (x y : Nat) (e : ES) (z : Z24), x + 2 * 2 ^ d ≤ 2 * w → y + 2 * 2 ^ d ≤ 2 * w → zRep z e → e.1 + 4 ^ d ≤ w * w → e.2.2.1 + 26 * 4 ^ d ≤ 32 * (w * w) + 1 →
  ∃ r, cSq n f hn hf wn dn qn rn kn cn D (nI x) (nI y) (nI (2 * 2 ^ d)) (nI least) (nI bd) (nI (2 * w)) (nI w) z = some r ∧ zRep r (eSq p w least bd d x y e)
theorem l_cQt {d D : Nat} (hw : w ≤ 16) (ih : SqOk n f hn hf wn dn qn rn kn cn p w least bd d D) {x y : Nat} {e : ES} {z : Z24} (hd : 2 * 2 ^ d ≤ 64) (hx : x + 4 * 2 ^ d ≤ 2 * w) (hy : y + 4 * 2 ^ d ≤ 2 * w) (hz : zRep z e) (hc : e.1 + 4 * 4 ^ d ≤ w * w) (hm : e.2.2.1 + 26 * (4 * 4 ^ d) ≤ 32 * (w * w) + 4) :
    ∃ r, cQt n f hn hf wn dn qn rn kn cn (D + 1) (nI x) (nI y) (nI (2 * 2 ^ d)) (nI least) (nI bd) (nI (2 * w)) (nI w) z = some r ∧ zRep r (eQ p w least bd d x y e) := by
  have f1 := four_pos d
  have t1 := two_pos' d
  obtain ⟨r1, a1, b1⟩ := ih x y e z (by omega) (by omega) hz (by omega) (by omega)
  have l1 := eSq_le (p := p) (least := least) (bd := bd) hw d x y e
  obtain ⟨r2, a2, b2⟩ := ih (x + 2 * 2 ^ d) y _ r1 (by omega) (by omega) b1 (by omega) (by omega)
  have l2 := eSq_le (p := p) (least := least) (bd := bd) hw d (x + 2 * 2 ^ d) y (eSq p w least bd d x y e)
  obtain ⟨r3, a3, b3⟩ := ih x (y + 2 * 2 ^ d) _ r2 (by omega) (by omega) b2 (by omega) (by omega)
  have l3 := eSq_le (p := p) (least := least) (bd := bd) hw d x (y + 2 * 2 ^ d) (eSq p w least bd d (x + 2 * 2 ^ d) y (eSq p w least bd d x y e))
  obtain ⟨r4, a4, b4⟩ := ih (x + 2 * 2 ^ d) (y + 2 * 2 ^ d) _ r3 (by omega) (by omega) b3 (by omega) (by omega)
  refine ⟨r4, ?_, b4⟩
  have hFU : FU = 1048571 + 1 + 1 + 1 + 1 + 1 := rfl
  have m0 : nI x + nI (0 % 2) * nI (2 * 2 ^ d) = nI x := by rw [nJ_mul, nJ_add]; congr 1; omega
  have m0' : nI y + nI (0 / 2) * nI (2 * 2 ^ d) = nI y := by rw [nJ_mul, nJ_add]; congr 1; omega
  have m1 : nI x + nI (1 % 2) * nI (2 * 2 ^ d) = nI (x + 2 * 2 ^ d) := by rw [nJ_mul, nJ_add]; congr 1; omega
  have m1' : nI y + nI (1 / 2) * nI (2 * 2 ^ d) = nI y := by rw [nJ_mul, nJ_add]; congr 1; omega
  have m2 : nI x + nI (2 % 2) * nI (2 * 2 ^ d) = nI x := by rw [nJ_mul, nJ_add]; congr 1; omega
  have m2' : nI y + nI (2 / 2) * nI (2 * 2 ^ d) = nI (y + 2 * 2 ^ d) := by rw [nJ_mul, nJ_add]; congr 1; omega
  have m3 : nI x + nI (3 % 2) * nI (2 * 2 ^ d) = nI (x + 2 * 2 ^ d) := by rw [nJ_mul, nJ_add]; congr 1; omega
  have m3' : nI y + nI (3 / 2) * nI (2 * 2 ^ d) = nI (y + 2 * 2 ^ d) := by rw [nJ_mul, nJ_add]; congr 1; omega
  rw [cQt_eq (by omega) (by omega), hFU, c9_step (by omega), m0, m0', a1, Option.bind_some, c9_step (by omega), m1, m1', a2, Option.bind_some, c9_step (by omega), m2, m2', a3, Option.bind_some, c9_step (by omega), m3, m3', a4, Option.bind_some]
  rw [c9_end]
  rfl
/-- what a leaf of the class gives -/
theorem l_leafC {h x y : Nat} {cnt mm tr : Int32} {K C : Nat → Int32} {e : ES} {B : Fit5} (hw : w ≤ 16) (h1 : 0 < h) (h2 : 2 * h ≤ w) (hB : bVal (dac w h * dac w h) B) (hkn : kn = 8 * (w * w)) (hcn : cn = 4 * (w * w)) (hz : eRep 0 cnt K mm C tr e) (hc : e.1 + 1 ≤ w * w) (hm : e.2.2.1 + 25 ≤ 32 * (w * w)) :
    ∃ q c, f_K_add (nI x) (nI y) (nI (2 * h)) cnt kn K (nI B.1) (nI B.2.1) (iI B.2.2.1) (iI B.2.2.2.1) (iI B.2.2.2.2) = some q ∧ f_F_writeFit (nI (2 * h)) (nI (2 * w)) (nI B.1) (nI B.2.1) (iI B.2.2.1) (iI B.2.2.2.1) mm cn C = some c ∧ eRep 0 q.1 q.2 c.1 c.2 tr (eLeaf w h x y B e) := by
  obtain ⟨z1, z2, z3, z4, z5, z6⟩ := hz
  subst z1; subst z3
  have hww : w * w ≤ 16 * 16 := Nat.mul_le_mul hw hw
  have ha := dac_le (h := h) hw
  obtain ⟨d1, _, _⟩ := db_spec (dac w h * dac w h) (by omega)
  obtain ⟨K', k1, k2⟩ := l_K_add (x := x) (y := y) (s := 2 * h) (B := B) (n := kn) (by omega) (by omega) z2
  obtain ⟨C', c1, c2⟩ := l_F_writeFit (n := cn) hw h1 h2 hB (by omega) z4 z5 (by omega)
  exact ⟨_, _, k1, c1, rfl, k2, rfl, c2, wFit_good z5, z6⟩
theorem l_cSq (hw : w ≤ 16) (hl2 : 2 ≤ least) (hl : least ≤ 16) (hbd : bd < 2147483648) (hn1 : 2 * w * (2 * w) ≤ n) (hH : w * w ≤ hn) (hH2 : hn < 2147483648) (hwn : w * w ≤ wn) (hw2 : wn < 2147483648) (hdn : w * w ≤ dn) (hd2 : dn < 2147483648) (hqn : 4 ≤ qn) (hrn : 8 ≤ rn) (hkn : kn = 8 * (w * w)) (hcn : cn = 4 * (w * w))
    (hf1 : ∀ k, k < 2 * w * (2 * w) → f k = nI (p k)) (hp : ∀ k, k < 2 * w * (2 * w) → p k ≤ 255) (hh : ∀ k, k < w * w → hf k = nI (hlf p (2 * w) k)) :
    ∀ d, 2 * 2 ^ d ≤ w → ∀ D, d ≤ D → SqOk n f hn hf wn dn qn rn kn cn p w least bd d D := by
  have hww : w * w ≤ 16 * 16 := Nat.mul_le_mul hw hw
  intro d
  induction d with
  | zero =>
    intro hd D hD x y e z hx hy hz hc hm
    have e0 : 2 ^ 0 = 1 := rfl
    have e4 : 4 ^ 0 = 1 := rfl
    rw [e4] at hc hm
    obtain ⟨bv, be⟩ := best_val (p := p) (w := w) (h := 2 ^ 0) (x := x) (y := y) (by omega) (by omega) hd hx hy hp
    obtain ⟨z1, z2, z3, z4, z5, z6⟩ := hz
    obtain ⟨b1, b2, b3, b4, b5, b6, b7, b8, b9, b10, W', D', Q', R', fb⟩ := l_S_findBest (p := p) (w := w) (h := 2 ^ 0) (x := x) (y := y) (n := n) (hn := hn) (wn := wn) (dn := dn) (qn := qn) (rn := rn) (tr := e.2.2.2.2) (f := f) (hf := hf) (W := z.2.2.2.2.2.2.2.2.2.2.2.1) (Df := z.2.2.2.2.2.2.2.2.2.2.2.2.1) (Qf := z.2.2.2.2.2.2.2.2.2.2.2.2.2.1) (Rf := z.2.2.2.2.2.2.2.2.2.2.2.2.2.2.1) (a1 := z.2.2.2.2.2.2.1) (a2 := z.2.2.2.2.2.2.2.1) (a3 := z.2.2.2.2.2.2.2.2.1) (a4 := z.2.2.2.2.2.2.2.2.2.1) (a5 := z.2.2.2.2.2.2.2.2.2.2.1) (a6 := z.1) (a7 := z.2.1) (a8 := z.2.2.1) (a9 := z.2.2.2.1) (a10 := z.2.2.2.2.1) (e1 := z.2.2.2.2.2.2.2.2.2.2.2.2.2.2.2.1) (e2 := z.2.2.2.2.2.2.2.2.2.2.2.2.2.2.2.2.1) (e3 := z.2.2.2.2.2.2.2.2.2.2.2.2.2.2.2.2.2.1) (e4 := z.2.2.2.2.2.2.2.2.2.2.2.2.2.2.2.2.2.2.1) (e5 := z.2.2.2.2.2.2.2.2.2.2.2.2.2.2.2.2.2.2.2.1) hw (by omega) (by omega) hd hx hy hn1 hH hH2 hwn hw2 hdn hd2 hqn hrn hf1 hp hh
    have hz' : eRep 0 z.2.2.2.2.2.2.2.2.2.2.2.2.2.2.2.2.2.2.2.2.1 z.2.2.2.2.2.2.2.2.2.2.2.2.2.2.2.2.2.2.2.2.2.1 z.2.2.2.2.2.2.2.2.2.2.2.2.2.2.2.2.2.2.2.2.2.2.1 z.2.2.2.2.2.2.2.2.2.2.2.2.2.2.2.2.2.2.2.2.2.2.2 (nI (e.2.2.2.2 + (best p w (2 ^ 0) x y).2)) (eTr (best p w (2 ^ 0) x y).2 e) := ⟨z1, z2, z3, z4, z5, rfl⟩
    obtain ⟨q, c, k1, k2, k3⟩ := l_leafC (kn := kn) (cn := cn) (x := x) (y := y) hw (show 0 < 2 ^ 0 by omega) hd bv hkn hcn hz' hc (show e.2.2.1 + 25 ≤ 32 * (w * w) by omega)
    have g : nI (2 * 2 ^ 0) ≤ nI least := by rw [nJ_leT (by omega) (by omega)]; exact trivial
    refine ⟨(b6, b7, b8, b9, b10, nI (e.2.2.2.2 + (best p w (2 ^ 0) x y).2), b1, b2, b3, b4, b5, W', D', Q', R', nI (best p w (2 ^ 0) x y).1.1, nI (best p w (2 ^ 0) x y).1.2.1, iI (best p w (2 ^ 0) x y).1.2.2.1, iI (best p w (2 ^ 0) x y).1.2.2.2.1, iI (best p w (2 ^ 0) x y).1.2.2.2.2, q.1, q.2, c.1, c.2), ?_, k3⟩
    unfold cSq f_F_encodeSquare
    rw [z6, fb, Option.bind_some, if_pos g]
    unfold f_F_encodeSquare_J36
    rw [if_pos g]
    unfold f_F_encodeSquare_J62
    rw [if_pos rfl]
    dsimp only
    rw [k1, Option.bind_some, k2]
    rfl
  | succ d ih =>
    intro hd D hD x y e z hx hy hz hc hm
    have f1 := four_pos d
    have f2 := four_succ d
    have t1 := two_pos' d
    have t2 := two_succ d
    obtain ⟨bv, be⟩ := best_val (p := p) (w := w) (h := 2 ^ (d + 1)) (x := x) (y := y) (by omega) (by omega) hd hx hy hp
    obtain ⟨z1, z2, z3, z4, z5, z6⟩ := hz
    obtain ⟨b1, b2, b3, b4, b5, b6, b7, b8, b9, b10, W', D', Q', R', fb⟩ := l_S_findBest (p := p) (w := w) (h := 2 ^ (d + 1)) (x := x) (y := y) (n := n) (hn := hn) (wn := wn) (dn := dn) (qn := qn) (rn := rn) (tr := e.2.2.2.2) (f := f) (hf := hf) (W := z.2.2.2.2.2.2.2.2.2.2.2.1) (Df := z.2.2.2.2.2.2.2.2.2.2.2.2.1) (Qf := z.2.2.2.2.2.2.2.2.2.2.2.2.2.1) (Rf := z.2.2.2.2.2.2.2.2.2.2.2.2.2.2.1) (a1 := z.2.2.2.2.2.2.1) (a2 := z.2.2.2.2.2.2.2.1) (a3 := z.2.2.2.2.2.2.2.2.1) (a4 := z.2.2.2.2.2.2.2.2.2.1) (a5 := z.2.2.2.2.2.2.2.2.2.2.1) (a6 := z.1) (a7 := z.2.1) (a8 := z.2.2.1) (a9 := z.2.2.2.1) (a10 := z.2.2.2.2.1) (e1 := z.2.2.2.2.2.2.2.2.2.2.2.2.2.2.2.1) (e2 := z.2.2.2.2.2.2.2.2.2.2.2.2.2.2.2.2.1) (e3 := z.2.2.2.2.2.2.2.2.2.2.2.2.2.2.2.2.2.1) (e4 := z.2.2.2.2.2.2.2.2.2.2.2.2.2.2.2.2.2.2.1) (e5 := z.2.2.2.2.2.2.2.2.2.2.2.2.2.2.2.2.2.2.2.1) hw (by omega) (by omega) hd hx hy hn1 hH hH2 hwn hw2 hdn hd2 hqn hrn hf1 hp hh
    rw [eSq]
    have he2 := bv.1.2
    generalize hBB : best p w (2 ^ (d + 1)) x y = BB at bv be fb he2 ⊢
    have hz' : eRep 0 z.2.2.2.2.2.2.2.2.2.2.2.2.2.2.2.2.2.2.2.2.1 z.2.2.2.2.2.2.2.2.2.2.2.2.2.2.2.2.2.2.2.2.2.1 z.2.2.2.2.2.2.2.2.2.2.2.2.2.2.2.2.2.2.2.2.2.2.1 z.2.2.2.2.2.2.2.2.2.2.2.2.2.2.2.2.2.2.2.2.2.2.2 (nI (e.2.2.2.2 + BB.2)) (eTr BB.2 e) := ⟨z1, z2, z3, z4, z5, rfl⟩
    by_cases g : 2 * 2 ^ (d + 1) ≤ least
    · obtain ⟨q, c, k1, k2, k3⟩ := l_leafC (kn := kn) (cn := cn) (x := x) (y := y) hw (show 0 < 2 ^ (d + 1) by omega) hd bv hkn hcn hz' (show e.1 + 1 ≤ w * w by omega) (show e.2.2.1 + 25 ≤ 32 * (w * w) by omega)
      rw [if_pos g]
      have g : nI (2 * 2 ^ (d + 1)) ≤ nI least := by rw [nJ_leT (by omega) (by omega)]; exact trivial
      refine ⟨(b6, b7, b8, b9, b10, nI (e.2.2.2.2 + BB.2), b1, b2, b3, b4, b5, W', D', Q', R', nI BB.1.1, nI BB.1.2.1, iI BB.1.2.2.1, iI BB.1.2.2.2.1, iI BB.1.2.2.2.2, q.1, q.2, c.1, c.2), ?_, k3⟩
      unfold cSq f_F_encodeSquare
      rw [z6, fb, Option.bind_some, if_pos g]
      unfold f_F_encodeSquare_J36
      rw [if_pos g]
      unfold f_F_encodeSquare_J62
      rw [if_pos rfl]
      dsimp only
      rw [k1, Option.bind_some, k2]
      rfl
    · rw [if_neg g]
      have gF : ¬ nI (2 * 2 ^ (d + 1)) ≤ nI least := by rw [nJ_leF (by omega) (by omega)]; exact not_false
      by_cases g2 : BB.1.2.2.2.2 ≤ (bd : Int)
      · rw [if_pos g2]
        have g3 : iI BB.1.2.2.2.2 ≤ nI bd := by rw [nJ_iI, iI_leT g2 (by omega) (by omega)]; exact trivial
        obtain ⟨C1, x1, x2⟩ := l_B_append (num := 0) (w := 1) (n := cn) (m := e.2.2.1) (by omega) (by omega) (by omega) z4 z5 (by omega)
        have hz2 : eRep 0 z.2.2.2.2.2.2.2.2.2.2.2.2.2.2.2.2.2.2.2.2.1 z.2.2.2.2.2.2.2.2.2.2.2.2.2.2.2.2.2.2.2.2.2.1 (nI (e.2.2.1 + 1)) C1 (nI (e.2.2.2.2 + BB.2)) (eBit 0 (eTr BB.2 e)) := ⟨z1, z2, rfl, x2, apN_good 1 _ _ z5, rfl⟩
        obtain ⟨q, c, k1, k2, k3⟩ := l_leafC (kn := kn) (cn := cn) (x := x) (y := y) hw (show 0 < 2 ^ (d + 1) by omega) hd bv hkn hcn hz2 (show e.1 + 1 ≤ w * w by omega) (show e.2.2.1 + 1 + 25 ≤ 32 * (w * w) by omega)
        refine ⟨(b6, b7, b8, b9, b10, nI (e.2.2.2.2 + BB.2), b1, b2, b3, b4, b5, W', D', Q', R', nI BB.1.1, nI BB.1.2.1, iI BB.1.2.2.1, iI BB.1.2.2.2.1, iI BB.1.2.2.2.2, q.1, q.2, c.1, c.2), ?_, k3⟩
        unfold cSq f_F_encodeSquare
        rw [z6, fb, Option.bind_some, if_neg gF, if_pos g3]
        unfold f_F_encodeSquare_J36
        rw [if_neg gF, if_pos rfl]
        unfold f_F_encodeSquare_J58
        have x1' : f_B_append 0 1 z.2.2.2.2.2.2.2.2.2.2.2.2.2.2.2.2.2.2.2.2.2.2.1 cn z.2.2.2.2.2.2.2.2.2.2.2.2.2.2.2.2.2.2.2.2.2.2.2 = some (nI (e.2.2.1 + 1), C1) := by rw [z3]; exact x1
        dsimp only
        rw [x1', Option.bind_some, if_pos rfl]
        dsimp only
        rw [k1, Option.bind_some, k2]
        rfl
      · rw [if_neg g2]
        have g3 : ¬ iI BB.1.2.2.2.2 ≤ nI bd := by rw [nJ_iI, iI_leF (by omega) (by omega) (by omega)]; exact not_false
        obtain ⟨C1, x1, x2⟩ := l_B_append (num := 1) (w := 1) (n := cn) (m := e.2.2.1) (by omega) (by omega) (by omega) z4 z5 (by omega)
        match D, hD with
        | D + 1, hD =>
          have hz2 : zRep (b6, b7, b8, b9, b10, nI (e.2.2.2.2 + BB.2), b1, b2, b3, b4, b5, W', D', Q', R', nI BB.1.1, nI BB.1.2.1, iI BB.1.2.2.1, iI BB.1.2.2.2.1, iI BB.1.2.2.2.2, z.2.2.2.2.2.2.2.2.2.2.2.2.2.2.2.2.2.2.2.2.1, z.2.2.2.2.2.2.2.2.2.2.2.2.2.2.2.2.2.2.2.2.2.1, nI (e.2.2.1 + 1), C1) (eBit 1 (eTr BB.2 e)) := ⟨z1, z2, rfl, x2, apN_good 1 _ _ z5, rfl⟩
          obtain ⟨r, k1, k2⟩ := l_cQt hw (ih (by omega) D (by omega)) (x := x) (y := y) (by omega) (by omega) (by omega) hz2 (show e.1 + 4 * 4 ^ d ≤ w * w by omega) (show e.2.2.1 + 1 + 26 * (4 * 4 ^ d) ≤ 32 * (w * w) + 4 by omega)
          refine ⟨r, ?_, k2⟩
          unfold cSq f_F_encodeSquare
          rw [z6, fb, Option.bind_some, if_neg gF, if_neg g3]
          unfold f_F_encodeSquare_J36
          rw [if_neg gF, if_neg (by decide)]
          unfold f_F_encodeSquare_J58
          have x1' : f_B_append 1 1 z.2.2.2.2.2.2.2.2.2.2.2.2.2.2.2.2.2.2.2.2.2.2.1 cn z.2.2.2.2.2.2.2.2.2.2.2.2.2.2.2.2.2.2.2.2.2.2.2 = some (nI (e.2.2.1 + 1), C1) := by rw [z3]; exact x1
          have hv : nI (2 * 2 ^ (d + 1)) / 2 = nI (2 * 2 ^ d) := by rw [n2, nJ_div (by omega) (by omega)]; congr 1; omega
          unfold cQt at k1
          dsimp only at k1 ⊢
          rw [x1', Option.bind_some, if_neg (by decide), hv]
          dsimp only
          rw [k1]
          rfl
end
