/-! the reference's encoding: a pile of squares -/
abbrev Z11 := Int32 × Int32 × Int32 × Int32 × Int64 × (Nat → Int32) × (Nat → Int32) × (Nat → Int32) × (Nat → Int32) × (Nat → Int32) × (Nat → Int32)
def mL (n : Nat) (f : Nat → Int32) (hn : Nat) (hf : Nat → Int32) (kn cn ln dn rn bn : Nat) (l b S : Int32) (N : Nat) (z : Z11) : Option Z11 := f_M_encode_118 l b S n f hn hf kn cn ln dn rn bn N z.1 z.2.1 z.2.2.1 z.2.2.2.1 z.2.2.2.2.1 z.2.2.2.2.2.1 z.2.2.2.2.2.2.1 z.2.2.2.2.2.2.2.1 z.2.2.2.2.2.2.2.2.1 z.2.2.2.2.2.2.2.2.2.1 z.2.2.2.2.2.2.2.2.2.2
/-- a square stands on the pile -/
def pl (f : Nat → Int32) (k x y s : Nat) : Prop := f (3 * k) = nI x ∧ f (3 * k + 1) = nI y ∧ f (3 * k + 2) = nI s
theorem pl_of {f g : Nat → Int32} {k x y s : Nat} (h : pl f k x y s) (e : ∀ j, j < 3 * (k + 1) → g j = f j) : pl g k x y s := ⟨(e _ (by omega)).trans h.1, (e _ (by omega)).trans h.2.1, (e _ (by omega)).trans h.2.2⟩
theorem l_pileUp {k n x y s : Nat} {f : Nat → Int32} (hk : 3 * k + 2 < n) (hn : n ≤ 96) : f_M_pileUp (nI x) (nI y) (nI s) (nI k) n f = some (nI (k + 1), upd (upd (upd f (3 * k) (nI x)) (3 * k + 1) (nI y)) (3 * k + 2) (nI s)) := by
  unfold f_M_pileUp
  simp (disch := omega) only [n0, n1, n2, n3, n4, n5, n6, n7, n8, n10, n16, n40, n128, n255, n256, n1024, n2000, n2048, nJ_add, nJ_mul, nJ_sub, nJ_leT, nJ_leF, nJ_ltT, nJ_ltF, nJ_eqT, nJ_eqF, nJ_clamp, nJ_div, nM, iM_eqF, iM_eqF2, iM_leF, iM_ltF, iM_leT, iM_ltT, iM_add, iM_add0, natLeF, natLeT, natLtF, natLtT, natEqF, natEqT, if_true, if_false, ite_true, ite_false, false_or, or_false, or_self, Option.bind_some, ↓reduceIte]
theorem l_pileQ {k n x y h : Nat} {f : Nat → Int32} (hk : 3 * (k + 4) ≤ n) (hn : n ≤ 96) (hh : h ≤ 64) :
    ∃ f', f_M_pileQuarters (nI x) (nI y) (nI (2 * h)) (nI k) n f = some (nI (k + 4), f') ∧ pl f' k (x + h) (y + h) h ∧ pl f' (k + 1) x (y + h) h ∧ pl f' (k + 2) (x + h) y h ∧ pl f' (k + 3) x y h ∧ ∀ j, j < 3 * k → f' j = f j := by
  have hv : nI (2 * h) / 2 = nI h := by rw [n2, nJ_div (by omega) (by omega)]; congr 1; omega
  apply Exists.intro
  constructor
  · unfold f_M_pileQuarters
    rw [hv, nJ_add, nJ_add, l_pileUp (by omega) hn, Option.bind_some, l_pileUp (by omega) hn, Option.bind_some, l_pileUp (by omega) hn, Option.bind_some, l_pileUp (by omega) hn]
    rfl
  · unfold pl
    refine ⟨⟨?_, ?_, ?_⟩, ⟨?_, ?_, ?_⟩, ⟨?_, ?_, ?_⟩, ⟨?_, ?_, ?_⟩, ?_⟩
    iterate 12 (simp (disch := omega) only [updF, updT])
    intro j hj
    simp (disch := omega) only [updF]
def mRep (z : Z11) (e : ES) (k : Nat) : Prop := eRep 2048 z.1 z.2.2.2.2.2.1 z.2.1 z.2.2.2.2.2.2.1 z.2.2.1 e ∧ z.2.2.2.1 = nI k
section
variable {n : Nat} {f : Nat → Int32} {hn : Nat} {hf : Nat → Int32} {kn cn ln dn rn bn : Nat}
variable {p : Nat → Nat} {w least bd : Nat}
/-- a square on the pile is encoded rightly -/
def SqOkM (n : Nat) (f : Nat → Int32) (hn : Nat) (hf : Nat → Int32) (kn cn ln dn rn bn : Nat) (p : Nat → Nat) (w least bd d : Nat) : Prop := ∀ (x y k : Nat) (e : ES) (z : Z11), x + 2 * 2 ^ d ≤ 2 * w → y + 2 * 2 ^ d ≤ 2 * w → mRep z e (k + 1) → pl z.2.2.2.2.2.2.2.1 k x y (2 * 2 ^ d) → e.1 + 4 ^ d ≤ w * w → e.2.2.1 + 26 * 4 ^ d ≤ 15901 → 3 * (k + 1 + 3 * d) ≤ ln →
  ∃ c r, c + 1 ≤ 2 * 4 ^ d ∧ (∀ N, mL n f hn hf kn cn ln dn rn bn (nI least) (nI bd) (nI (2 * w)) (N + c) z = mL n f hn hf kn cn ln dn rn bn (nI least) (nI bd) (nI (2 * w)) N r) ∧ mRep r (eSq p w least bd d x y e) k ∧ ∀ j, j < 3 * k → r.2.2.2.2.2.2.2.1 j = z.2.2.2.2.2.2.2.1 j
theorem l_mQ {d : Nat} (hw : w ≤ 16) (ih : SqOkM n f hn hf kn cn ln dn rn bn p w least bd d) {x y k : Nat} {e : ES} {z : Z11} (hx : x + 4 * 2 ^ d ≤ 2 * w) (hy : y + 4 * 2 ^ d ≤ 2 * w) (hz : mRep z e (k + 4))
    (q0 : pl z.2.2.2.2.2.2.2.1 k (x + 2 * 2 ^ d) (y + 2 * 2 ^ d) (2 * 2 ^ d)) (q1 : pl z.2.2.2.2.2.2.2.1 (k + 1) x (y + 2 * 2 ^ d) (2 * 2 ^ d)) (q2 : pl z.2.2.2.2.2.2.2.1 (k + 2) (x + 2 * 2 ^ d) y (2 * 2 ^ d)) (q3 : pl z.2.2.2.2.2.2.2.1 (k + 3) x y (2 * 2 ^ d))
    (hc : e.1 + 4 * 4 ^ d ≤ w * w) (hm : e.2.2.1 + 26 * (4 * 4 ^ d) ≤ 15904) (hl : 3 * (k + 4 + 3 * d) ≤ ln) :
    ∃ c r, c + 4 ≤ 8 * 4 ^ d ∧ (∀ N, mL n f hn hf kn cn ln dn rn bn (nI least) (nI bd) (nI (2 * w)) (N + c) z = mL n f hn hf kn cn ln dn rn bn (nI least) (nI bd) (nI (2 * w)) N r) ∧ mRep r (eQ p w least bd d x y e) k ∧ ∀ j, j < 3 * k → r.2.2.2.2.2.2.2.1 j = z.2.2.2.2.2.2.2.1 j := by
  have f1 := four_pos d
  have t1 := two_pos' d
  obtain ⟨c1, r1, s1, a1, b1, p1⟩ := ih x y (k + 3) e z (by omega) (by omega) hz q3 (by omega) (by omega) (by omega)
  have l1 := eSq_le (p := p) (least := least) (bd := bd) hw d x y e
  obtain ⟨c2, r2, s2, a2, b2, p2⟩ := ih (x + 2 * 2 ^ d) y (k + 2) _ r1 (by omega) (by omega) b1 (pl_of q2 (fun j hj => p1 j (by omega))) (by omega) (by omega) (by omega)
  have l2 := eSq_le (p := p) (least := least) (bd := bd) hw d (x + 2 * 2 ^ d) y (eSq p w least bd d x y e)
  obtain ⟨c3, r3, s3, a3, b3, p3⟩ := ih x (y + 2 * 2 ^ d) (k + 1) _ r2 (by omega) (by omega) b2 (pl_of q1 (fun j hj => (p2 j (by omega)).trans (p1 j (by omega)))) (by omega) (by omega) (by omega)
  have l3 := eSq_le (p := p) (least := least) (bd := bd) hw d x (y + 2 * 2 ^ d) (eSq p w least bd d (x + 2 * 2 ^ d) y (eSq p w least bd d x y e))
  obtain ⟨c4, r4, s4, a4, b4, p4⟩ := ih (x + 2 * 2 ^ d) (y + 2 * 2 ^ d) k _ r3 (by omega) (by omega) b3 (pl_of q0 (fun j hj => (p3 j (by omega)).trans ((p2 j (by omega)).trans (p1 j (by omega))))) (by omega) (by omega) (by omega)
  refine ⟨c4 + c3 + c2 + c1, r4, by omega, fun N => ?_, b4, fun j hj => (p4 j hj).trans ((p3 j (by omega)).trans ((p2 j (by omega)).trans (p1 j (by omega))))⟩
  rw [show N + (c4 + c3 + c2 + c1) = N + c4 + c3 + c2 + c1 by omega, a1, a2, a3, a4]
/-- a square is taken from the pile and its best fit is found -/
theorem mL_pop {h x y k N : Nat} {e : ES} {z : Z11} (hk : 3 * (k + 1) ≤ ln) (hln : ln ≤ 96) (hz : mRep z e (k + 1)) (hp : pl z.2.2.2.2.2.2.2.1 k x y (2 * h)) :
    mL n f hn hf kn cn ln dn rn bn (nI least) (nI bd) (nI (2 * w)) (N + 1) z = (f_M_search (nI x) (nI y) (nI (2 * h)) (nI (2 * w)) (nI e.2.2.2.2) z.2.2.2.2.1 n f hn hf dn z.2.2.2.2.2.2.2.2.1 rn z.2.2.2.2.2.2.2.2.2.1 bn z.2.2.2.2.2.2.2.2.2.2).bind (fun q =>
      if nI (2 * h) ≤ nI least then f_M_encode_J207 (fun a0 a1 a2 a3 a4 a5 a6 a7 a8 a9 a10 => mL n f hn hf kn cn ln dn rn bn (nI least) (nI bd) (nI (2 * w)) N (a0, a1, a2, a3, a4, a5, a6, a7, a8, a9, a10)) (nI least) (nI bd) (nI x) (nI y) (nI (2 * h)) (nI (2 * w)) z.1 z.2.1 q.1 (nI k) q.2.1 kn z.2.2.2.2.2.1 cn z.2.2.2.2.2.2.1 ln z.2.2.2.2.2.2.2.1 q.2.2.1 q.2.2.2.1 bn q.2.2.2.2 0
      else if lg_cmp q.2.1 (nI bd).toInt64 ≤ 0 then f_M_encode_J207 (fun a0 a1 a2 a3 a4 a5 a6 a7 a8 a9 a10 => mL n f hn hf kn cn ln dn rn bn (nI least) (nI bd) (nI (2 * w)) N (a0, a1, a2, a3, a4, a5, a6, a7, a8, a9, a10)) (nI least) (nI bd) (nI x) (nI y) (nI (2 * h)) (nI (2 * w)) z.1 z.2.1 q.1 (nI k) q.2.1 kn z.2.2.2.2.2.1 cn z.2.2.2.2.2.2.1 ln z.2.2.2.2.2.2.2.1 q.2.2.1 q.2.2.2.1 bn q.2.2.2.2 0
      else f_M_encode_J207 (fun a0 a1 a2 a3 a4 a5 a6 a7 a8 a9 a10 => mL n f hn hf kn cn ln dn rn bn (nI least) (nI bd) (nI (2 * w)) N (a0, a1, a2, a3, a4, a5, a6, a7, a8, a9, a10)) (nI least) (nI bd) (nI x) (nI y) (nI (2 * h)) (nI (2 * w)) z.1 z.2.1 q.1 (nI k) q.2.1 kn z.2.2.2.2.2.1 cn z.2.2.2.2.2.2.1 ln z.2.2.2.2.2.2.2.1 q.2.2.1 q.2.2.2.1 bn q.2.2.2.2 1) := by
  obtain ⟨⟨_, _, _, _, _, z3⟩, z4⟩ := hz
  obtain ⟨p1, p2, p3⟩ := hp
  have i0 : ¬ nI (k + 1) ≤ 0 := by rw [n0, nJ_leF (by omega) (by omega)]; exact not_false
  have ek : nI (k + 1) - 1 = nI k := by rw [n1, nJ_sub (by omega)]; rfl
  have c0 : (3 : Int32) * nI k = nI (3 * k) := by rw [n3, nJ_mul]
  have c1 : nI (3 * k) + 1 = nI (3 * k + 1) := by rw [n1, nJ_add]
  have c2 : nI (3 * k) + 2 = nI (3 * k + 2) := by rw [n2, nJ_add]
  have k0 : (nI (3 * k)).toNatClampNeg = 3 * k := nJ_clamp (by omega)
  have k1 : (nI (3 * k + 1)).toNatClampNeg = 3 * k + 1 := nJ_clamp (by omega)
  have k2 : (nI (3 * k + 2)).toNatClampNeg = 3 * k + 2 := nJ_clamp (by omega)
  have d0 : ¬ (nI (3 * k) < 0 ∨ ln ≤ 3 * k) := by rw [n0, nJ_ltF (by omega) (by omega), false_or]; omega
  have d1 : ¬ (nI (3 * k + 1) < 0 ∨ ln ≤ 3 * k + 1) := by rw [n0, nJ_ltF (by omega) (by omega), false_or]; omega
  have d2 : ¬ (nI (3 * k + 2) < 0 ∨ ln ≤ 3 * k + 2) := by rw [n0, nJ_ltF (by omega) (by omega), false_or]; omega
  unfold mL
  rw [f_M_encode_118, z4, if_neg i0, ek, c0, c1, c2, k0, k1, k2, if_neg d0, if_neg d1, if_neg d2, p1, p2, p3, z3]
/-- what a leaf of the reference gives -/
theorem l_leafM {h x y N : Nat} {cnt mm tr : Int32} {K C P Ds Rs bf : Nat → Int32} {e : ES} {B : Fit5} (hw : w ≤ 16) (h1 : 0 < h) (h2 : 2 * h ≤ w) (hB : bVal (dac w h * dac w h) B) (hkn : kn = 4096) (hcn : cn = 2000) (hbn : 4 ≤ bn) (hz : eRep 2048 cnt K mm C tr e) (hc : e.1 + 1 ≤ w * w) (hm : e.2.2.1 + 25 ≤ 16000)
    (hb : bf 0 = nI B.1 ∧ bf 1 = nI B.2.1 ∧ bf 2 = iI B.2.2.1 ∧ bf 3 = iI B.2.2.2.1) :
    ∃ r : Z11, mRep r (eLeaf w h x y B e) N ∧ r.2.2.2.2.2.2.2.1 = P ∧ ∀ {ρ : Type} (lk : Int32 → Int32 → Int32 → Int32 → Int64 → (Nat → Int32) → (Nat → Int32) → (Nat → Int32) → (Nat → Int32) → (Nat → Int32) → (Nat → Int32) → Option ρ),
      (f_M_note (nI x) (nI y) (nI (2 * h)) (lI B.2.2.2.2).toInt32 cnt kn K bn bf).bind (fun q1046 => if (0 : Int32) < 0 ∨ bn ≤ (0 : Int32).toNatClampNeg then none else ((f_M_bitsFor (nI (2 * h)) (nI (2 * w))).bind (fun q1047 => (f_M_tell (bf (0 : Int32).toNatClampNeg) q1047 mm cn C).bind (fun q1049 => if (1 : Int32) < 0 ∨ bn ≤ (1 : Int32).toNatClampNeg then none else ((f_M_tell (bf (1 : Int32).toNatClampNeg) (3 : Int32) q1049.1 cn q1049.2).bind (fun q1050 => if (2 : Int32) < 0 ∨ bn ≤ (2 : Int32).toNatClampNeg then none else ((f_M_tell ((bf (2 : Int32).toNatClampNeg) + (7 : Int32)) (4 : Int32) q1050.1 cn q1050.2).bind (fun q1051 => if (3 : Int32) < 0 ∨ bn ≤ (3 : Int32).toNatClampNeg then none else ((f_M_tell ((bf (3 : Int32).toNatClampNeg) + (256 : Int32)) (10 : Int32) q1051.1 cn q1051.2).bind (fun q1052 => lk q1046.1 q1052.1 tr (nI N) (lI B.2.2.2.2) q1046.2 q1052.2 P Ds Rs bf)))))))))) = lk r.1 r.2.1 r.2.2.1 r.2.2.2.1 r.2.2.2.2.1 r.2.2.2.2.2.1 r.2.2.2.2.2.2.1 r.2.2.2.2.2.2.2.1 r.2.2.2.2.2.2.2.2.1 r.2.2.2.2.2.2.2.2.2.1 r.2.2.2.2.2.2.2.2.2.2 := by
  obtain ⟨z1, z2, z3, z4, z5, z6⟩ := hz
  subst z1; subst z3
  have hww : w * w ≤ 16 * 16 := Nat.mul_le_mul hw hw
  have ha := dac_le (h := h) hw
  obtain ⟨d1, _, _⟩ := db_spec (dac w h * dac w h) (by omega)
  obtain ⟨K', k1, k2, _⟩ := l_M_note (x := x) (y := y) (s := 2 * h) (B := B) (n := kn) (bn := bn) (by omega) hkn hbn z2 hb
  obtain ⟨C', c2, c1⟩ := l_M_tells (n := cn) hw h1 h2 hB (by omega) z4 z5 (by omega) hbn hb
  refine ⟨(nI (e.1 + 1), nI (e.2.2.1 + db (dac w h * dac w h) + 17), tr, nI N, lI B.2.2.2.2, K', C', P, Ds, Rs, bf), ⟨⟨rfl, k2, rfl, c2, wFit_good z5, z6⟩, rfl⟩, rfl, fun lk => ?_⟩
  rw [lI_int, k1, Option.bind_some]
  exact c1 (fun q => lk (nI (e.1 + 1)) q.1 tr (nI N) (lI B.2.2.2.2) K' q.2 P Ds Rs bf)
theorem l_mL (hw : w ≤ 16) (hl2 : 2 ≤ least) (hl : least ≤ 16) (hbd : bd < 2147483648) (hn1 : 2 * w * (2 * w) ≤ n) (hH : w * w ≤ hn) (hdn : 256 ≤ dn) (hrn : 256 ≤ rn) (hbn : 4 ≤ bn) (hkn : kn = 4096) (hcn : cn = 2000) (hln : ln ≤ 96)
    (hf1 : ∀ k, k < 2 * w * (2 * w) → f k = nI (p k)) (hp : ∀ k, k < 2 * w * (2 * w) → p k ≤ 255) (hh : ∀ k, k < w * w → hf k = nI (hlf p (2 * w) k)) :
    ∀ d, 2 * 2 ^ d ≤ w → SqOkM n f hn hf kn cn ln dn rn bn p w least bd d := by
  have hww : w * w ≤ 16 * 16 := Nat.mul_le_mul hw hw
  intro d
  induction d with
  | zero =>
    intro hd x y k e z hx hy hz hq hc hm hk
    have e0 : 2 ^ 0 = 1 := rfl
    have e4 : 4 ^ 0 = 1 := rfl
    rw [e4] at hc hm ⊢
    obtain ⟨bv, be⟩ := best_val (p := p) (w := w) (h := 2 ^ 0) (x := x) (y := y) (by omega) (by omega) hd hx hy hp
    obtain ⟨Df', Rf', bf', s1, s2⟩ := l_M_search (p := p) (w := w) (h := 2 ^ 0) (x := x) (y := y) (n := n) (hn := hn) (dn := dn) (rn := rn) (bn := bn) (tr := e.2.2.2.2) (f := f) (hf := hf) (Df := z.2.2.2.2.2.2.2.2.1) (Rf := z.2.2.2.2.2.2.2.2.2.1) (bf := z.2.2.2.2.2.2.2.2.2.2) (be := z.2.2.2.2.1) hw (by omega) (by omega) hd hx hy hn1 hH hdn hrn hbn hf1 hp hh
    have hz0 := hz
    obtain ⟨⟨z1, z2, z3, z4, z5, z6⟩, zw⟩ := hz0
    have hz' : eRep 2048 z.1 z.2.2.2.2.2.1 z.2.1 z.2.2.2.2.2.2.1 (nI (e.2.2.2.2 + (best p w (2 ^ 0) x y).2)) (eTr (best p w (2 ^ 0) x y).2 e) := ⟨z1, z2, z3, z4, z5, rfl⟩
    obtain ⟨r, k1, k2, k3⟩ := l_leafM (kn := kn) (cn := cn) (bn := bn) (N := k) (x := x) (y := y) (P := z.2.2.2.2.2.2.2.1) (Ds := Df') (Rs := Rf') hw (show 0 < 2 ^ 0 by omega) hd bv hkn hcn hbn hz' hc (show e.2.2.1 + 25 ≤ 16000 by omega) s2
    have g : nI (2 * 2 ^ 0) ≤ nI least := by rw [nJ_leT (by omega) (by omega)]; exact trivial
    refine ⟨1, r, by omega, fun N => ?_, k1, fun j hj => by rw [k2]⟩
    rw [mL_pop (by omega) hln hz hq, s1, Option.bind_some, if_pos g]
    unfold f_M_encode_J207
    rw [if_pos g]
    unfold f_M_encode_J230
    rw [if_pos rfl]
    exact k3 (fun a0 a1 a2 a3 a4 a5 a6 a7 a8 a9 a10 => mL n f hn hf kn cn ln dn rn bn (nI least) (nI bd) (nI (2 * w)) N (a0, a1, a2, a3, a4, a5, a6, a7, a8, a9, a10))
  | succ d ih =>
    intro hd x y k e z hx hy hz hq hc hm hk
    have f1 := four_pos d
    have f2 := four_succ d
    have t1 := two_pos' d
    have t2 := two_succ d
    obtain ⟨bv, be⟩ := best_val (p := p) (w := w) (h := 2 ^ (d + 1)) (x := x) (y := y) (by omega) (by omega) hd hx hy hp
    obtain ⟨Df', Rf', bf', s1, s2⟩ := l_M_search (p := p) (w := w) (h := 2 ^ (d + 1)) (x := x) (y := y) (n := n) (hn := hn) (dn := dn) (rn := rn) (bn := bn) (tr := e.2.2.2.2) (f := f) (hf := hf) (Df := z.2.2.2.2.2.2.2.2.1) (Rf := z.2.2.2.2.2.2.2.2.2.1) (bf := z.2.2.2.2.2.2.2.2.2.2) (be := z.2.2.2.2.1) hw (by omega) (by omega) hd hx hy hn1 hH hdn hrn hbn hf1 hp hh
    have hz0 := hz
    obtain ⟨⟨z1, z2, z3, z4, z5, z6⟩, zw⟩ := hz0
    rw [eSq]
    have he2 := bv.1.2
    generalize hBB : best p w (2 ^ (d + 1)) x y = BB at bv be s1 s2 he2 ⊢
    have hz' : eRep 2048 z.1 z.2.2.2.2.2.1 z.2.1 z.2.2.2.2.2.2.1 (nI (e.2.2.2.2 + BB.2)) (eTr BB.2 e) := ⟨z1, z2, z3, z4, z5, rfl⟩
    by_cases g : 2 * 2 ^ (d + 1) ≤ least
    · obtain ⟨r, k1, k2, k3⟩ := l_leafM (kn := kn) (cn := cn) (bn := bn) (N := k) (x := x) (y := y) (P := z.2.2.2.2.2.2.2.1) (Ds := Df') (Rs := Rf') hw (show 0 < 2 ^ (d + 1) by omega) hd bv hkn hcn hbn hz' (show e.1 + 1 ≤ w * w by omega) (show e.2.2.1 + 25 ≤ 16000 by omega) s2
      rw [if_pos g]
      have g : nI (2 * 2 ^ (d + 1)) ≤ nI least := by rw [nJ_leT (by omega) (by omega)]; exact trivial
      refine ⟨1, r, by omega, fun N => ?_, k1, fun j hj => by rw [k2]⟩
      rw [mL_pop (by omega) hln hz hq, s1, Option.bind_some, if_pos g]
      unfold f_M_encode_J207
      rw [if_pos g]
      unfold f_M_encode_J230
      rw [if_pos rfl]
      exact k3 (fun a0 a1 a2 a3 a4 a5 a6 a7 a8 a9 a10 => mL n f hn hf kn cn ln dn rn bn (nI least) (nI bd) (nI (2 * w)) N (a0, a1, a2, a3, a4, a5, a6, a7, a8, a9, a10))
    · rw [if_neg g]
      have gF : ¬ nI (2 * 2 ^ (d + 1)) ≤ nI least := by rw [nJ_leF (by omega) (by omega)]; exact not_false
      by_cases g2 : BB.1.2.2.2.2 ≤ (bd : Int)
      · rw [if_pos g2]
        have g3 : lg_cmp (lI BB.1.2.2.2.2) (nI bd).toInt64 ≤ 0 := by rw [cmp_le0, nJ_long hbd, lI_leT g2 (by omega) (by omega)]; exact trivial
        obtain ⟨C1, x1, x2⟩ := l_M_tell (num := 0) (w := 1) (n := cn) (m := e.2.2.1) (by omega) (by omega) (by omega) z4 z5 (by omega)
        have hz2 : eRep 2048 z.1 z.2.2.2.2.2.1 (nI (e.2.2.1 + 1)) C1 (nI (e.2.2.2.2 + BB.2)) (eBit 0 (eTr BB.2 e)) := ⟨z1, z2, rfl, x2, apN_good 1 _ _ z5, rfl⟩
        obtain ⟨r, k1, k2, k3⟩ := l_leafM (kn := kn) (cn := cn) (bn := bn) (N := k) (x := x) (y := y) (P := z.2.2.2.2.2.2.2.1) (Ds := Df') (Rs := Rf') hw (show 0 < 2 ^ (d + 1) by omega) hd bv hkn hcn hbn hz2 (show e.1 + 1 ≤ w * w by omega) (show e.2.2.1 + 1 + 25 ≤ 16000 by omega) s2
        refine ⟨1, r, by omega, fun N => ?_, k1, fun j hj => by rw [k2]⟩
        rw [mL_pop (by omega) hln hz hq, s1, Option.bind_some, if_neg gF, if_pos g3]
        unfold f_M_encode_J207
        rw [if_neg gF, if_pos rfl]
        unfold f_M_encode_J226
        have x1' : f_M_tell 0 1 z.2.1 cn z.2.2.2.2.2.2.1 = some (nI (e.2.2.1 + 1), C1) := by rw [z3]; exact x1
        rw [x1', Option.bind_some, if_pos rfl]
        exact k3 (fun a0 a1 a2 a3 a4 a5 a6 a7 a8 a9 a10 => mL n f hn hf kn cn ln dn rn bn (nI least) (nI bd) (nI (2 * w)) N (a0, a1, a2, a3, a4, a5, a6, a7, a8, a9, a10))
      · rw [if_neg g2]
        have g3 : ¬ lg_cmp (lI BB.1.2.2.2.2) (nI bd).toInt64 ≤ 0 := by rw [cmp_le0, nJ_long hbd, lI_leF (by omega) (by omega) (by omega)]; exact not_false
        obtain ⟨C1, x1, x2⟩ := l_M_tell (num := 1) (w := 1) (n := cn) (m := e.2.2.1) (by omega) (by omega) (by omega) z4 z5 (by omega)
        obtain ⟨P', y1, y2, y3, y4, y5, y6⟩ := l_pileQ (k := k) (n := ln) (x := x) (y := y) (h := 2 * 2 ^ d) (f := z.2.2.2.2.2.2.2.1) (by omega) hln (by omega)
        have hz2 : mRep (z.1, nI (e.2.2.1 + 1), nI (e.2.2.2.2 + BB.2), nI (k + 4), lI BB.1.2.2.2.2, z.2.2.2.2.2.1, C1, P', Df', Rf', bf') (eBit 1 (eTr BB.2 e)) (k + 4) := ⟨⟨z1, z2, rfl, x2, apN_good 1 _ _ z5, rfl⟩, rfl⟩
        obtain ⟨c, r, k0, k1, k2, k3⟩ := l_mQ hw (ih (by omega)) (x := x) (y := y) (k := k) (by omega) (by omega) hz2 y2 y3 y4 y5 (show e.1 + 4 * 4 ^ d ≤ w * w by omega) (show e.2.2.1 + 1 + 26 * (4 * 4 ^ d) ≤ 15904 by omega) (by omega)
        refine ⟨c + 1, r, by omega, fun N => ?_, k2, fun j hj => (k3 j hj).trans (y6 j hj)⟩
        rw [show N + (c + 1) = N + c + 1 by omega, mL_pop (by omega) hln hz hq, s1, Option.bind_some, if_neg gF, if_neg g3]
        unfold f_M_encode_J207
        rw [if_neg gF, if_neg (by decide)]
        unfold f_M_encode_J226
        have x1' : f_M_tell 1 1 z.2.1 cn z.2.2.2.2.2.2.1 = some (nI (e.2.2.1 + 1), C1) := by rw [z3]; exact x1
        have y1' : f_M_pileQuarters (nI x) (nI y) (nI (2 * 2 ^ (d + 1))) (nI k) ln z.2.2.2.2.2.2.2.1 = some (nI (k + 4), P') := by rw [t2]; exact y1
        rw [x1', Option.bind_some, if_neg (by decide), y1', Option.bind_some]
        exact k1 N
end
