/-! the search for the best domain -/
/-- a loop that counts up, with what holds of its state -/
theorem lp_inv {σ ρ : Type} (L : Nat → σ → Nat → Option ρ) (I : Nat → σ → Prop) (F : ρ → Prop) (b : Nat)
    (h0 : ∀ n s, I b s → ∃ r, L (n + 1) s b = some r ∧ F r) (h1 : ∀ n s v, v < b → I v s → ∃ s', L (n + 1) s v = L n s' (v + 1) ∧ I (v + 1) s') :
    ∀ n v s, v ≤ b → b - v < n → I v s → ∃ r, L n s v = some r ∧ F r := by
  intro n
  induction n with
  | zero => intro v s _ h; omega
  | succ n ih =>
    intro v s hv h hi
    by_cases e : v = b
    · subst e; exact h0 n s hi
    · obtain ⟨s', e1, e2⟩ := h1 n s v (by omega) hi
      rw [e1]; exact ih (v + 1) s' (by omega) (by omega) e2
abbrev Fit5 := Nat × Nat × Int × Int × Int
def fit0 : Fit5 := (0, 0, 0, 0, -1)
/-- the better of what was best and a new fit -/
def bstep (D R : Nat → Nat) (n : Nat) (B : Fit5) (d t : Nat) : Fit5 := if B.2.2.2.2 < 0 ∨ fE D R n < B.2.2.2.2 then (d, t, fS D R n, fO D R n, fE D R n) else B
theorem l_S_sourceQ {t c : Nat} (h8 : t < 8) (hc : c < 4) : f_V_sourceQuarter (nI t) (nI c) = some (nI (sqr t c)) := by
  unfold f_V_sourceQuarter
  rw [l_across hc, l_down hc]
  simp only [Option.bind_some]
  rw [n2, l_V_down (by omega) (by omega) (by omega) h8]
  simp only [Option.bind_some]
  rw [l_V_across (by omega) (by omega) (by omega) h8]
  simp (disch := omega) only [n0, n1, n2, n3, n4, n5, n6, n7, n8, n10, n16, n40, n128, n255, n256, n1024, n2000, n2048, nJ_add, nJ_mul, nJ_sub, nJ_leT, nJ_leF, nJ_ltT, nJ_ltF, nJ_eqT, nJ_eqF, nJ_clamp, nJ_div, nM, iM_eqF, iM_eqF2, iM_leF, iM_ltF, iM_leT, iM_ltT, iM_add, iM_add0, natLeF, natLeT, natLtF, natLtT, natEqF, natEqT, if_true, if_false, ite_true, ite_false, false_or, or_false, or_self, Option.bind_some, ↓reduceIte]
  rfl
theorem l_S_take_35 {a b c' : Int32} {c rn : Nat} {R : Nat → Int32} (hc : c < 4) (hrn : 8 ≤ rn) : f_S_takeBlock_35 a b c' (nI c) rn FU 0 R = some (nI 8, wr R (fun t => nI (sqr t c)) 8) := by
  have key := lp_up (L := fun n' (z : Nat → Int32) v => f_S_takeBlock_35 a b c' (nI c) rn n' (nI v) z) (st := fun v => wr R (fun t => nI (sqr t c)) v) (b := 8) (fin := (nI 8, wr R (fun t => nI (sqr t c)) 8))
    (fun n' => by
      show f_S_takeBlock_35 _ _ _ _ _ (n' + 1) _ _ = _
      rw [f_S_takeBlock_35]
      simp (disch := omega) only [n0, n1, n2, n3, n4, n5, n6, n7, n8, n10, n16, n40, n128, n255, n256, n1024, n2000, n2048, nJ_add, nJ_mul, nJ_sub, nJ_leT, nJ_leF, nJ_ltT, nJ_ltF, nJ_eqT, nJ_eqF, nJ_clamp, nJ_div, nM, iM_eqF, iM_eqF2, iM_leF, iM_ltF, iM_leT, iM_ltT, iM_add, iM_add0, natLeF, natLeT, natLtF, natLtT, natEqF, natEqT, if_true, if_false, ite_true, ite_false, false_or, or_false, or_self, Option.bind_some, ↓reduceIte])
    (fun n' v hv => by
      show f_S_takeBlock_35 _ _ _ _ _ (n' + 1) _ _ = f_S_takeBlock_35 _ _ _ _ _ n' _ _
      rw [f_S_takeBlock_35, l_S_sourceQ hv hc]
      simp (disch := omega) only [n0, n1, n2, n3, n4, n5, n6, n7, n8, n10, n16, n40, n128, n255, n256, n1024, n2000, n2048, nJ_add, nJ_mul, nJ_sub, nJ_leT, nJ_leF, nJ_ltT, nJ_ltF, nJ_eqT, nJ_eqF, nJ_clamp, nJ_div, nM, iM_eqF, iM_eqF2, iM_leF, iM_ltF, iM_leT, iM_ltT, iM_add, iM_add0, natLeF, natLeT, natLtF, natLtT, natEqF, natEqT, if_true, if_false, ite_true, ite_false, false_or, or_false, or_self, Option.bind_some, ↓reduceIte, wrS R (fun t => nI (sqr t c))])
    FU 0 (Nat.zero_le _) (fu (by omega))
  have key : f_S_takeBlock_35 a b c' (nI c) rn FU 0 (wr R (fun t => nI (sqr t c)) 0) = _ := key
  rw [wr0] at key
  exact key
section
variable {s x y size n wn : Nat} {f W : Nat → Int32} {p : Nat → Nat} {c' : Int32}
theorem l_S_take_91 (hs : s ≤ 64) (hx : x + size ≤ s) (hy : y + size ≤ s) (hn : s * s ≤ n) (hw : size * size ≤ wn) (hw2 : wn < 2147483648) (hf : ∀ k, k < s * s → f k = nI (p k)) {j : Nat} (hj : j < size) :
    f_S_takeBlock_91 (nI x) (nI y) (nI size) c' (nI j) (nI s) n f wn FU (nI (j * size)) 0 (wr W (fun k => nI (blk p s x y size k)) (j * size)) = some (nI ((j + 1) * size), nI size, wr W (fun k => nI (blk p s x y size k)) ((j + 1) * size)) := by
  have hsz := sq64 (show size ≤ 64 by omega)
  have key := lp_up (L := fun n' (z : Nat × (Nat → Int32)) v => f_S_takeBlock_91 (nI x) (nI y) (nI size) c' (nI j) (nI s) n f wn n' (nI z.1) (nI v) z.2) (st := fun v => (j * size + v, wr W (fun k => nI (blk p s x y size k)) (j * size + v))) (b := size) (fin := (nI ((j + 1) * size), nI size, wr W (fun k => nI (blk p s x y size k)) ((j + 1) * size)))
    (fun n' => by
      show f_S_takeBlock_91 _ _ _ _ _ _ _ _ _ (n' + 1) _ _ _ = _
      rw [f_S_takeBlock_91]
      simp (disch := omega) only [n0, n1, n2, n3, n4, n5, n6, n7, n8, n10, n16, n40, n128, n255, n256, n1024, n2000, n2048, nJ_add, nJ_mul, nJ_sub, nJ_leT, nJ_leF, nJ_ltT, nJ_ltF, nJ_eqT, nJ_eqF, nJ_clamp, nJ_div, nM, iM_eqF, iM_eqF2, iM_leF, iM_ltF, iM_leT, iM_ltT, iM_add, iM_add0, natLeF, natLeT, natLtF, natLtT, natEqF, natEqT, if_true, if_false, ite_true, ite_false, false_or, or_false, or_self, Option.bind_some, ↓reduceIte, Nat.succ_mul])
    (fun n' v hv => by
      show f_S_takeBlock_91 _ _ _ _ _ _ _ _ _ (n' + 1) _ _ _ = f_S_takeBlock_91 _ _ _ _ _ _ _ _ _ n' _ _ _
      rw [f_S_takeBlock_91]
      have h1 := ix hv hj
      have h2 := ix (x := x + v) (y := y + j) (s := s) (by omega) (by omega)
      obtain ⟨e1, e2⟩ := rowOf (y := j) hv
      have e : blk p s x y size (j * size + v) = p ((y + j) * s + (x + v)) := by unfold blk; rw [e1, e2, Nat.add_assoc]
      simp (disch := omega) only [n0, n1, n2, n3, n4, n5, n6, n7, n8, n10, n16, n40, n128, n255, n256, n1024, n2000, n2048, nJ_add, nJ_mul, nJ_sub, nJ_leT, nJ_leF, nJ_ltT, nJ_ltF, nJ_eqT, nJ_eqF, nJ_clamp, nJ_div, nM, iM_eqF, iM_eqF2, iM_leF, iM_ltF, iM_leT, iM_ltT, iM_add, iM_add0, natLeF, natLeT, natLtF, natLtT, natEqF, natEqT, if_true, if_false, ite_true, ite_false, false_or, or_false, or_self, Option.bind_some, ↓reduceIte]
      rw [l_G_sample hs (by omega) (by omega) hn, hf _ h2, ← e]
      simp (disch := omega) only [n0, n1, n2, n3, n4, n5, n6, n7, n8, n10, n16, n40, n128, n255, n256, n1024, n2000, n2048, nJ_add, nJ_mul, nJ_sub, nJ_leT, nJ_leF, nJ_ltT, nJ_ltF, nJ_eqT, nJ_eqF, nJ_clamp, nJ_div, nM, iM_eqF, iM_eqF2, iM_leF, iM_ltF, iM_leT, iM_ltT, iM_add, iM_add0, natLeF, natLeT, natLtF, natLtT, natEqF, natEqT, if_true, if_false, ite_true, ite_false, false_or, or_false, or_self, Option.bind_some, ↓reduceIte, wrS W (fun k => nI (blk p s x y size k)), Nat.add_assoc])
    FU 0 (Nat.zero_le _) (fu (by omega))
  exact key
theorem l_S_take_82 (hs : s ≤ 64) (hx : x + size ≤ s) (hy : y + size ≤ s) (hn : s * s ≤ n) (hw : size * size ≤ wn) (hw2 : wn < 2147483648) (hf : ∀ k, k < s * s → f k = nI (p k)) :
    f_S_takeBlock_82 (nI x) (nI y) (nI size) c' (nI s) n f wn FU 0 0 W = some (nI (size * size), nI size, wr W (fun k => nI (blk p s x y size k)) (size * size)) := by
  have key := lp_up (L := fun n' (z : Nat × (Nat → Int32)) v => f_S_takeBlock_82 (nI x) (nI y) (nI size) c' (nI s) n f wn n' (nI z.1) (nI v) z.2) (st := fun v => (v * size, wr W (fun k => nI (blk p s x y size k)) (v * size))) (b := size) (fin := (nI (size * size), nI size, wr W (fun k => nI (blk p s x y size k)) (size * size)))
    (fun n' => by
      show f_S_takeBlock_82 _ _ _ _ _ _ _ _ (n' + 1) _ _ _ = _
      rw [f_S_takeBlock_82]
      simp (disch := omega) only [n0, n1, n2, n3, n4, n5, n6, n7, n8, n10, n16, n40, n128, n255, n256, n1024, n2000, n2048, nJ_add, nJ_mul, nJ_sub, nJ_leT, nJ_leF, nJ_ltT, nJ_ltF, nJ_eqT, nJ_eqF, nJ_clamp, nJ_div, nM, iM_eqF, iM_eqF2, iM_leF, iM_ltF, iM_leT, iM_ltT, iM_add, iM_add0, natLeF, natLeT, natLtF, natLtT, natEqF, natEqT, if_true, if_false, ite_true, ite_false, false_or, or_false, or_self, Option.bind_some, ↓reduceIte])
    (fun n' v hv => by
      show f_S_takeBlock_82 _ _ _ _ _ _ _ _ (n' + 1) _ _ _ = f_S_takeBlock_82 _ _ _ _ _ _ _ _ n' _ _ _
      rw [f_S_takeBlock_82, l_S_take_91 hs hx hy hn hw hw2 hf hv]
      simp (disch := omega) only [n0, n1, n2, n3, n4, n5, n6, n7, n8, n10, n16, n40, n128, n255, n256, n1024, n2000, n2048, nJ_add, nJ_mul, nJ_sub, nJ_leT, nJ_leF, nJ_ltT, nJ_ltF, nJ_eqT, nJ_eqF, nJ_clamp, nJ_div, nM, iM_eqF, iM_eqF2, iM_leF, iM_ltF, iM_leT, iM_ltT, iM_add, iM_add0, natLeF, natLeT, natLtF, natLtT, natEqF, natEqT, if_true, if_false, ite_true, ite_false, false_or, or_false, or_self, Option.bind_some, ↓reduceIte])
    FU 0 (Nat.zero_le _) (fu (by omega))
  have key : f_S_takeBlock_82 (nI x) (nI y) (nI size) c' (nI s) n f wn FU (nI (0 * size)) 0 (wr W (fun k => nI (blk p s x y size k)) (0 * size)) = _ := key
  rw [Nat.zero_mul, wr0] at key
  exact key
end
theorem blk_sum {p : Nat → Nat} {s x y size : Nat} : sqS p s x y size = sN (blk p s x y size) (size * size) := by
  rw [sN_rows]
  refine sQ_congr (fun i j hi hj => ?_)
  obtain ⟨e1, e2⟩ := rowOf (y := j) hi
  unfold blk; rw [e1, e2, Nat.add_assoc]
theorem l_S_takeBlock {s x y h n wn rn : Nat} {f W Rf : Nat → Int32} {p : Nat → Nat} (hs : s ≤ 64) (hx : x + 2 * h ≤ s) (hy : y + 2 * h ≤ s) (hn : s * s ≤ n) (hw : 2 * h * (2 * h) ≤ wn) (hw2 : wn < 2147483648) (hrn : 8 ≤ rn) (hf : ∀ k, k < s * s → f k = nI (p k)) (hp : ∀ k, k < s * s → p k ≤ 255) :
    f_S_takeBlock (nI x) (nI y) (nI (2 * h)) (nI s) n f wn W rn Rf = some (nI (2 * h), nI (2 * h * (2 * h)), nI (sN (blk p s x y (2 * h)) (2 * h * (2 * h))), wr W (fun k => nI (blk p s x y (2 * h) k)) (2 * h * (2 * h)), wr Rf (fun t => nI (sqr t (am (qS p s x y h)))) 8) := by
  have hsz := sq64 (show 2 * h ≤ 64 by omega)
  unfold f_S_takeBlock
  rw [l_G_brightest hs hx hy hn hf hp]
  simp only [Option.bind_some]
  rw [l_S_take_35 (am_lt _) hrn]
  simp only [Option.bind_some]
  rw [l_G_sum hs hx hy hn hf]
  simp only [Option.bind_some]
  rw [l_S_take_82 hs hx hy hn hw hw2 hf, blk_sum]
  simp (disch := omega) only [n0, n1, n2, n3, n4, n5, n6, n7, n8, n10, n16, n40, n128, n255, n256, n1024, n2000, n2048, nJ_add, nJ_mul, nJ_sub, nJ_leT, nJ_leF, nJ_ltT, nJ_ltF, nJ_eqT, nJ_eqF, nJ_clamp, nJ_div, nM, iM_eqF, iM_eqF2, iM_leF, iM_ltF, iM_leT, iM_ltT, iM_add, iM_add0, natLeF, natLeT, natLtF, natLtT, natEqF, natEqT, if_true, if_false, ite_true, ite_false, false_or, or_false, or_self, Option.bind_some, ↓reduceIte]
