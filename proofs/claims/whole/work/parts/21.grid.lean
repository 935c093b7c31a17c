/-! Grid: the class's pictures -/
theorem l_G_has {x y s : Nat} (hs : s ≤ 64) (hx : x < s) (hy : y < s) : f_G_has (nI x) (nI y) (nI s) = some 1 := by
  unfold f_G_has
  simp (disch := omega) only [n0, n1, n2, n3, n4, n5, n6, n7, n8, n10, n16, n40, n128, n255, n256, n1024, n2000, n2048, nJ_add, nJ_mul, nJ_sub, nJ_leT, nJ_leF, nJ_ltT, nJ_ltF, nJ_eqT, nJ_eqF, nJ_clamp, nJ_div, nM, iM_eqF, iM_eqF2, iM_leF, iM_ltF, iM_leT, iM_ltT, iM_add, iM_add0, natLeF, natLeT, natLtF, natLtT, natEqF, natEqT, if_true, if_false, ite_true, ite_false, false_or, or_false, or_self, Option.bind_some, ↓reduceIte]
theorem l_G_sample {x y s n : Nat} {f : Nat → Int32} (hs : s ≤ 64) (hx : x < s) (hy : y < s) (hn : s * s ≤ n) : f_G_sample (nI x) (nI y) (nI s) n f = some (f (y * s + x)) := by
  unfold f_G_sample
  have h1 := ix hx hy
  have h2 := sq64 hs
  simp (disch := omega) only [n0, n1, n2, n3, n4, n5, n6, n7, n8, n10, n16, n40, n128, n255, n256, n1024, n2000, n2048, nJ_add, nJ_mul, nJ_sub, nJ_leT, nJ_leF, nJ_ltT, nJ_ltF, nJ_eqT, nJ_eqF, nJ_clamp, nJ_div, nM, iM_eqF, iM_eqF2, iM_leF, iM_ltF, iM_leT, iM_ltT, iM_add, iM_add0, natLeF, natLeT, natLtF, natLtT, natEqF, natEqT, if_true, if_false, ite_true, ite_false, false_or, or_false, or_self, Option.bind_some, ↓reduceIte]
theorem l_G_set {x y s n : Nat} {f : Nat → Int32} {v : Int32} (hs : s ≤ 64) (hx : x < s) (hy : y < s) (hn : s * s ≤ n) : f_G_set (nI x) (nI y) v (nI s) n f = some (upd f (y * s + x) v) := by
  unfold f_G_set
  have h1 := ix hx hy
  have h2 := sq64 hs
  rw [l_G_has hs hx hy]
  simp (disch := omega) only [n0, n1, n2, n3, n4, n5, n6, n7, n8, n10, n16, n40, n128, n255, n256, n1024, n2000, n2048, nJ_add, nJ_mul, nJ_sub, nJ_leT, nJ_leF, nJ_ltT, nJ_ltF, nJ_eqT, nJ_eqF, nJ_clamp, nJ_div, nM, iM_eqF, iM_eqF2, iM_leF, iM_ltF, iM_leT, iM_ltT, iM_add, iM_add0, natLeF, natLeT, natLtF, natLtT, natEqF, natEqT, if_true, if_false, ite_true, ite_false, false_or, or_false, or_self, Option.bind_some, ↓reduceIte]
/-- out of the picture -/
theorem l_G_hasnt {x y : Int32} {s : Nat} (hs : s ≤ 64) (h : ¬ ∃ a b : Nat, a < s ∧ b < s ∧ x = nI a ∧ y = nI b) : f_G_has x y (nI s) = some 0 := by
  unfold f_G_has
  by_cases h1 : x < 0
  · rw [if_pos h1]
  · rw [if_neg h1]
    obtain h1' | ⟨a, ha, rfl⟩ := nJ_case x
    · exact absurd h1' h1
    by_cases h2 : a < s
    · by_cases h3 : y < 0
      · rw [if_pos h3]; split <;> rfl
      · rw [if_neg h3]
        obtain h3' | ⟨b, hb, rfl⟩ := nJ_case y
        · exact absurd h3' h3
        by_cases h4 : b < s
        · exact absurd ⟨a, b, h2, h4, rfl, rfl⟩ h
        · simp (disch := omega) only [n0, n1, n2, n3, n4, n5, n6, n7, n8, n10, n16, n40, n128, n255, n256, n1024, n2000, n2048, nJ_add, nJ_mul, nJ_sub, nJ_leT, nJ_leF, nJ_ltT, nJ_ltF, nJ_eqT, nJ_eqF, nJ_clamp, nJ_div, nM, iM_eqF, iM_eqF2, iM_leF, iM_ltF, iM_leT, iM_ltT, iM_add, iM_add0, natLeF, natLeT, natLtF, natLtT, natEqF, natEqT, if_true, if_false, ite_true, ite_false, false_or, or_false, or_self, Option.bind_some, ↓reduceIte]
    · simp (disch := omega) only [n0, n1, n2, n3, n4, n5, n6, n7, n8, n10, n16, n40, n128, n255, n256, n1024, n2000, n2048, nJ_add, nJ_mul, nJ_sub, nJ_leT, nJ_leF, nJ_ltT, nJ_ltF, nJ_eqT, nJ_eqF, nJ_clamp, nJ_div, nM, iM_eqF, iM_eqF2, iM_leF, iM_ltF, iM_leT, iM_ltT, iM_add, iM_add0, natLeF, natLeT, natLtF, natLtT, natEqF, natEqT, if_true, if_false, ite_true, ite_false, false_or, or_false, or_self, Option.bind_some, ↓reduceIte]
section
variable (left top size s n : Nat) (f : Nat → Int32) (p : Nat → Nat)
/-- a sum in a square -/
def sqS (p : Nat → Nat) (s left top size : Nat) : Nat := sQ (fun x y => p ((top + y) * s + (left + x))) size size
theorem l_G_sum_15 {left top size s n y : Nat} {f : Nat → Int32} {p : Nat → Nat} (hs : s ≤ 64) (hl : left + size ≤ s) (ht : top + size ≤ s) (hn : s * s ≤ n) (hf : ∀ k, k < s * s → f k = nI (p k)) (hy : y < size) (a : Nat) :
    f_G_sum_15 (nI left) (nI top) (nI size) (nI y) (nI s) n f FU (nI a) 0 = some (nI (a + sN (fun x => p ((top + y) * s + (left + x))) size), nI size) := by
  have key := lp_up (L := fun n' (a : Nat) v => f_G_sum_15 (nI left) (nI top) (nI size) (nI y) (nI s) n f n' (nI a) (nI v)) (st := fun v => a + sN (fun x => p ((top + y) * s + (left + x))) v) (b := size) (fin := (nI (a + sN (fun x => p ((top + y) * s + (left + x))) size), nI size))
    (fun n' => by
      show f_G_sum_15 _ _ _ _ _ _ _ (n' + 1) _ _ = _
      rw [f_G_sum_15]
      simp (disch := omega) only [n0, n1, n2, n3, n4, n5, n6, n7, n8, n10, n16, n40, n128, n255, n256, n1024, n2000, n2048, nJ_add, nJ_mul, nJ_sub, nJ_leT, nJ_leF, nJ_ltT, nJ_ltF, nJ_eqT, nJ_eqF, nJ_clamp, nJ_div, nM, iM_eqF, iM_eqF2, iM_leF, iM_ltF, iM_leT, iM_ltT, iM_add, iM_add0, natLeF, natLeT, natLtF, natLtT, natEqF, natEqT, if_true, if_false, ite_true, ite_false, false_or, or_false, or_self, Option.bind_some, ↓reduceIte])
    (fun n' v hv => by
      show f_G_sum_15 _ _ _ _ _ _ _ (n' + 1) _ _ = f_G_sum_15 _ _ _ _ _ _ _ n' _ _
      rw [f_G_sum_15]
      have h2 : left + v < s := by omega
      have h3 : top + y < s := by omega
      have h1 := ix h2 h3
      simp (disch := omega) only [n0, n1, n2, n3, n4, n5, n6, n7, n8, n10, n16, n40, n128, n255, n256, n1024, n2000, n2048, nJ_add, nJ_mul, nJ_sub, nJ_leT, nJ_leF, nJ_ltT, nJ_ltF, nJ_eqT, nJ_eqF, nJ_clamp, nJ_div, nM, iM_eqF, iM_eqF2, iM_leF, iM_ltF, iM_leT, iM_ltT, iM_add, iM_add0, natLeF, natLeT, natLtF, natLtT, natEqF, natEqT, if_true, if_false, ite_true, ite_false, false_or, or_false, or_self, Option.bind_some, ↓reduceIte]
      rw [l_G_sample hs h2 h3 hn, hf _ h1]
      simp (disch := omega) only [n0, n1, n2, n3, n4, n5, n6, n7, n8, n10, n16, n40, n128, n255, n256, n1024, n2000, n2048, nJ_add, nJ_mul, nJ_sub, nJ_leT, nJ_leF, nJ_ltT, nJ_ltF, nJ_eqT, nJ_eqF, nJ_clamp, nJ_div, nM, iM_eqF, iM_eqF2, iM_leF, iM_ltF, iM_leT, iM_ltT, iM_add, iM_add0, natLeF, natLeT, natLtF, natLtT, natEqF, natEqT, if_true, if_false, ite_true, ite_false, false_or, or_false, or_self, Option.bind_some, ↓reduceIte, sN, Nat.add_assoc])
    FU 0 (Nat.zero_le _) (fu (by omega))
  exact key
theorem l_G_sum {left top size s n : Nat} {f : Nat → Int32} {p : Nat → Nat} (hs : s ≤ 64) (hl : left + size ≤ s) (ht : top + size ≤ s) (hn : s * s ≤ n) (hf : ∀ k, k < s * s → f k = nI (p k)) :
    f_G_sum (nI left) (nI top) (nI size) (nI s) n f = some (nI (sqS p s left top size)) := by
  have key := lp_up (L := fun n' (a : Nat) v => f_G_sum_6 (nI left) (nI top) (nI size) (nI s) n f n' (nI a) (nI v)) (st := fun v => sQ (fun x y => p ((top + y) * s + (left + x))) size v) (b := size) (fin := (nI (sqS p s left top size), nI size))
    (fun n' => by
      show f_G_sum_6 _ _ _ _ _ _ (n' + 1) _ _ = _
      rw [f_G_sum_6]
      simp (disch := omega) only [n0, n1, n2, n3, n4, n5, n6, n7, n8, n10, n16, n40, n128, n255, n256, n1024, n2000, n2048, nJ_add, nJ_mul, nJ_sub, nJ_leT, nJ_leF, nJ_ltT, nJ_ltF, nJ_eqT, nJ_eqF, nJ_clamp, nJ_div, nM, iM_eqF, iM_eqF2, iM_leF, iM_ltF, iM_leT, iM_ltT, iM_add, iM_add0, natLeF, natLeT, natLtF, natLtT, natEqF, natEqT, if_true, if_false, ite_true, ite_false, false_or, or_false, or_self, Option.bind_some, ↓reduceIte]
      rfl)
    (fun n' v hv => by
      show f_G_sum_6 _ _ _ _ _ _ (n' + 1) _ _ = f_G_sum_6 _ _ _ _ _ _ n' _ _
      rw [f_G_sum_6, l_G_sum_15 hs hl ht hn hf hv]
      simp (disch := omega) only [n0, n1, n2, n3, n4, n5, n6, n7, n8, n10, n16, n40, n128, n255, n256, n1024, n2000, n2048, nJ_add, nJ_mul, nJ_sub, nJ_leT, nJ_leF, nJ_ltT, nJ_ltF, nJ_eqT, nJ_eqF, nJ_clamp, nJ_div, nM, iM_eqF, iM_eqF2, iM_leF, iM_ltF, iM_leT, iM_ltT, iM_add, iM_add0, natLeF, natLeT, natLtF, natLtT, natEqF, natEqT, if_true, if_false, ite_true, ite_false, false_or, or_false, or_self, Option.bind_some, ↓reduceIte]
      rfl)
    FU 0 (Nat.zero_le _) (fu (by omega))
  have key : f_G_sum_6 (nI left) (nI top) (nI size) (nI s) n f FU (0 : Int32) (0 : Int32) = some (nI (sqS p s left top size), nI size) := key
  unfold f_G_sum
  rw [key]
  rfl
end
/-- halving -/
def hlf (p : Nat → Nat) (s k : Nat) : Nat := (p (2 * (k / (s / 2)) * s + 2 * (k % (s / 2))) + p (2 * (k / (s / 2)) * s + 2 * (k % (s / 2)) + 1) + p (2 * (k / (s / 2)) * s + 2 * (k % (s / 2)) + s) + p (2 * (k / (s / 2)) * s + 2 * (k % (s / 2)) + s + 1) + 2) / 4
theorem rowOf {x y w : Nat} (hx : x < w) : (y * w + x) / w = y ∧ (y * w + x) % w = x := by
  have hw : 0 < w := by omega
  constructor
  · rw [Nat.mul_comm, Nat.mul_add_div hw, Nat.div_eq_of_lt hx]; omega
  · rw [Nat.mul_comm, Nat.mul_add_mod, Nat.mod_eq_of_lt hx]
theorem hlf_sum {p : Nat → Nat} {s x y w : Nat} (hw : s / 2 = w) (hx : x < w) : (sqS p s (2 * x) (2 * y) 2 + 2) / 4 = hlf p s (y * w + x) := by
  unfold hlf sqS sQ
  obtain ⟨e1, e2⟩ := rowOf (y := y) hx
  rw [hw, e1, e2]
  simp only [sN]
  have a1 : (2 * y + 0) * s + (2 * x + 0) = 2 * y * s + 2 * x := by simp
  have a2 : (2 * y + 0) * s + (2 * x + 1) = 2 * y * s + 2 * x + 1 := by simp; omega
  have a3 : (2 * y + 1) * s + (2 * x + 0) = 2 * y * s + 2 * x + s := by rw [Nat.add_mul]; omega
  have a4 : (2 * y + 1) * s + (2 * x + 1) = 2 * y * s + 2 * x + s + 1 := by rw [Nat.add_mul]; omega
  rw [a1, a2, a3, a4]
  congr 1; omega
theorem sqS_le {p : Nat → Nat} {s left top size c : Nat} (hl : left + size ≤ s) (ht : top + size ≤ s) (hp : ∀ k, k < s * s → p k ≤ c) : sqS p s left top size ≤ size * (size * c) := by
  unfold sqS sQ
  refine sN_le (fun y hy => sN_le (fun x hx => hp _ (ix (by omega) (by omega))))
theorem l_G_half_29 {s w m n y : Nat} {f g : Nat → Int32} {p : Nat → Nat} (hs : s ≤ 64) (hw : s / 2 = w) (hy : y < w) (hn : s * s ≤ n) (hm : w * w ≤ m) (hf : ∀ k, k < s * s → f k = nI (p k)) (hp : ∀ k, k < s * s → p k ≤ 255) :
    f_G_becomeHalfOf_29 (nI y) (nI w) m (nI s) n f FU 0 (wr g (fun k => nI (hlf p s k)) (y * w)) = some (nI w, wr g (fun k => nI (hlf p s k)) ((y + 1) * w)) := by
  have key := lp_up (L := fun n' (h : Nat → Int32) v => f_G_becomeHalfOf_29 (nI y) (nI w) m (nI s) n f n' (nI v) h) (st := fun v => wr g (fun k => nI (hlf p s k)) (y * w + v)) (b := w) (fin := (nI w, wr g (fun k => nI (hlf p s k)) ((y + 1) * w)))
    (fun n' => by
      show f_G_becomeHalfOf_29 _ _ _ _ _ _ (n' + 1) _ _ = _
      rw [f_G_becomeHalfOf_29]
      simp (disch := omega) only [n0, n1, n2, n3, n4, n5, n6, n7, n8, n10, n16, n40, n128, n255, n256, n1024, n2000, n2048, nJ_add, nJ_mul, nJ_sub, nJ_leT, nJ_leF, nJ_ltT, nJ_ltF, nJ_eqT, nJ_eqF, nJ_clamp, nJ_div, nM, iM_eqF, iM_eqF2, iM_leF, iM_ltF, iM_leT, iM_ltT, iM_add, iM_add0, natLeF, natLeT, natLtF, natLtT, natEqF, natEqT, if_true, if_false, ite_true, ite_false, false_or, or_false, or_self, Option.bind_some, ↓reduceIte, Nat.succ_mul])
    (fun n' v hv => by
      show f_G_becomeHalfOf_29 _ _ _ _ _ _ (n' + 1) _ _ = f_G_becomeHalfOf_29 _ _ _ _ _ _ n' _ _
      rw [f_G_becomeHalfOf_29]
      simp (disch := omega) only [n0, n1, n2, n3, n4, n5, n6, n7, n8, n10, n16, n40, n128, n255, n256, n1024, n2000, n2048, nJ_add, nJ_mul, nJ_sub, nJ_leT, nJ_leF, nJ_ltT, nJ_ltF, nJ_eqT, nJ_eqF, nJ_clamp, nJ_div, nM, iM_eqF, iM_eqF2, iM_leF, iM_ltF, iM_leT, iM_ltT, iM_add, iM_add0, natLeF, natLeT, natLtF, natLtT, natEqF, natEqT, if_true, if_false, ite_true, ite_false, false_or, or_false, or_self, Option.bind_some, ↓reduceIte]
      rw [l_G_sum hs (by omega) (by omega) hn hf]
      have hb := sqS_le (p := p) (s := s) (left := 2 * v) (top := 2 * y) (size := 2) (by omega) (by omega) hp
      simp (disch := omega) only [n0, n1, n2, n3, n4, n5, n6, n7, n8, n10, n16, n40, n128, n255, n256, n1024, n2000, n2048, nJ_add, nJ_mul, nJ_sub, nJ_leT, nJ_leF, nJ_ltT, nJ_ltF, nJ_eqT, nJ_eqF, nJ_clamp, nJ_div, nM, iM_eqF, iM_eqF2, iM_leF, iM_ltF, iM_leT, iM_ltT, iM_add, iM_add0, natLeF, natLeT, natLtF, natLtT, natEqF, natEqT, if_true, if_false, ite_true, ite_false, false_or, or_false, or_self, Option.bind_some, ↓reduceIte]
      rw [hlf_sum hw hv, l_G_set (by omega) hv hy hm, wrS _ (fun k => nI (hlf p s k))]
      simp (disch := omega) only [n0, n1, n2, n3, n4, n5, n6, n7, n8, n10, n16, n40, n128, n255, n256, n1024, n2000, n2048, nJ_add, nJ_mul, nJ_sub, nJ_leT, nJ_leF, nJ_ltT, nJ_ltF, nJ_eqT, nJ_eqF, nJ_clamp, nJ_div, nM, iM_eqF, iM_eqF2, iM_leF, iM_ltF, iM_leT, iM_ltT, iM_add, iM_add0, natLeF, natLeT, natLtF, natLtT, natEqF, natEqT, if_true, if_false, ite_true, ite_false, false_or, or_false, or_self, Option.bind_some, ↓reduceIte, Nat.add_assoc])
    FU 0 (Nat.zero_le _) (fu (by omega))
  exact key
theorem l_G_half {s w m n q : Nat} {f g : Nat → Int32} {p : Nat → Nat} {G : Int32} (hs : s ≤ 64) (hw : s / 2 = w) (hn : s * s ≤ n) (hm : w * w ≤ m) (hq : w ≤ q) (hq2 : q ≤ 64) (hf : ∀ k, k < s * s → f k = nI (p k)) (hp : ∀ k, k < s * s → p k ≤ 255) :
    f_G_becomeHalfOf (nI q) G m g (nI s) n f = some (nI w, wr g (fun k => nI (hlf p s k)) (w * w)) := by
  have key := lp_up (L := fun n' (h : Nat → Int32) v => f_G_becomeHalfOf_19 (nI w) m (nI s) n f n' (nI v) h) (st := fun v => wr g (fun k => nI (hlf p s k)) (v * w)) (b := w) (fin := (nI w, wr g (fun k => nI (hlf p s k)) (w * w)))
    (fun n' => by
      show f_G_becomeHalfOf_19 _ _ _ _ _ (n' + 1) _ _ = _
      rw [f_G_becomeHalfOf_19]
      simp (disch := omega) only [n0, n1, n2, n3, n4, n5, n6, n7, n8, n10, n16, n40, n128, n255, n256, n1024, n2000, n2048, nJ_add, nJ_mul, nJ_sub, nJ_leT, nJ_leF, nJ_ltT, nJ_ltF, nJ_eqT, nJ_eqF, nJ_clamp, nJ_div, nM, iM_eqF, iM_eqF2, iM_leF, iM_ltF, iM_leT, iM_ltT, iM_add, iM_add0, natLeF, natLeT, natLtF, natLtT, natEqF, natEqT, if_true, if_false, ite_true, ite_false, false_or, or_false, or_self, Option.bind_some, ↓reduceIte])
    (fun n' v hv => by
      show f_G_becomeHalfOf_19 _ _ _ _ _ (n' + 1) _ _ = f_G_becomeHalfOf_19 _ _ _ _ _ n' _ _
      rw [f_G_becomeHalfOf_19, l_G_half_29 hs hw hv hn hm hf hp]
      simp (disch := omega) only [n0, n1, n2, n3, n4, n5, n6, n7, n8, n10, n16, n40, n128, n255, n256, n1024, n2000, n2048, nJ_add, nJ_mul, nJ_sub, nJ_leT, nJ_leF, nJ_ltT, nJ_ltF, nJ_eqT, nJ_eqF, nJ_clamp, nJ_div, nM, iM_eqF, iM_eqF2, iM_leF, iM_ltF, iM_leT, iM_ltT, iM_add, iM_add0, natLeF, natLeT, natLtF, natLtT, natEqF, natEqT, if_true, if_false, ite_true, ite_false, false_or, or_false, or_self, Option.bind_some, ↓reduceIte])
    FU 0 (Nat.zero_le _) (fu (by omega))
  have key : f_G_becomeHalfOf_19 (nI w) m (nI s) n f FU 0 (wr g (fun k => nI (hlf p s k)) (0 * w)) = some (nI w, wr g (fun k => nI (hlf p s k)) (w * w)) := key
  rw [Nat.zero_mul, wr0] at key
  unfold f_G_becomeHalfOf
  have e : (if nI q < nI s / 2 then nI q else nI s / 2) = nI w := by
    simp (disch := omega) only [n0, n1, n2, n3, n4, n5, n6, n7, n8, n10, n16, n40, n128, n255, n256, n1024, n2000, n2048, nJ_add, nJ_mul, nJ_sub, nJ_leT, nJ_leF, nJ_ltT, nJ_ltF, nJ_eqT, nJ_eqF, nJ_clamp, nJ_div, nM, iM_eqF, iM_eqF2, iM_leF, iM_ltF, iM_leT, iM_ltT, iM_add, iM_add0, natLeF, natLeT, natLtF, natLtT, natEqF, natEqT, if_true, if_false, ite_true, ite_false, false_or, or_false, or_self, Option.bind_some, ↓reduceIte, hw]
  rw [e, key]
  rfl
