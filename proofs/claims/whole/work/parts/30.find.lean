/-! the whole search of a block -/
def srch (q R : Nat → Nat) (w h c : Nat) : Nat → Fit5 × Nat
  | 0 => (fit0, 0)
  | k + 1 => if gd (qS q w (domL w h (k / 8)) (domT w h (k / 8)) h) (sqr (k % 8) c) then (bstep (dmn q w h (k / 8) (k % 8)) R (2 * h * (2 * h)) (srch q R w h c k).1 (k / 8) (k % 8), (srch q R w h c k).2 + 1) else srch q R w h c k
def bVal (A : Nat) (B : Fit5) : Prop := bOk B ∧ B.1 < A ∧ B.2.1 < 8 ∧ -7 ≤ B.2.2.1 ∧ B.2.2.1 ≤ 7 ∧ -223 ≤ B.2.2.2.1 ∧ B.2.2.2.1 ≤ 479
section
variable {q R : Nat → Nat} {w h c : Nat}
theorem n_le (h16 : 2 * h ≤ 16) : 2 * h * (2 * h) ≤ 256 := Nat.mul_le_mul h16 h16
theorem n_pos (h1 : 0 < h) : 0 < 2 * h * (2 * h) := Nat.mul_pos (by omega) (by omega)
theorem srch_val (h1 : 0 < h) (h16 : 2 * h ≤ 16) (h2 : 2 * h ≤ w) (hq : ∀ k, k < w * w → q k ≤ 255) (hR : ∀ k, k < 2 * h * (2 * h) → R k ≤ 255) : ∀ k, k ≤ 8 * (dac w h * dac w h) → bVal (dac w h * dac w h) (srch q R w h c k).1 := by
  intro k
  induction k with
  | zero =>
    intro _
    have := dac_pos h1 h2
    have : 0 < dac w h * dac w h := Nat.mul_pos (by omega) (by omega)
    show bVal (dac w h * dac w h) fit0
    exact ⟨⟨Or.inl rfl, by decide⟩, this, by decide, by decide, by decide, by decide, by decide⟩
  | succ k ih =>
    intro hk
    have ih := ih (by omega)
    rw [srch]
    split
    · have hd : k / 8 < dac w h * dac w h := by omega
      have h8 : k % 8 < 8 := by omega
      have hD : ∀ j, j < 2 * h * (2 * h) → dmn q w h (k / 8) (k % 8) j ≤ 255 := fun j hj => dmn_le h1 h2 hd h8 hj hq
      have bo := bstep_ok (d := k / 8) (t := k % 8) ih.1 (n_pos h1) (n_le h16) hD hR
      refine ⟨bo, ?_⟩
      unfold bstep
      split
      · have o := fO_b (n_pos h1) (n_le h16) hD hR
        have s := fS_in (dmn q w h (k / 8) (k % 8)) R (2 * h * (2 * h))
        exact ⟨hd, h8, s.1, s.2, o.1, o.2⟩
      · exact ih.2
    · exact ih
theorem srch_set (h1 : 0 < h) (h16 : 2 * h ≤ 16) (h2 : 2 * h ≤ w) (hq : ∀ k, k < w * w → q k ≤ 255) (hR : ∀ k, k < 2 * h * (2 * h) → R k ≤ 255) {j : Nat} (hg : gd (qS q w (domL w h (j / 8)) (domT w h (j / 8)) h) (sqr (j % 8) c)) : ∀ k, k ≤ 8 * (dac w h * dac w h) → j < k → 0 ≤ (srch q R w h c k).1.2.2.2.2 := by
  intro k
  induction k with
  | zero => intro _ h; omega
  | succ k ih =>
    intro hk hj
    have hd : k / 8 < dac w h * dac w h := by omega
    have h8 : k % 8 < 8 := by omega
    have hD : ∀ j, j < 2 * h * (2 * h) → dmn q w h (k / 8) (k % 8) j ≤ 255 := fun j hj => dmn_le h1 h2 hd h8 hj hq
    have bE := fE_b (n_pos h1) (n_le h16) hD hR
    rw [srch]
    by_cases e : j = k
    · subst e
      rw [if_pos hg]
      show 0 ≤ (bstep _ _ _ _ _ _).2.2.2.2
      unfold bstep
      split
      · exact bE.1
      · omega
    · have ih := ih (by omega) (by omega)
      split
      · show 0 ≤ (bstep _ _ _ _ _ _).2.2.2.2
        unfold bstep
        split
        · exact bE.1
        · exact ih
      · exact ih
theorem srch_end (h1 : 0 < h) (h16 : 2 * h ≤ 16) (h2 : 2 * h ≤ w) (hc : c < 4) (hq : ∀ k, k < w * w → q k ≤ 255) (hR : ∀ k, k < 2 * h * (2 * h) → R k ≤ 255) : 0 ≤ (srch q R w h c (8 * (dac w h * dac w h))).1.2.2.2.2 := by
  have ha := dac_pos h1 h2
  have : 0 < dac w h * dac w h := Nat.mul_pos (by omega) (by omega)
  obtain ⟨t, ht, e⟩ := sqr_some hc (am_lt (qS q w (domL w h 0) (domT w h 0) h))
  refine srch_set (j := t) h1 h16 h2 hq hR ?_ _ (Nat.le_refl _) (by omega)
  rw [show t / 8 = 0 by omega, show t % 8 = t by omega, e]
  exact ⟨am_ge _ 0 (by omega), am_ge _ 1 (by omega), am_ge _ 2 (by omega), am_ge _ 3 (by omega)⟩
end
theorem and3 {j : Nat} (h : j < 4) : nI j &&& (3 : Int32) = nI j := by
  rcases four h with rfl | rfl | rfl | rfl <;> decide
theorem dmn_sum0 (G : Nat → Nat) (q : Nat → Nat) (w h d t : Nat) (h8 : t < 8) : sN (fun k => G (dmn q w h d 0 k)) (2 * h * (2 * h)) = sN (fun k => G (dmn q w h d t k)) (2 * h * (2 * h)) := by
  rw [dmn_sum G q w h d 0 (by omega), dmn_sum G q w h d t h8]
section
variable {w h n wn dn qn rn : Nat} {f W : Nat → Int32} {q R : Nat → Nat}
theorem l_S_find_53 (hw : w ≤ 32) (h1 : 0 < h) (h16 : 2 * h ≤ 16) (h2 : 2 * h ≤ w) (hn : w * w ≤ n) (hn2 : n < 2147483648) (hwn : 2 * h * (2 * h) ≤ wn) (hdn : 2 * h * (2 * h) ≤ dn) (hd2 : dn < 2147483648) (hqn : 4 ≤ qn) (hrn : 8 ≤ rn) (hf : ∀ k, k < w * w → f k = nI (q k)) (hq : ∀ k, k < w * w → q k ≤ 255) (hW : ∀ k, k < 2 * h * (2 * h) → W k = nI (R k)) (hR : ∀ k, k < 2 * h * (2 * h) → R k ≤ 255)
    {c d : Nat} (hc : c < 4) (hd : d < dac w h * dac w h) {Qf Rf Df : Nat → Int32} (hQ : ∀ j, j < 4 → Qf j = nI (qS q w (domL w h d) (domT w h d) h j)) (hRf : ∀ t, t < 8 → Rf t = nI (sqr t c)) {p1 p2 p3 p4 a1 a2 a3 a4 a5 : Int32} (tr : Nat) :
    ∃ b1 b2 b3 b4 b5 b6, f_S_findBest_53 p1 p2 p3 p4 (nI d) (nI (mxU (qS q w (domL w h d) (domT w h d) h) 4)) (nI (2 * h)) (nI (2 * h * (2 * h))) (nI (sN R (2 * h * (2 * h)))) (nI (sN (dmn q w h d 0) (2 * h * (2 * h)))) (nI (sN (fun k => dmn q w h d 0 k * dmn q w h d 0 k) (2 * h * (2 * h)))) (nI w) n f wn W dn qn Qf rn Rf FU 0 (nI (tr + (srch q R w h c (8 * d)).2)) a1 a2 a3 a4 a5 Df (nI (srch q R w h c (8 * d)).1.1) (nI (srch q R w h c (8 * d)).1.2.1) (iI (srch q R w h c (8 * d)).1.2.2.1) (iI (srch q R w h c (8 * d)).1.2.2.2.1) (iI (srch q R w h c (8 * d)).1.2.2.2.2) =
      some (nI 8, nI (tr + (srch q R w h c (8 * d + 8)).2), b1, b2, b3, b4, b5, b6, nI (srch q R w h c (8 * d + 8)).1.1, nI (srch q R w h c (8 * d + 8)).1.2.1, iI (srch q R w h c (8 * d + 8)).1.2.2.1, iI (srch q R w h c (8 * d + 8)).1.2.2.2.1, iI (srch q R w h c (8 * d + 8)).1.2.2.2.2) := by
  obtain ⟨i1, i2⟩ := dom_in h1 h2 hd
  have hv := srch_val (c := c) h1 h16 h2 hq hR
  have key := lp_inv (L := fun n' (z : Int32 × Int32 × Int32 × Int32 × Int32 × Int32 × (Nat → Int32) × Int32 × Int32 × Int32 × Int32 × Int32) v => f_S_findBest_53 p1 p2 p3 p4 (nI d) (nI (mxU (qS q w (domL w h d) (domT w h d) h) 4)) (nI (2 * h)) (nI (2 * h * (2 * h))) (nI (sN R (2 * h * (2 * h)))) (nI (sN (dmn q w h d 0) (2 * h * (2 * h)))) (nI (sN (fun k => dmn q w h d 0 k * dmn q w h d 0 k) (2 * h * (2 * h)))) (nI w) n f wn W dn qn Qf rn Rf n' (nI v) z.1 z.2.1 z.2.2.1 z.2.2.2.1 z.2.2.2.2.1 z.2.2.2.2.2.1 z.2.2.2.2.2.2.1 z.2.2.2.2.2.2.2.1 z.2.2.2.2.2.2.2.2.1 z.2.2.2.2.2.2.2.2.2.1 z.2.2.2.2.2.2.2.2.2.2.1 z.2.2.2.2.2.2.2.2.2.2.2)
    (I := fun v z => ∃ b1 b2 b3 b4 b5 b6, z = (nI (tr + (srch q R w h c (8 * d + v)).2), b1, b2, b3, b4, b5, b6, nI (srch q R w h c (8 * d + v)).1.1, nI (srch q R w h c (8 * d + v)).1.2.1, iI (srch q R w h c (8 * d + v)).1.2.2.1, iI (srch q R w h c (8 * d + v)).1.2.2.2.1, iI (srch q R w h c (8 * d + v)).1.2.2.2.2))
    (F := fun r => ∃ b1 b2 b3 b4 b5 b6, r = (nI 8, nI (tr + (srch q R w h c (8 * d + 8)).2), b1, b2, b3, b4, b5, b6, nI (srch q R w h c (8 * d + 8)).1.1, nI (srch q R w h c (8 * d + 8)).1.2.1, iI (srch q R w h c (8 * d + 8)).1.2.2.1, iI (srch q R w h c (8 * d + 8)).1.2.2.2.1, iI (srch q R w h c (8 * d + 8)).1.2.2.2.2)) (b := 8)
    (fun n' z hz => by
      obtain ⟨b1, b2, b3, b4, b5, b6, rfl⟩ := hz
      refine ⟨_, ?_, b1, b2, b3, b4, b5, b6, rfl⟩
      show f_S_findBest_53 _ _ _ _ _ _ _ _ _ _ _ _ _ _ _ _ _ _ _ _ _ (n' + 1) _ _ _ _ _ _ _ _ _ _ _ _ _ = _
      rw [f_S_findBest_53]
      simp (disch := omega) only [n0, n1, n2, n3, n4, n5, n6, n7, n8, n10, n16, n40, n128, n255, n256, n1024, n2000, n2048, nJ_add, nJ_mul, nJ_sub, nJ_leT, nJ_leF, nJ_ltT, nJ_ltF, nJ_eqT, nJ_eqF, nJ_clamp, nJ_div, nM, iM_eqF, iM_eqF2, iM_leF, iM_ltF, iM_leT, iM_ltT, iM_add, iM_add0, natLeF, natLeT, natLtF, natLtT, natEqF, natEqT, if_true, if_false, ite_true, ite_false, false_or, or_false, or_self, Option.bind_some, ↓reduceIte])
    (fun n' z v hv8 hz => by
      obtain ⟨b1, b2, b3, b4, b5, b6, rfl⟩ := hz
      have ed : (8 * d + v) / 8 = d := by omega
      have em : (8 * d + v) % 8 = v := by omega
      have hB := (hv (8 * d + v) (by omega)).1
      have hj := sqr_lt hv8 hc
      have st : srch q R w h c (8 * d + (v + 1)) = if gd (qS q w (domL w h d) (domT w h d) h) (sqr v c) then (bstep (dmn q w h d v) R (2 * h * (2 * h)) (srch q R w h c (8 * d + v)).1 d v, (srch q R w h c (8 * d + v)).2 + 1) else srch q R w h c (8 * d + v) := by
        rw [← Nat.add_assoc, srch, ed, em]
      rw [st]
      generalize srch q R w h c (8 * d + v) = BB at hB
      have hQj := hQ _ hj
      have hRv := hRf v hv8
      have hb1 := qS_le (show w ≤ 64 by omega) hj i1 i2 hq
      have hb2 : mxU (qS q w (domL w h d) (domT w h d) h) 4 ≤ 261120 := mx_le (fun j hj => qS_le (by omega) hj i1 i2 hq)
      have e1 : sN (dmn q w h d 0) (2 * h * (2 * h)) = sN (dmn q w h d v) (2 * h * (2 * h)) := dmn_sum0 (fun z => z) q w h d v hv8
      have e2 : sN (fun k => dmn q w h d 0 k * dmn q w h d 0 k) (2 * h * (2 * h)) = sN (fun k => dmn q w h d v k * dmn q w h d v k) (2 * h * (2 * h)) := dmn_sum0 (fun z => z * z) q w h d v hv8
      by_cases g : gd (qS q w (domL w h d) (domT w h d) h) (sqr v c)
      · obtain ⟨x1, x2, x3, x4, x5, x6, ht⟩ := l_S_tryTurn (B := BB.1) (a1 := b1) (a2 := b2) (a3 := b3) (a4 := b4) (a5 := b5) (Df := b6) hB hw h1 h16 h2 hd hv8 hn hn2 hwn hdn hd2 hf hq hW hR rfl
        rw [if_pos g]
        refine ⟨_, ?_, x1, x2, x3, x4, x5, x6, rfl⟩
        show f_S_findBest_53 _ _ _ _ _ _ _ _ _ _ _ _ _ _ _ _ _ _ _ _ _ (n' + 1) _ _ _ _ _ _ _ _ _ _ _ _ _ = f_S_findBest_53 _ _ _ _ _ _ _ _ _ _ _ _ _ _ _ _ _ _ _ _ _ n' _ _ _ _ _ _ _ _ _ _ _ _ _
        rw [f_S_findBest_53]
        have gm := (gd_iff _ _ hj).mp g
        simp (disch := omega) only [n0, n1, n2, n3, n4, n5, n6, n7, n8, n10, n16, n40, n128, n255, n256, n1024, n2000, n2048, nJ_add, nJ_mul, nJ_sub, nJ_leT, nJ_leF, nJ_ltT, nJ_ltF, nJ_eqT, nJ_eqF, nJ_clamp, nJ_div, nM, iM_eqF, iM_eqF2, iM_leF, iM_ltF, iM_leT, iM_ltT, iM_add, iM_add0, natLeF, natLeT, natLtF, natLtT, natEqF, natEqT, if_true, if_false, ite_true, ite_false, false_or, or_false, or_self, Option.bind_some, ↓reduceIte, hRv]
        rw [← n3, and3 hj]
        simp (disch := omega) only [n0, n1, n2, n3, n4, n5, n6, n7, n8, n10, n16, n40, n128, n255, n256, n1024, n2000, n2048, nJ_add, nJ_mul, nJ_sub, nJ_leT, nJ_leF, nJ_ltT, nJ_ltF, nJ_eqT, nJ_eqF, nJ_clamp, nJ_div, nM, iM_eqF, iM_eqF2, iM_leF, iM_ltF, iM_leT, iM_ltT, iM_add, iM_add0, natLeF, natLeT, natLtF, natLtT, natEqF, natEqT, if_true, if_false, ite_true, ite_false, false_or, or_false, or_self, Option.bind_some, ↓reduceIte, hQj]
        rw [e1, e2, ht]
        simp (disch := omega) only [n0, n1, n2, n3, n4, n5, n6, n7, n8, n10, n16, n40, n128, n255, n256, n1024, n2000, n2048, nJ_add, nJ_mul, nJ_sub, nJ_leT, nJ_leF, nJ_ltT, nJ_ltF, nJ_eqT, nJ_eqF, nJ_clamp, nJ_div, nM, iM_eqF, iM_eqF2, iM_leF, iM_ltF, iM_leT, iM_ltT, iM_add, iM_add0, natLeF, natLeT, natLtF, natLtT, natEqF, natEqT, if_true, if_false, ite_true, ite_false, false_or, or_false, or_self, Option.bind_some, ↓reduceIte, Nat.add_assoc]
      · rw [if_neg g]
        refine ⟨_, ?_, b1, b2, b3, b4, b5, b6, rfl⟩
        show f_S_findBest_53 _ _ _ _ _ _ _ _ _ _ _ _ _ _ _ _ _ _ _ _ _ (n' + 1) _ _ _ _ _ _ _ _ _ _ _ _ _ = f_S_findBest_53 _ _ _ _ _ _ _ _ _ _ _ _ _ _ _ _ _ _ _ _ _ n' _ _ _ _ _ _ _ _ _ _ _ _ _
        rw [f_S_findBest_53]
        have gm : ¬ qS q w (domL w h d) (domT w h d) h (sqr v c) = mxU (qS q w (domL w h d) (domT w h d) h) 4 := fun e => g ((gd_iff _ _ hj).mpr e)
        simp (disch := omega) only [n0, n1, n2, n3, n4, n5, n6, n7, n8, n10, n16, n40, n128, n255, n256, n1024, n2000, n2048, nJ_add, nJ_mul, nJ_sub, nJ_leT, nJ_leF, nJ_ltT, nJ_ltF, nJ_eqT, nJ_eqF, nJ_clamp, nJ_div, nM, iM_eqF, iM_eqF2, iM_leF, iM_ltF, iM_leT, iM_ltT, iM_add, iM_add0, natLeF, natLeT, natLtF, natLtT, natEqF, natEqT, if_true, if_false, ite_true, ite_false, false_or, or_false, or_self, Option.bind_some, ↓reduceIte, hRv]
        rw [← n3, and3 hj]
        simp (disch := omega) only [n0, n1, n2, n3, n4, n5, n6, n7, n8, n10, n16, n40, n128, n255, n256, n1024, n2000, n2048, nJ_add, nJ_mul, nJ_sub, nJ_leT, nJ_leF, nJ_ltT, nJ_ltF, nJ_eqT, nJ_eqF, nJ_clamp, nJ_div, nM, iM_eqF, iM_eqF2, iM_leF, iM_ltF, iM_leT, iM_ltT, iM_add, iM_add0, natLeF, natLeT, natLtF, natLtT, natEqF, natEqT, if_true, if_false, ite_true, ite_false, false_or, or_false, or_self, Option.bind_some, ↓reduceIte, hQj])
    FU 0 _ (Nat.zero_le _) (fu (by omega)) ⟨a1, a2, a3, a4, a5, Df, rfl⟩
  obtain ⟨r, e, b1, b2, b3, b4, b5, b6, rfl⟩ := key
  exact ⟨b1, b2, b3, b4, b5, b6, e⟩
theorem l_S_find_35 (hw : w ≤ 32) (h1 : 0 < h) (h16 : 2 * h ≤ 16) (h2 : 2 * h ≤ w) (hn : w * w ≤ n) (hn2 : n < 2147483648) (hwn : 2 * h * (2 * h) ≤ wn) (hdn : 2 * h * (2 * h) ≤ dn) (hd2 : dn < 2147483648) (hqn : 4 ≤ qn) (hrn : 8 ≤ rn) (hf : ∀ k, k < w * w → f k = nI (q k)) (hq : ∀ k, k < w * w → q k ≤ 255) (hW : ∀ k, k < 2 * h * (2 * h) → W k = nI (R k)) (hR : ∀ k, k < 2 * h * (2 * h) → R k ≤ 255)
    {c : Nat} (hc : c < 4) {Rf Df Qf : Nat → Int32} (hRf : ∀ t, t < 8 → Rf t = nI (sqr t c)) {p1 p2 p3 a1 a2 a3 a4 a5 a6 a7 : Int32} (tr : Nat) :
    ∃ c1 c2 b1 b2 b3 b4 b5 b6 b7, f_S_findBest_35 p1 p2 p3 (nI (dac w h * dac w h)) (nI (2 * h)) (nI (2 * h * (2 * h))) (nI (sN R (2 * h * (2 * h)))) (nI w) n f wn W dn qn rn Rf FU 0 (nI tr) a6 a7 a1 a2 a3 a4 a5 Df Qf 0 0 0 0 (-1) =
      some (nI (dac w h * dac w h), nI (tr + (srch q R w h c (8 * (dac w h * dac w h))).2), c1, c2, b1, b2, b3, b4, b5, b6, b7, nI (srch q R w h c (8 * (dac w h * dac w h))).1.1, nI (srch q R w h c (8 * (dac w h * dac w h))).1.2.1, iI (srch q R w h c (8 * (dac w h * dac w h))).1.2.2.1, iI (srch q R w h c (8 * (dac w h * dac w h))).1.2.2.2.1, iI (srch q R w h c (8 * (dac w h * dac w h))).1.2.2.2.2) := by
  have hA : dac w h * dac w h ≤ 961 := by
    have h3 : w / h ≤ w := Nat.div_le_self w h
    have h4 : dac w h ≤ 31 := by unfold dac; omega
    exact Nat.mul_le_mul h4 h4
  have key := lp_inv (L := fun n' (z : Int32 × Int32 × Int32 × Int32 × Int32 × Int32 × Int32 × Int32 × (Nat → Int32) × (Nat → Int32) × Int32 × Int32 × Int32 × Int32 × Int32) v => f_S_findBest_35 p1 p2 p3 (nI (dac w h * dac w h)) (nI (2 * h)) (nI (2 * h * (2 * h))) (nI (sN R (2 * h * (2 * h)))) (nI w) n f wn W dn qn rn Rf n' (nI v) z.1 z.2.1 z.2.2.1 z.2.2.2.1 z.2.2.2.2.1 z.2.2.2.2.2.1 z.2.2.2.2.2.2.1 z.2.2.2.2.2.2.2.1 z.2.2.2.2.2.2.2.2.1 z.2.2.2.2.2.2.2.2.2.1 z.2.2.2.2.2.2.2.2.2.2.1 z.2.2.2.2.2.2.2.2.2.2.2.1 z.2.2.2.2.2.2.2.2.2.2.2.2.1 z.2.2.2.2.2.2.2.2.2.2.2.2.2.1 z.2.2.2.2.2.2.2.2.2.2.2.2.2.2)
    (I := fun v z => ∃ c1 c2 b1 b2 b3 b4 b5 b6 b7, z = (nI (tr + (srch q R w h c (8 * v)).2), c1, c2, b1, b2, b3, b4, b5, b6, b7, nI (srch q R w h c (8 * v)).1.1, nI (srch q R w h c (8 * v)).1.2.1, iI (srch q R w h c (8 * v)).1.2.2.1, iI (srch q R w h c (8 * v)).1.2.2.2.1, iI (srch q R w h c (8 * v)).1.2.2.2.2))
    (F := fun r => ∃ c1 c2 b1 b2 b3 b4 b5 b6 b7, r = (nI (dac w h * dac w h), nI (tr + (srch q R w h c (8 * (dac w h * dac w h))).2), c1, c2, b1, b2, b3, b4, b5, b6, b7, nI (srch q R w h c (8 * (dac w h * dac w h))).1.1, nI (srch q R w h c (8 * (dac w h * dac w h))).1.2.1, iI (srch q R w h c (8 * (dac w h * dac w h))).1.2.2.1, iI (srch q R w h c (8 * (dac w h * dac w h))).1.2.2.2.1, iI (srch q R w h c (8 * (dac w h * dac w h))).1.2.2.2.2)) (b := dac w h * dac w h)
    (fun n' z hz => by
      obtain ⟨c1, c2, b1, b2, b3, b4, b5, b6, b7, rfl⟩ := hz
      refine ⟨_, ?_, c1, c2, b1, b2, b3, b4, b5, b6, b7, rfl⟩
      show f_S_findBest_35 _ _ _ _ _ _ _ _ _ _ _ _ _ _ _ _ (n' + 1) _ _ _ _ _ _ _ _ _ _ _ _ _ _ _ _ = _
      rw [f_S_findBest_35]
      simp (disch := omega) only [n0, n1, n2, n3, n4, n5, n6, n7, n8, n10, n16, n40, n128, n255, n256, n1024, n2000, n2048, nJ_add, nJ_mul, nJ_sub, nJ_leT, nJ_leF, nJ_ltT, nJ_ltF, nJ_eqT, nJ_eqF, nJ_clamp, nJ_div, nM, iM_eqF, iM_eqF2, iM_leF, iM_ltF, iM_leT, iM_ltT, iM_add, iM_add0, natLeF, natLeT, natLtF, natLtT, natEqF, natEqT, if_true, if_false, ite_true, ite_false, false_or, or_false, or_self, Option.bind_some, ↓reduceIte])
    (fun n' z v hv hz => by
      obtain ⟨c1, c2, b1, b2, b3, b4, b5, b6, b7, rfl⟩ := hz
      obtain ⟨m1, m2, m3, m4, m5, hm⟩ := l_S_measure (a1 := c1) (a2 := c2) (a3 := b1) (a4 := b2) (a5 := b3) (a6 := b4) (a7 := b5) (Qf := b7) hw h1 h2 hv hn hn2 hqn hf hq 0 (by omega)
      obtain ⟨x1, x2, x3, x4, x5, x6, ht⟩ := l_S_find_53 (d := v) (Qf := wr b7 (fun j => nI (qS q w (domL w h v) (domT w h v) h j)) 4) (Rf := Rf) (Df := b6) (p1 := p1) (p2 := p2) (p3 := p3) (p4 := nI (dac w h * dac w h)) (a1 := m1) (a2 := m2) (a3 := m3) (a4 := m4) (a5 := m5) hw h1 h16 h2 hn hn2 hwn hdn hd2 hqn hrn hf hq hW hR hc hv (fun j hj => wr_lt hj) hRf tr
      refine ⟨_, ?_, nI (sN (dmn q w h v 0) (2 * h * (2 * h))), nI (sN (fun k => dmn q w h v 0 k * dmn q w h v 0 k) (2 * h * (2 * h))), x1, x2, x3, x4, x5, x6, wr b7 (fun j => nI (qS q w (domL w h v) (domT w h v) h j)) 4, rfl⟩
      show f_S_findBest_35 _ _ _ _ _ _ _ _ _ _ _ _ _ _ _ _ (n' + 1) _ _ _ _ _ _ _ _ _ _ _ _ _ _ _ _ = f_S_findBest_35 _ _ _ _ _ _ _ _ _ _ _ _ _ _ _ _ n' _ _ _ _ _ _ _ _ _ _ _ _ _ _ _ _
      rw [f_S_findBest_35, if_neg (by rw [nJ_leF (by omega) (by omega)]; exact not_false), hm]
      simp only [Option.bind_some]
      rw [ht]
      simp only [Option.bind_some]
      rw [n1, nJ_add, Nat.mul_add])
    FU 0 _ (Nat.zero_le _) (fu (by omega)) ⟨a6, a7, a1, a2, a3, a4, a5, Df, Qf, rfl⟩
  obtain ⟨r, e, c1, c2, b1, b2, b3, b4, b5, b6, b7, rfl⟩ := key
  exact ⟨c1, c2, b1, b2, b3, b4, b5, b6, b7, e⟩
end
