/-! measuring a domain, trying a turn -/
theorem l_S_measure_30 {a : Int32} {w L T h n qn : Nat} {f Qf : Nat → Int32} {q : Nat → Nat} (hw : w ≤ 64) (hL : L + 2 * h ≤ w) (hT : T + 2 * h ≤ w) (hn : w * w ≤ n) (hqn : 4 ≤ qn) (hf : ∀ k, k < w * w → f k = nI (q k)) (hq : ∀ k, k < w * w → q k ≤ 255) :
    f_S_measure_30 a (nI h) (nI w) n f (nI L) (nI T) qn FU 0 0 0 Qf = some (nI (mxU (qS q w L T h) 4), nI 4, nI (sN (qS q w L T h) 4), wr Qf (fun j => nI (qS q w L T h j)) 4) := by
  have key := lp_up (L := fun n' (z : Nat × Nat × (Nat → Int32)) v => f_S_measure_30 a (nI h) (nI w) n f (nI L) (nI T) qn n' (nI z.1) (nI v) (nI z.2.1) z.2.2) (st := fun v => (mxU (qS q w L T h) v, sN (qS q w L T h) v, wr Qf (fun j => nI (qS q w L T h j)) v)) (b := 4) (fin := (nI (mxU (qS q w L T h) 4), nI 4, nI (sN (qS q w L T h) 4), wr Qf (fun j => nI (qS q w L T h j)) 4))
    (fun n' => by
      show f_S_measure_30 _ _ _ _ _ _ _ _ (n' + 1) _ _ _ _ = _
      rw [f_S_measure_30]
      simp (disch := omega) only [n0, n1, n2, n3, n4, n5, n6, n7, n8, n10, n16, n40, n128, n255, n256, n1024, n2000, n2048, nJ_add, nJ_mul, nJ_sub, nJ_leT, nJ_leF, nJ_ltT, nJ_ltF, nJ_eqT, nJ_eqF, nJ_clamp, nJ_div, nM, iM_eqF, iM_eqF2, iM_leF, iM_ltF, iM_leT, iM_ltT, iM_add, iM_add0, natLeF, natLeT, natLtF, natLtT, natEqF, natEqT, if_true, if_false, ite_true, ite_false, false_or, or_false, or_self, Option.bind_some, ↓reduceIte])
    (fun n' v hv => by
      show f_S_measure_30 _ _ _ _ _ _ _ _ (n' + 1) _ _ _ _ = f_S_measure_30 _ _ _ _ _ _ _ _ n' _ _ _ _
      rw [f_S_measure_30, l_across hv, l_down hv]
      have m := qmul (h := h) hv
      have hS := l_G_sum (left := L + v % 2 * h) (top := T + v / 2 * h) (size := h) hw (by omega) (by omega) hn hf
      have e : sqS q w (L + v % 2 * h) (T + v / 2 * h) h = qS q w L T h v := rfl
      rw [e] at hS
      have hb := qS_le hw hv hL hT hq
      have hm : mxU (qS q w L T h) v ≤ 261120 := mx_le (fun j hj => qS_le hw (by omega) hL hT hq)
      by_cases c : mxU (qS q w L T h) v < qS q w L T h v
      · have e2 : mxU (qS q w L T h) (v + 1) = qS q w L T h v := by rw [mxU, if_pos c]
        rw [e2]
        simp (disch := omega) only [n0, n1, n2, n3, n4, n5, n6, n7, n8, n10, n16, n40, n128, n255, n256, n1024, n2000, n2048, nJ_add, nJ_mul, nJ_sub, nJ_leT, nJ_leF, nJ_ltT, nJ_ltF, nJ_eqT, nJ_eqF, nJ_clamp, nJ_div, nM, iM_eqF, iM_eqF2, iM_leF, iM_ltF, iM_leT, iM_ltT, iM_add, iM_add0, natLeF, natLeT, natLtF, natLtT, natEqF, natEqT, if_true, if_false, ite_true, ite_false, false_or, or_false, or_self, Option.bind_some, ↓reduceIte, hS, wrS Qf (fun j => nI (qS q w L T h j))]
        rfl
      · have e2 : mxU (qS q w L T h) (v + 1) = mxU (qS q w L T h) v := by rw [mxU, if_neg c]
        rw [e2]
        simp (disch := omega) only [n0, n1, n2, n3, n4, n5, n6, n7, n8, n10, n16, n40, n128, n255, n256, n1024, n2000, n2048, nJ_add, nJ_mul, nJ_sub, nJ_leT, nJ_leF, nJ_ltT, nJ_ltF, nJ_eqT, nJ_eqF, nJ_clamp, nJ_div, nM, iM_eqF, iM_eqF2, iM_leF, iM_ltF, iM_leT, iM_ltT, iM_add, iM_add0, natLeF, natLeT, natLtF, natLtT, natEqF, natEqT, if_true, if_false, ite_true, ite_false, false_or, or_false, or_self, Option.bind_some, ↓reduceIte, hS, wrS Qf (fun j => nI (qS q w L T h j))]
        rfl)
    FU 0 (Nat.zero_le _) (fu (by omega))
  have key : f_S_measure_30 a (nI h) (nI w) n f (nI L) (nI T) qn FU 0 0 0 (wr Qf (fun j => nI (qS q w L T h j)) 0) = _ := key
  rw [wr0] at key
  exact key
section
variable {w L T size n : Nat} {f : Nat → Int32} {q : Nat → Nat} {a b c : Int32}
abbrev v0 (w L T size : Nat) : Int32 := nI (dcell w L T (size - 1) 0 0 0)
abbrev vA (w L T size : Nat) : Int32 := nI (dcell w L T (size - 1) 0 1 0) - nI (dcell w L T (size - 1) 0 0 0)
abbrev vD (w L T size : Nat) : Int32 := nI (dcell w L T (size - 1) 0 0 1) - nI (dcell w L T (size - 1) 0 0 0)
theorem l_S_measure_129 (hw : w ≤ 64) (hs : 2 ≤ size) (hL : L + size ≤ w) (hT : T + size ≤ w) (hn : w * w ≤ n) (hn2 : n < 2147483648) (hf : ∀ k, k < w * w → f k = nI (q k)) {y : Nat} (hy : y < size) (z0 : Nat) :
    f_S_measure_129 a b c (nI y) (nI size) n f (v0 w L T size) (vA w L T size) (vD w L T size) FU 0 (nI z0) = some (nI size, nI (z0 + sN (fun x => q ((T + y) * w + L + x) * q ((T + y) * w + L + x)) size)) := by
  have key := lp_up (L := fun n' (z : Nat) v => f_S_measure_129 a b c (nI y) (nI size) n f (v0 w L T size) (vA w L T size) (vD w L T size) n' (nI v) (nI z)) (st := fun v => z0 + sN (fun x => q ((T + y) * w + L + x) * q ((T + y) * w + L + x)) v) (b := size) (fin := (nI size, nI (z0 + sN (fun x => q ((T + y) * w + L + x) * q ((T + y) * w + L + x)) size)))
    (fun n' => by
      show f_S_measure_129 _ _ _ _ _ _ _ _ _ _ (n' + 1) _ _ = _
      rw [f_S_measure_129]
      simp (disch := omega) only [n0, n1, n2, n3, n4, n5, n6, n7, n8, n10, n16, n40, n128, n255, n256, n1024, n2000, n2048, nJ_add, nJ_mul, nJ_sub, nJ_leT, nJ_leF, nJ_ltT, nJ_ltF, nJ_eqT, nJ_eqF, nJ_clamp, nJ_div, nM, iM_eqF, iM_eqF2, iM_leF, iM_ltF, iM_leT, iM_ltT, iM_add, iM_add0, natLeF, natLeT, natLtF, natLtT, natEqF, natEqT, if_true, if_false, ite_true, ite_false, false_or, or_false, or_self, Option.bind_some, ↓reduceIte])
    (fun n' v hv => by
      show f_S_measure_129 _ _ _ _ _ _ _ _ _ _ (n' + 1) _ _ = f_S_measure_129 _ _ _ _ _ _ _ _ _ _ n' _ _
      rw [f_S_measure_129, l_V_sample hw hs (by omega) hv hy hL hT hn hn2]
      have hc := dcell_lt (w := w) (left := L) (top := T) (m := size - 1) (turn := 0) (x := v) (y := y) (by omega) (by omega) (by omega) (by omega) (by omega)
      rw [hf _ hc]
      have e : dcell w L T (size - 1) 0 v y = (T + y) * w + L + v := rfl
      rw [e]
      simp (disch := omega) only [n0, n1, n2, n3, n4, n5, n6, n7, n8, n10, n16, n40, n128, n255, n256, n1024, n2000, n2048, nJ_add, nJ_mul, nJ_sub, nJ_leT, nJ_leF, nJ_ltT, nJ_ltF, nJ_eqT, nJ_eqF, nJ_clamp, nJ_div, nM, iM_eqF, iM_eqF2, iM_leF, iM_ltF, iM_leT, iM_ltT, iM_add, iM_add0, natLeF, natLeT, natLtF, natLtT, natEqF, natEqT, if_true, if_false, ite_true, ite_false, false_or, or_false, or_self, Option.bind_some, ↓reduceIte, sN, Nat.add_assoc])
    FU 0 (Nat.zero_le _) (fu (by omega))
  exact key
theorem l_S_measure_117 (hw : w ≤ 64) (hs : 2 ≤ size) (hL : L + size ≤ w) (hT : T + size ≤ w) (hn : w * w ≤ n) (hn2 : n < 2147483648) (hf : ∀ k, k < w * w → f k = nI (q k)) :
    f_S_measure_117 a b c (nI size) n f (v0 w L T size) (vA w L T size) (vD w L T size) FU 0 0 = some (nI size, nI (sQ (fun x y => q ((T + y) * w + L + x) * q ((T + y) * w + L + x)) size size)) := by
  have key := lp_up (L := fun n' (z : Nat) v => f_S_measure_117 a b c (nI size) n f (v0 w L T size) (vA w L T size) (vD w L T size) n' (nI v) (nI z)) (st := fun v => sQ (fun x y => q ((T + y) * w + L + x) * q ((T + y) * w + L + x)) size v) (b := size) (fin := (nI size, nI (sQ (fun x y => q ((T + y) * w + L + x) * q ((T + y) * w + L + x)) size size)))
    (fun n' => by
      show f_S_measure_117 _ _ _ _ _ _ _ _ _ (n' + 1) _ _ = _
      rw [f_S_measure_117]
      simp (disch := omega) only [n0, n1, n2, n3, n4, n5, n6, n7, n8, n10, n16, n40, n128, n255, n256, n1024, n2000, n2048, nJ_add, nJ_mul, nJ_sub, nJ_leT, nJ_leF, nJ_ltT, nJ_ltF, nJ_eqT, nJ_eqF, nJ_clamp, nJ_div, nM, iM_eqF, iM_eqF2, iM_leF, iM_ltF, iM_leT, iM_ltT, iM_add, iM_add0, natLeF, natLeT, natLtF, natLtT, natEqF, natEqT, if_true, if_false, ite_true, ite_false, false_or, or_false, or_self, Option.bind_some, ↓reduceIte])
    (fun n' v hv => by
      show f_S_measure_117 _ _ _ _ _ _ _ _ _ (n' + 1) _ _ = f_S_measure_117 _ _ _ _ _ _ _ _ _ n' _ _
      rw [f_S_measure_117, l_S_measure_129 hw hs hL hT hn hn2 hf hv]
      simp (disch := omega) only [n0, n1, n2, n3, n4, n5, n6, n7, n8, n10, n16, n40, n128, n255, n256, n1024, n2000, n2048, nJ_add, nJ_mul, nJ_sub, nJ_leT, nJ_leF, nJ_ltT, nJ_ltF, nJ_eqT, nJ_eqF, nJ_clamp, nJ_div, nM, iM_eqF, iM_eqF2, iM_leF, iM_ltF, iM_leT, iM_ltT, iM_add, iM_add0, natLeF, natLeT, natLtF, natLtT, natEqF, natEqT, if_true, if_false, ite_true, ite_false, false_or, or_false, or_self, Option.bind_some, ↓reduceIte]
      rfl)
    FU 0 (Nat.zero_le _) (fu (by omega))
  exact key
end
theorem q4_sum {q : Nat → Nat} {w L T h : Nat} : sN (qS q w L T h) 4 = sQ (fun x y => q ((T + y) * w + L + x)) (2 * h) (2 * h) := by
  rw [sQ_four]
  simp only [sN, qS, sqS, Nat.zero_mul, Nat.one_mul, Nat.reduceMod, Nat.reduceDiv, Nat.add_zero, Nat.zero_add]
  have e : ∀ a b c d : Nat, a + b + c + d = a + b + (c + d) := fun a b c d => by omega
  rw [e]
  congr 1
  · congr 1
    · exact sQ_congr (fun x y _ _ => by rw [Nat.add_assoc])
    · exact sQ_congr (fun x y _ _ => by rw [Nat.add_assoc, Nat.add_assoc])
  · congr 1
    · exact sQ_congr (fun x y _ _ => by rw [Nat.add_assoc, Nat.add_assoc])
    · exact sQ_congr (fun x y _ _ => by rw [Nat.add_assoc, Nat.add_assoc, Nat.add_assoc])
theorem l_S_measure {w h d n qn : Nat} {f Qf : Nat → Int32} {q : Nat → Nat} {a1 a2 a3 a4 a5 a6 a7 : Int32} (hw : w ≤ 32) (h1 : 0 < h) (h2 : 2 * h ≤ w) (hd : d < dac w h * dac w h) (hn : w * w ≤ n) (hn2 : n < 2147483648) (hqn : 4 ≤ qn) (hf : ∀ k, k < w * w → f k = nI (q k)) (hq : ∀ k, k < w * w → q k ≤ 255) (t : Nat) (h8 : t < 8) :
    ∃ b1 b2 b3 b4 b5, f_S_measure (nI d) (nI (2 * h)) a1 a2 (nI w) n f a3 a4 a5 a6 a7 qn Qf = some (nI (mxU (qS q w (domL w h d) (domT w h d) h) 4), nI (sN (dmn q w h d t) (2 * h * (2 * h))), nI (sN (fun k => dmn q w h d t k * dmn q w h d t k) (2 * h * (2 * h))), b1, b2, b3, b4, b5, wr Qf (fun j => nI (qS q w (domL w h d) (domT w h d) h j)) 4) := by
  obtain ⟨i1, i2⟩ := dom_in h1 h2 hd
  have e1 := dmn_sum (fun z => z) q w h d t h8
  have e1 : sN (dmn q w h d t) (2 * h * (2 * h)) = _ := e1
  have e2 := dmn_sum (fun z => z * z) q w h d t h8
  refine ⟨nI (domL w h d), nI (domT w h d), v0 w (domL w h d) (domT w h d) (2 * h), vA w (domL w h d) (domT w h d) (2 * h), vD w (domL w h d) (domT w h d) (2 * h), ?_⟩
  unfold f_S_measure
  rw [show (0 : Int32) = nI 0 from rfl, l_V_aim hw h1 h2 hd (by omega)]
  simp only [Option.bind_some]
  have e3 : nI (2 * h) / 2 = nI h := by simp (disch := omega) only [n0, n1, n2, n3, n4, n5, n6, n7, n8, n10, n16, n40, n128, n255, n256, n1024, n2000, n2048, nJ_add, nJ_mul, nJ_sub, nJ_leT, nJ_leF, nJ_ltT, nJ_ltF, nJ_eqT, nJ_eqF, nJ_clamp, nJ_div, nM, iM_eqF, iM_eqF2, iM_leF, iM_ltF, iM_leT, iM_ltT, iM_add, iM_add0, natLeF, natLeT, natLtF, natLtT, natEqF, natEqT, if_true, if_false, ite_true, ite_false, false_or, or_false, or_self, Option.bind_some, ↓reduceIte]
  rw [e3]
  have m1 := l_S_measure_30 (a := nI d) (Qf := Qf) (qn := qn) (show w ≤ 64 by omega) i1 i2 hn hqn hf hq
  have m2 := l_S_measure_117 (size := 2 * h) (a := nI d) (b := nI h) (c := nI (mxU (qS q w (domL w h d) (domT w h d) h) 4)) (show w ≤ 64 by omega) (by omega) i1 i2 hn hn2 hf
  rw [show (0 : Int32) = nI 0 from rfl] at m1 m2
  rw [m1]
  simp only [Option.bind_some]
  rw [m2]
  simp only [Option.bind_some]
  rw [e1, e2, q4_sum]
section
variable {w L T size t n dn : Nat} {f Df : Nat → Int32} {q : Nat → Nat}
abbrev u0 (w L T size t : Nat) : Int32 := nI (dcell w L T (size - 1) t 0 0)
abbrev uA (w L T size t : Nat) : Int32 := nI (dcell w L T (size - 1) t 1 0) - nI (dcell w L T (size - 1) t 0 0)
abbrev uD (w L T size t : Nat) : Int32 := nI (dcell w L T (size - 1) t 0 1) - nI (dcell w L T (size - 1) t 0 0)
abbrev dd (q : Nat → Nat) (w L T size t k : Nat) : Nat := q (dcell w L T (size - 1) t (k % size) (k / size))
theorem l_S_takeD_14 (hw : w ≤ 64) (h8 : t < 8) (hs : 2 ≤ size) (hL : L + size ≤ w) (hT : T + size ≤ w) (hn : w * w ≤ n) (hn2 : n < 2147483648) (hd : size * size ≤ dn) (hd2 : dn < 2147483648) (hf : ∀ k, k < w * w → f k = nI (q k)) {j : Nat} (hj : j < size) :
    f_S_takeDomain_14 (nI j) (nI size) n f (u0 w L T size t) (uA w L T size t) (uD w L T size t) dn FU (nI (j * size)) 0 (wr Df (fun k => nI (dd q w L T size t k)) (j * size)) = some (nI ((j + 1) * size), nI size, wr Df (fun k => nI (dd q w L T size t k)) ((j + 1) * size)) := by
  have hsz := sq64 (show size ≤ 64 by omega)
  have key := lp_up (L := fun n' (z : Nat × (Nat → Int32)) v => f_S_takeDomain_14 (nI j) (nI size) n f (u0 w L T size t) (uA w L T size t) (uD w L T size t) dn n' (nI z.1) (nI v) z.2) (st := fun v => (j * size + v, wr Df (fun k => nI (dd q w L T size t k)) (j * size + v))) (b := size) (fin := (nI ((j + 1) * size), nI size, wr Df (fun k => nI (dd q w L T size t k)) ((j + 1) * size)))
    (fun n' => by
      show f_S_takeDomain_14 _ _ _ _ _ _ _ _ (n' + 1) _ _ _ = _
      rw [f_S_takeDomain_14]
      simp (disch := omega) only [n0, n1, n2, n3, n4, n5, n6, n7, n8, n10, n16, n40, n128, n255, n256, n1024, n2000, n2048, nJ_add, nJ_mul, nJ_sub, nJ_leT, nJ_leF, nJ_ltT, nJ_ltF, nJ_eqT, nJ_eqF, nJ_clamp, nJ_div, nM, iM_eqF, iM_eqF2, iM_leF, iM_ltF, iM_leT, iM_ltT, iM_add, iM_add0, natLeF, natLeT, natLtF, natLtT, natEqF, natEqT, if_true, if_false, ite_true, ite_false, false_or, or_false, or_self, Option.bind_some, ↓reduceIte, Nat.succ_mul])
    (fun n' v hv => by
      show f_S_takeDomain_14 _ _ _ _ _ _ _ _ (n' + 1) _ _ _ = f_S_takeDomain_14 _ _ _ _ _ _ _ _ n' _ _ _
      have hc := dcell_lt (w := w) (left := L) (top := T) (m := size - 1) (turn := t) (x := v) (y := j) h8 (by omega) (by omega) (by omega) (by omega)
      rw [f_S_takeDomain_14, l_V_sample hw hs h8 hv hj hL hT hn hn2, hf _ hc]
      have h1 := ix hv hj
      obtain ⟨e1, e2⟩ := rowOf (y := j) hv
      have e : q (dcell w L T (size - 1) t v j) = dd q w L T size t (j * size + v) := by unfold dd; rw [e1, e2]
      rw [e]
      simp (disch := omega) only [n0, n1, n2, n3, n4, n5, n6, n7, n8, n10, n16, n40, n128, n255, n256, n1024, n2000, n2048, nJ_add, nJ_mul, nJ_sub, nJ_leT, nJ_leF, nJ_ltT, nJ_ltF, nJ_eqT, nJ_eqF, nJ_clamp, nJ_div, nM, iM_eqF, iM_eqF2, iM_leF, iM_ltF, iM_leT, iM_ltT, iM_add, iM_add0, natLeF, natLeT, natLtF, natLtT, natEqF, natEqT, if_true, if_false, ite_true, ite_false, false_or, or_false, or_self, Option.bind_some, ↓reduceIte, wrS Df (fun k => nI (dd q w L T size t k)), Nat.add_assoc])
    FU 0 (Nat.zero_le _) (fu (by omega))
  exact key
theorem l_S_takeDomain (hw : w ≤ 64) (h8 : t < 8) (hs : 2 ≤ size) (hL : L + size ≤ w) (hT : T + size ≤ w) (hn : w * w ≤ n) (hn2 : n < 2147483648) (hd : size * size ≤ dn) (hd2 : dn < 2147483648) (hf : ∀ k, k < w * w → f k = nI (q k)) :
    f_S_takeDomain (nI size) n f (u0 w L T size t) (uA w L T size t) (uD w L T size t) dn Df = some (wr Df (fun k => nI (dd q w L T size t k)) (size * size)) := by
  have key := lp_up (L := fun n' (z : Nat × (Nat → Int32)) v => f_S_takeDomain_4 (nI size) n f (u0 w L T size t) (uA w L T size t) (uD w L T size t) dn n' (nI z.1) (nI v) z.2) (st := fun v => (v * size, wr Df (fun k => nI (dd q w L T size t k)) (v * size))) (b := size) (fin := (nI (size * size), nI size, wr Df (fun k => nI (dd q w L T size t k)) (size * size)))
    (fun n' => by
      show f_S_takeDomain_4 _ _ _ _ _ _ _ (n' + 1) _ _ _ = _
      rw [f_S_takeDomain_4]
      simp (disch := omega) only [n0, n1, n2, n3, n4, n5, n6, n7, n8, n10, n16, n40, n128, n255, n256, n1024, n2000, n2048, nJ_add, nJ_mul, nJ_sub, nJ_leT, nJ_leF, nJ_ltT, nJ_ltF, nJ_eqT, nJ_eqF, nJ_clamp, nJ_div, nM, iM_eqF, iM_eqF2, iM_leF, iM_ltF, iM_leT, iM_ltT, iM_add, iM_add0, natLeF, natLeT, natLtF, natLtT, natEqF, natEqT, if_true, if_false, ite_true, ite_false, false_or, or_false, or_self, Option.bind_some, ↓reduceIte])
    (fun n' v hv => by
      show f_S_takeDomain_4 _ _ _ _ _ _ _ (n' + 1) _ _ _ = f_S_takeDomain_4 _ _ _ _ _ _ _ n' _ _ _
      rw [f_S_takeDomain_4, l_S_takeD_14 hw h8 hs hL hT hn hn2 hd hd2 hf hv]
      simp (disch := omega) only [n0, n1, n2, n3, n4, n5, n6, n7, n8, n10, n16, n40, n128, n255, n256, n1024, n2000, n2048, nJ_add, nJ_mul, nJ_sub, nJ_leT, nJ_leF, nJ_ltT, nJ_ltF, nJ_eqT, nJ_eqF, nJ_clamp, nJ_div, nM, iM_eqF, iM_eqF2, iM_leF, iM_ltF, iM_leT, iM_ltT, iM_add, iM_add0, natLeF, natLeT, natLtF, natLtT, natEqF, natEqT, if_true, if_false, ite_true, ite_false, false_or, or_false, or_self, Option.bind_some, ↓reduceIte])
    FU 0 (Nat.zero_le _) (fu (by omega))
  have key : f_S_takeDomain_4 (nI size) n f (u0 w L T size t) (uA w L T size t) (uD w L T size t) dn FU (nI (0 * size)) 0 (wr Df (fun k => nI (dd q w L T size t k)) (0 * size)) = _ := key
  rw [Nat.zero_mul, wr0] at key
  unfold f_S_takeDomain
  have key : f_S_takeDomain_4 (nI size) n f (u0 w L T size t) (uA w L T size t) (uD w L T size t) dn FU (0 : Int32) (0 : Int32) Df = _ := key
  rw [key]
  rfl
end
/-- a best fit as the class has it -/
def bOk (B : Fit5) : Prop := (B.2.2.2.2 = -1 ∨ 0 ≤ B.2.2.2.2) ∧ B.2.2.2.2 ≤ 126157824
theorem bstep_ok {D R : Nat → Nat} {n d t : Nat} {B : Fit5} (h : bOk B) (h0 : 0 < n) (hn : n ≤ 256) (hD : ∀ k, k < n → D k ≤ 255) (hR : ∀ k, k < n → R k ≤ 255) : bOk (bstep D R n B d t) := by
  unfold bstep
  split
  · have := fE_b h0 hn hD hR
    exact ⟨Or.inr this.1, this.2⟩
  · exact h
theorem l_S_tryTurn {w h d t n wn dn : Nat} {f W Df : Nat → Int32} {q R : Nat → Nat} {a1 a2 a3 a4 a5 : Int32} {B : Fit5} (hB : bOk B) (hw : w ≤ 32) (h1 : 0 < h) (h16 : 2 * h ≤ 16) (h2 : 2 * h ≤ w) (hd : d < dac w h * dac w h) (h8 : t < 8) (hn : w * w ≤ n) (hn2 : n < 2147483648) (hwn : 2 * h * (2 * h) ≤ wn) (hdn : 2 * h * (2 * h) ≤ dn) (hd2 : dn < 2147483648) (hf : ∀ k, k < w * w → f k = nI (q k)) (hq : ∀ k, k < w * w → q k ≤ 255) (hW : ∀ k, k < 2 * h * (2 * h) → W k = nI (R k)) (hR : ∀ k, k < 2 * h * (2 * h) → R k ≤ 255) {N : Nat} (hN : N = 2 * h * (2 * h)) :
    ∃ b1 b2 b3 b4 b5 b6, f_S_tryTurn (nI d) (nI t) (nI (2 * h)) (nI N) (nI (sN R N)) (nI (sN (dmn q w h d t) N)) (nI (sN (fun k => dmn q w h d t k * dmn q w h d t k) N)) (nI w) n f a1 a2 a3 a4 a5 wn W dn Df (nI B.1) (nI B.2.1) (iI B.2.2.1) (iI B.2.2.2.1) (iI B.2.2.2.2) =
      some (b1, b2, b3, b4, b5, b6, nI (bstep (dmn q w h d t) R N B d t).1, nI (bstep (dmn q w h d t) R N B d t).2.1, iI (bstep (dmn q w h d t) R N B d t).2.2.1, iI (bstep (dmn q w h d t) R N B d t).2.2.2.1, iI (bstep (dmn q w h d t) R N B d t).2.2.2.2) := by
  obtain ⟨i1, i2⟩ := dom_in h1 h2 hd
  have hz : N ≤ 256 := by rw [hN]; exact Nat.mul_le_mul h16 h16
  have hz0 : 0 < N := by rw [hN]; exact Nat.mul_pos (by omega) (by omega)
  have hD : ∀ k, k < N → dmn q w h d t k ≤ 255 := fun k hk => dmn_le h1 h2 hd h8 (by omega) hq
  have hR' : ∀ k, k < N → R k ≤ 255 := fun k hk => hR k (by omega)
  have hW' : ∀ k, k < N → W k = nI (R k) := fun k hk => hW k (by omega)
  refine ⟨nI (domL w h d), nI (domT w h d), u0 w (domL w h d) (domT w h d) (2 * h) t, uA w (domL w h d) (domT w h d) (2 * h) t, uD w (domL w h d) (domT w h d) (2 * h) t, wr Df (fun k => nI (dd q w (domL w h d) (domT w h d) (2 * h) t k)) (2 * h * (2 * h)), ?_⟩
  unfold f_S_tryTurn
  rw [l_V_aim hw h1 h2 hd h8]
  simp only [Option.bind_some]
  rw [l_S_takeDomain (q := q) (show w ≤ 64 by omega) h8 (by omega) i1 i2 hn hn2 hdn hd2 hf]
  simp only [Option.bind_some]
  have hDf : ∀ k, k < N → wr Df (fun k => nI (dd q w (domL w h d) (domT w h d) (2 * h) t k)) (2 * h * (2 * h)) k = nI (dmn q w h d t k) := fun k hk => wr_lt (by omega)
  generalize wr Df (fun k => nI (dd q w (domL w h d) (domT w h d) (2 * h) t k)) (2 * h * (2 * h)) = Df' at hDf ⊢
  generalize dmn q w h d t = D at hD hDf ⊢
  rw [l_S_contrast hz (by omega) (by omega) hW' hDf hD hR']
  simp only [Option.bind_some]
  rw [l_S_try_31 (fS_in D R N) hz (by omega) (by omega) hW' hDf hD]
  simp only [Option.bind_some]
  have eR : sI (fun k => (R k : Int) - dim (fS D R N) (D k)) N = fR D R N := rfl
  have bR := fR_b hz hD hR'
  have bO := fO_b hz0 hz hD hR'
  have bE := fE_b hz0 hz hD hR'
  have eE := fE_eq (D := D) (R := R) (n := N)
  have bn : (N : Int) * -223 ≥ -57088 ∧ (N : Int) * 479 ≤ 122624 := by omega
  rw [eR, nJ_long (by omega), iI_long (by omega) (by omega), l_F_nearest (by omega) (by omega) (by omega) (by omega)]
  simp only [Option.bind_some, lI_int]
  have eO : nrst (fR D R N) (N : Int) = fO D R N := rfl
  rw [eO]
  have err : iI (sI (fun k => ((R k : Int) - dim (fS D R N) (D k)) * ((R k : Int) - dim (fS D R N) (D k))) N) - 2 * iI (fO D R N) * iI (fR D R N) + nI N * iI (fO D R N) * iI (fO D R N) = iI (fE D R N) := by
    rw [eE, nJ_iI, show (2 : Int32) = iI 2 from rfl]
    simp only [iI_mul, iI_sub, iI_add]
  rw [err]
  unfold f_T_become bstep
  obtain ⟨hB1, hB2⟩ := hB
  have im : (-1 : Int32) = iI (-1) := rfl
  rw [im]
  by_cases c0 : B.2.2.2.2 = -1
  · rw [if_pos (by rw [c0]), if_pos (by omega)]
    rfl
  · have c1 : 0 ≤ B.2.2.2.2 := by omega
    by_cases c2 : fE D R N < B.2.2.2.2
    · simp (disch := omega) only [iI_eqF, iI_leF, ↓reduceIte]
      rw [if_pos (Or.inr c2)]
      rfl
    · simp (disch := omega) only [iI_eqF, iI_leT, ↓reduceIte]
      rw [if_neg (by omega)]
