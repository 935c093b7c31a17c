/-! the search, of the class and of the reference -/
theorem l_F_domains {w h : Nat} (hw : w ≤ 32) (h1 : 0 < h) (h2 : 2 * h ≤ w) : f_F_domainsOf (nI (2 * w)) (nI (2 * h)) = some (nI (dac w h * dac w h)) := by
  unfold f_F_domainsOf
  rw [l_F_across hw h1 h2]
  simp (disch := omega) only [n0, n1, n2, n3, n4, n5, n6, n7, n8, n10, n16, n40, n128, n255, n256, n1024, n2000, n2048, nJ_add, nJ_mul, nJ_sub, nJ_leT, nJ_leF, nJ_ltT, nJ_ltF, nJ_eqT, nJ_eqF, nJ_clamp, nJ_div, nM, iM_eqF, iM_eqF2, iM_leF, iM_ltF, iM_leT, iM_ltT, iM_add, iM_add0, natLeF, natLeT, natLtF, natLtT, natEqF, natEqT, if_true, if_false, ite_true, ite_false, false_or, or_false, or_self, Option.bind_some, ↓reduceIte]
/-- what a search of the block at x, y gives -/
def best (p : Nat → Nat) (w h x y : Nat) : Fit5 × Nat := srch (hlf p (2 * w)) (blk p (2 * w) x y (2 * h)) w h (am (qS p (2 * w) x y h)) (8 * (dac w h * dac w h))
theorem hlf_le {p : Nat → Nat} {w k : Nat} (hp : ∀ k, k < 2 * w * (2 * w) → p k ≤ 255) (hk : k < w * w) : hlf p (2 * w) k ≤ 255 := by
  unfold hlf
  have e : 2 * w / 2 = w := by omega
  rw [e]
  have hx := modLt hk
  have hy := divLt hk
  have a1 : 2 * (k / w) * (2 * w) + 2 * (k % w) < 2 * w * (2 * w) := ix (by omega) (by omega)
  have a2 : 2 * (k / w) * (2 * w) + 2 * (k % w) + 1 < 2 * w * (2 * w) := ix (x := 2 * (k % w) + 1) (y := 2 * (k / w)) (by omega) (by omega)
  have a4 : (2 * (k / w) + 1) * (2 * w) + (2 * (k % w) + 1) < 2 * w * (2 * w) := ix (by omega) (by omega)
  rw [Nat.add_mul] at a4
  have b1 := hp _ a1
  have b2 := hp _ a2
  have b3 := hp (2 * (k / w) * (2 * w) + 2 * (k % w) + 2 * w) (by omega)
  have b4 := hp (2 * (k / w) * (2 * w) + 2 * (k % w) + 2 * w + 1) (by omega)
  omega
section
variable {p : Nat → Nat} {w h x y : Nat}
theorem best_val (h1 : 0 < h) (h16 : 2 * h ≤ 16) (h2 : 2 * h ≤ w) (hx : x + 2 * h ≤ 2 * w) (hy : y + 2 * h ≤ 2 * w) (hp : ∀ k, k < 2 * w * (2 * w) → p k ≤ 255) : bVal (dac w h * dac w h) (best p w h x y).1 ∧ 0 ≤ (best p w h x y).1.2.2.2.2 :=
  ⟨srch_val h1 h16 h2 (fun k hk => hlf_le hp hk) (fun k hk => blk_le hx hy hk hp) _ (Nat.le_refl _), srch_end h1 h16 h2 (am_lt _) (fun k hk => hlf_le hp hk) (fun k hk => blk_le hx hy hk hp)⟩
theorem l_S_findBest {n hn wn dn qn rn tr : Nat} {f hf W Df Qf Rf : Nat → Int32} {a1 a2 a3 a4 a5 a6 a7 a8 a9 a10 e1 e2 e3 e4 e5 : Int32} (hw : w ≤ 16) (h1 : 0 < h) (h16 : 2 * h ≤ 16) (h2 : 2 * h ≤ w) (hx : x + 2 * h ≤ 2 * w) (hy : y + 2 * h ≤ 2 * w)
    (hn1 : 2 * w * (2 * w) ≤ n) (hH : w * w ≤ hn) (hH2 : hn < 2147483648) (hwn : w * w ≤ wn) (hw2 : wn < 2147483648) (hdn : w * w ≤ dn) (hd2 : dn < 2147483648) (hqn : 4 ≤ qn) (hrn : 8 ≤ rn)
    (hf1 : ∀ k, k < 2 * w * (2 * w) → f k = nI (p k)) (hp : ∀ k, k < 2 * w * (2 * w) → p k ≤ 255) (hh : ∀ k, k < w * w → hf k = nI (hlf p (2 * w) k)) :
    ∃ b1 b2 b3 b4 b5 b6 b7 b8 b9 b10 W' D' Q' R', f_S_findBest (nI x) (nI y) (nI (2 * h)) (nI tr) a1 a2 a3 a4 a5 (nI (2 * w)) n f (nI w) hn hf a6 a7 a8 a9 a10 wn W dn Df qn Qf rn Rf e1 e2 e3 e4 e5 =
      some (nI (tr + (best p w h x y).2), b1, b2, b3, b4, b5, b6, b7, b8, b9, b10, W', D', Q', R', nI (best p w h x y).1.1, nI (best p w h x y).1.2.1, iI (best p w h x y).1.2.2.1, iI (best p w h x y).1.2.2.2.1, iI (best p w h x y).1.2.2.2.2) := by
  have hsq : 2 * h * (2 * h) ≤ w * w := Nat.mul_le_mul h2 h2
  have hR : ∀ k, k < 2 * h * (2 * h) → blk p (2 * w) x y (2 * h) k ≤ 255 := fun k hk => blk_le hx hy hk hp
  have hq : ∀ k, k < w * w → hlf p (2 * w) k ≤ 255 := fun k hk => hlf_le hp hk
  have tb := l_S_takeBlock (s := 2 * w) (W := W) (Rf := Rf) (by omega) hx hy hn1 (Nat.le_trans hsq hwn) hw2 hrn hf1 hp
  obtain ⟨c1, c2, b1, b2, b3, b4, b5, b6, b7, ht⟩ := l_S_find_35 (c := am (qS p (2 * w) x y h)) (W := wr W (fun k => nI (blk p (2 * w) x y (2 * h) k)) (2 * h * (2 * h))) (q := hlf p (2 * w)) (R := blk p (2 * w) x y (2 * h)) (Rf := wr Rf (fun t => nI (sqr t (am (qS p (2 * w) x y h)))) 8) (Df := Df) (Qf := Qf) (p1 := nI x) (p2 := nI y) (p3 := nI (2 * h)) (a1 := a6) (a2 := a7) (a3 := a8) (a4 := a9) (a5 := a10) (a6 := a4) (a7 := a5)
    (show w ≤ 32 by omega) h1 h16 h2 hH hH2 (Nat.le_trans hsq hwn) (Nat.le_trans hsq hdn) hd2 hqn hrn hh hq (fun k hk => wr_lt hk) hR (am_lt _) (fun t ht => wr_lt ht) tr
  refine ⟨nI (2 * h), nI (2 * h * (2 * h)), nI (sN (blk p (2 * w) x y (2 * h)) (2 * h * (2 * h))), c1, c2, b1, b2, b3, b4, b5, wr W (fun k => nI (blk p (2 * w) x y (2 * h) k)) (2 * h * (2 * h)), b6, b7, wr Rf (fun t => nI (sqr t (am (qS p (2 * w) x y h)))) 8, ?_⟩
  unfold f_S_findBest f_T_become
  rw [tb]
  simp only [Option.bind_some]
  rw [l_F_domains (by omega) h1 h2]
  simp only [Option.bind_some]
  rw [ht]
  rfl
/-! the reference -/
theorem l_M_tryOne {D R : Nat → Nat} {N dn rn bn : Nat} {Df Rf bf : Nat → Int32} {d t : Nat} {B : Fit5} (h1 : 0 < h) (h16 : 2 * h ≤ 16) (hN : N = 2 * h * (2 * h)) (hdn : N ≤ dn) (hrn : N ≤ rn) (hbn : 4 ≤ bn) (hDf : ∀ k, k < N → Df k = nI (D k)) (hRf : ∀ k, k < N → Rf k = nI (R k)) (hD : ∀ k, k < N → D k ≤ 255) (hR : ∀ k, k < N → R k ≤ 255) (hB : bOk B)
    (hb : B.2.2.2.2 = -1 ∨ (bf 0 = nI B.1 ∧ bf 1 = nI B.2.1 ∧ bf 2 = iI B.2.2.1 ∧ bf 3 = iI B.2.2.2.1)) :
    ∃ bf', f_M_tryOne (nI (2 * h)) (nI d) (nI t) (lI B.2.2.2.2) dn Df rn Rf bn bf = some (lI (bstep D R N B d t).2.2.2.2, bf') ∧ (bf' 0 = nI (bstep D R N B d t).1 ∧ bf' 1 = nI (bstep D R N B d t).2.1 ∧ bf' 2 = iI (bstep D R N B d t).2.2.1 ∧ bf' 3 = iI (bstep D R N B d t).2.2.2.1) := by
  have hz : N ≤ 256 := by rw [hN]; exact n_le h16
  have hz0 : 0 < N := by rw [hN]; exact n_pos h1
  have bR := fR_b hz hD hR
  have bO := fO_b hz0 hz hD hR
  have bE := fE_b hz0 hz hD hR
  have bn2 : (N : Int) * -223 ≥ -57088 ∧ (N : Int) * 479 ≤ 122624 := by omega
  have J : ∀ (c1 c2 c3 c4 c5 c6 c7 : Int64), c1 = lI (N : Int) → c3 = lI (sN R N : Nat) → ∃ bf', f_M_tryOne_J158 (nI (2 * h)) (nI d) (nI t) c1 c2 c3 c4 c5 c6 c7 (lI B.2.2.2.2) dn Df rn Rf bn bf (iI (fS D R N)) = some (lI (bstep D R N B d t).2.2.2.2, bf') ∧ (bf' 0 = nI (bstep D R N B d t).1 ∧ bf' 1 = nI (bstep D R N B d t).2.1 ∧ bf' 2 = iI (bstep D R N B d t).2.2.1 ∧ bf' 3 = iI (bstep D R N B d t).2.2.2.1) := by
    intro c1 c2 c3 c4 c5 c6 c7 e1 e3
    unfold f_M_tryOne_J158
    subst e1; subst e3
    rw [l_M_try_167 (D := D) (fS_in D R N) hN.symm hz hdn hDf hD]
    simp only [Option.bind_some]
    have eR : ((sN R N : Nat) : Int) - sI (fun k => dim (fS D R N) (D k)) N = fR D R N := by
      unfold fR; rw [sI_sub, sI_nat]
    rw [eR, l_M_nearest (by omega) (by omega) (by omega) (by omega)]
    simp only [Option.bind_some, lI_int]
    have eO : nrst (fR D R N) (N : Int) = fO D R N := rfl
    rw [eO, l_M_try_215 (D := D) (R := R) (fS_in D R N) bO hN.symm hz hdn hrn hDf hRf hD hR]
    have eE : sI (fun k => ((R k : Int) - dim (fS D R N) (D k) - fO D R N) * ((R k : Int) - dim (fS D R N) (D k) - fO D R N)) N = fE D R N := rfl
    rw [eE]
    simp only [Option.bind_some, cmp_lt0, cmp_ge0]
    obtain ⟨hB1, hB2⟩ := hB
    have hset : ∀ (a b c d : Int32), (upd (upd (upd (upd bf 0 a) 1 b) 2 c) 3 d) 0 = a ∧ (upd (upd (upd (upd bf 0 a) 1 b) 2 c) 3 d) 1 = b ∧ (upd (upd (upd (upd bf 0 a) 1 b) 2 c) 3 d) 2 = c ∧ (upd (upd (upd (upd bf 0 a) 1 b) 2 c) 3 d) 3 = d := fun a b c d => ⟨rfl, rfl, rfl, rfl⟩
    by_cases c0 : B.2.2.2.2 = -1
    · have eb : bstep D R N B d t = (d, t, fS D R N, fO D R N, fE D R N) := by unfold bstep; rw [if_pos (Or.inl (by omega))]
      rw [eb]
      refine ⟨upd (upd (upd (upd bf 0 (nI d)) 1 (nI t)) 2 (iI (fS D R N))) 3 (iI (fO D R N)), ?_, hset _ _ _ _⟩
      simp (disch := omega) only [l0, lI_ltT, ↓reduceIte]
      simp (disch := omega) only [n0, n1, n2, n3, n4, n5, n6, n7, n8, n10, n16, n40, n128, n255, n256, n1024, n2000, n2048, nJ_add, nJ_mul, nJ_sub, nJ_leT, nJ_leF, nJ_ltT, nJ_ltF, nJ_eqT, nJ_eqF, nJ_clamp, nJ_div, nM, iM_eqF, iM_eqF2, iM_leF, iM_ltF, iM_leT, iM_ltT, iM_add, iM_add0, natLeF, natLeT, natLtF, natLtT, natEqF, natEqT, if_true, if_false, ite_true, ite_false, false_or, or_false, or_self, Option.bind_some, ↓reduceIte]
    · by_cases c2 : fE D R N < B.2.2.2.2
      · have eb : bstep D R N B d t = (d, t, fS D R N, fO D R N, fE D R N) := by unfold bstep; rw [if_pos (Or.inr c2)]
        rw [eb]
        refine ⟨upd (upd (upd (upd bf 0 (nI d)) 1 (nI t)) 2 (iI (fS D R N))) 3 (iI (fO D R N)), ?_, hset _ _ _ _⟩
        simp (disch := omega) only [l0, lI_ltF, lI_leF, ↓reduceIte]
        simp (disch := omega) only [n0, n1, n2, n3, n4, n5, n6, n7, n8, n10, n16, n40, n128, n255, n256, n1024, n2000, n2048, nJ_add, nJ_mul, nJ_sub, nJ_leT, nJ_leF, nJ_ltT, nJ_ltF, nJ_eqT, nJ_eqF, nJ_clamp, nJ_div, nM, iM_eqF, iM_eqF2, iM_leF, iM_ltF, iM_leT, iM_ltT, iM_add, iM_add0, natLeF, natLeT, natLtF, natLtT, natEqF, natEqT, if_true, if_false, ite_true, ite_false, false_or, or_false, or_self, Option.bind_some, ↓reduceIte]
      · have eb : bstep D R N B d t = B := by unfold bstep; rw [if_neg (by omega)]
        rw [eb]
        refine ⟨bf, ?_, hb.resolve_left c0⟩
        simp (disch := omega) only [l0, lI_ltF, lI_leT, ↓reduceIte]
  unfold f_M_tryOne
  have bD := sN_b hz hD
  have bRR := sN_b hz hR
  rw [l_M_try_21 (D := D) (R := R) hN.symm hz hrn hdn hRf hDf hD hR]
  have eN : (nI (2 * h) * nI (2 * h)).toInt64 = lI (N : Int) := by rw [nJ_mul, ← hN, nJ_long (by omega)]
  simp only [Option.bind_some, cmp_eq0, eN, lI_mul, lI_sub, l0, l8]
  have q0 := fQ_nonneg D N
  have q1 := fQ_b hz hD
  have p1 := fP_b hz hD hR
  have eQ : ((N : Int) * (sN (fun k => D k * D k) N : Nat) - (sN D N : Nat) * (sN D N : Nat)) = fQ D N := rfl
  have eP : ((N : Int) * (sN (fun k => D k * R k) N : Nat) - (sN D N : Nat) * (sN R N : Nat)) = fP D R N := rfl
  rw [eQ, eP]
  clear eQ eP
  have fsz : fQ D N = 0 → fS D R N = 0 := fun e => by unfold fS; rw [if_pos e]
  have fsn : ¬ fQ D N = 0 → fS D R N = clampI (-7) 7 (nrst (8 * fP D R N) (fQ D N)) := fun e => by unfold fS; rw [if_neg e]
  generalize fQ D N = Q at *
  generalize fP D R N = P at *
  by_cases c : Q = 0
  · have e0 := fsz c
    rw [e0] at J
    subst c
    simp only [↓reduceIte]
    exact J _ _ _ _ _ _ _ rfl rfl
  · have e0 := fsn c
    have hbb := nrst_b (a := 8 * P) (b := Q) (by omega) (by omega) (by omega) (by omega)
    rw [if_neg (by rw [lI_eqF c (by omega) (by omega) (by omega) (by omega)]; exact not_false), l_M_nearest (by omega) (by omega) (by omega) (by omega)]
    simp only [Option.bind_some]
    have br := l_M_brought (a := nrst (8 * P) Q) (lo := -7) (hi := 7) (by decide) hbb.1 hbb.2 (by decide) (by decide)
    have br : f_M_brought (lI (nrst (8 * P) Q)) (-7) 7 = some (iI (clampI (-7) 7 (nrst (8 * P) Q))) := br
    rw [br, ← e0]
    simp only [Option.bind_some]
    exact J _ _ _ _ _ _ _ rfl rfl
def flg (Q : Nat → Nat) (own : Nat) : Nat → Nat
  | 0 => 1
  | v + 1 => if flg Q own v = 0 then 0 else if own < Q v then 0 else 1
theorem flg_01 (Q : Nat → Nat) (own v : Nat) : flg Q own v ≤ 1 := by
  cases v with
  | zero => exact Nat.le_refl _
  | succ v => rw [flg]; split; omega; split <;> omega
theorem flg_iff (Q : Nat → Nat) (own : Nat) : ∀ v, flg Q own v = 1 ↔ ∀ j, j < v → Q j ≤ own := by
  intro v
  induction v with
  | zero => exact ⟨fun _ j h => by omega, fun _ => rfl⟩
  | succ v ih =>
    have h01 := flg_01 Q own v
    rw [flg]
    constructor
    · intro h
      split at h
      · omega
      · split at h
        · omega
        · intro j hj
          by_cases e : j = v
          · subst e; omega
          · exact ih.mp (by omega) j (by omega)
    · intro h
      have := ih.mpr (fun j hj => h j (by omega))
      have := h v (by omega)
      rw [if_neg (by omega), if_neg (by omega)]
theorem l_M_search_83 {dn own : Nat} {Df : Nat → Int32} {Q : Nat → Nat} {p1 p2 p4 p5 p6 : Int32} (hQ : ∀ j, j < 4 → f_M_quarterSum (nI (2 * h)) (nI j) dn Df = some (nI (Q j))) (hb : ∀ j, j < 4 → Q j ≤ 261120) (ho : own ≤ 261120) :
    f_M_search_83 p1 p2 (nI (2 * h)) p4 p5 p6 (nI own) dn Df FU 1 0 = some (nI (flg Q own 4), nI 4) := by
  have key := lp_up (L := fun n' (z : Nat) v => f_M_search_83 p1 p2 (nI (2 * h)) p4 p5 p6 (nI own) dn Df n' (nI z) (nI v)) (st := fun v => flg Q own v) (b := 4) (fin := (nI (flg Q own 4), nI 4))
    (fun n' => by
      show f_M_search_83 _ _ _ _ _ _ _ _ _ (n' + 1) _ _ = _
      rw [f_M_search_83]
      simp (disch := omega) only [n0, n1, n2, n3, n4, n5, n6, n7, n8, n10, n16, n40, n128, n255, n256, n1024, n2000, n2048, nJ_add, nJ_mul, nJ_sub, nJ_leT, nJ_leF, nJ_ltT, nJ_ltF, nJ_eqT, nJ_eqF, nJ_clamp, nJ_div, nM, iM_eqF, iM_eqF2, iM_leF, iM_ltF, iM_leT, iM_ltT, iM_add, iM_add0, natLeF, natLeT, natLtF, natLtT, natEqF, natEqT, if_true, if_false, ite_true, ite_false, false_or, or_false, or_self, Option.bind_some, ↓reduceIte])
    (fun n' v hv => by
      show f_M_search_83 _ _ _ _ _ _ _ _ _ (n' + 1) _ _ = f_M_search_83 _ _ _ _ _ _ _ _ _ n' _ _
      have h01 := flg_01 Q own v
      have hbv := hb v hv
      have e : flg Q own (v + 1) = if flg Q own v = 0 then 0 else if own < Q v then 0 else 1 := rfl
      rw [f_M_search_83, e, hQ v hv]
      by_cases c : flg Q own v = 0
      · simp (disch := omega) only [n0, n1, n2, n3, n4, n5, n6, n7, n8, n10, n16, n40, n128, n255, n256, n1024, n2000, n2048, nJ_add, nJ_mul, nJ_sub, nJ_leT, nJ_leF, nJ_ltT, nJ_ltF, nJ_eqT, nJ_eqF, nJ_clamp, nJ_div, nM, iM_eqF, iM_eqF2, iM_leF, iM_ltF, iM_leT, iM_ltT, iM_add, iM_add0, natLeF, natLeT, natLtF, natLtT, natEqF, natEqT, if_true, if_false, ite_true, ite_false, false_or, or_false, or_self, Option.bind_some, ↓reduceIte]
      · by_cases c2 : own < Q v
        · simp (disch := omega) only [n0, n1, n2, n3, n4, n5, n6, n7, n8, n10, n16, n40, n128, n255, n256, n1024, n2000, n2048, nJ_add, nJ_mul, nJ_sub, nJ_leT, nJ_leF, nJ_ltT, nJ_ltF, nJ_eqT, nJ_eqF, nJ_clamp, nJ_div, nM, iM_eqF, iM_eqF2, iM_leF, iM_ltF, iM_leT, iM_ltT, iM_add, iM_add0, natLeF, natLeT, natLtF, natLtT, natEqF, natEqT, if_true, if_false, ite_true, ite_false, false_or, or_false, or_self, Option.bind_some, ↓reduceIte]
        · simp (disch := omega) only [n0, n1, n2, n3, n4, n5, n6, n7, n8, n10, n16, n40, n128, n255, n256, n1024, n2000, n2048, nJ_add, nJ_mul, nJ_sub, nJ_leT, nJ_leF, nJ_ltT, nJ_ltF, nJ_eqT, nJ_eqF, nJ_clamp, nJ_div, nM, iM_eqF, iM_eqF2, iM_leF, iM_ltF, iM_leT, iM_ltT, iM_add, iM_add0, natLeF, natLeT, natLtF, natLtT, natEqF, natEqT, if_true, if_false, ite_true, ite_false, false_or, or_false, or_self, Option.bind_some, ↓reduceIte])
    FU 0 (Nat.zero_le _) (fu (by omega))
  exact key
theorem l_M_search_40 {q R : Nat → Nat} {hn dn rn bn c : Nat} {hf Rf Df bf : Nat → Int32} {p1 p2 : Int32} (hw : w ≤ 32) (h1 : 0 < h) (h16 : 2 * h ≤ 16) (h2 : 2 * h ≤ w) (hH : w * w ≤ hn) (hdn : 256 ≤ dn) (hrn : 256 ≤ rn) (hbn : 4 ≤ bn) (hh : ∀ k, k < w * w → hf k = nI (q k)) (hq : ∀ k, k < w * w → q k ≤ 255) (hRf : ∀ k, k < 2 * h * (2 * h) → Rf k = nI (R k)) (hR : ∀ k, k < 2 * h * (2 * h) → R k ≤ 255) (hc : c < 4) (tr : Nat) :
    ∃ Df' bf', f_M_search_40 p1 p2 (nI (2 * h)) (nI c) (nI (dac w h * dac w h)) (nI (2 * w)) hn hf dn rn Rf bn FU 0 (nI tr) (-1) Df bf = some (nI (8 * (dac w h * dac w h)), nI (tr + (srch q R w h c (8 * (dac w h * dac w h))).2), lI (srch q R w h c (8 * (dac w h * dac w h))).1.2.2.2.2, Df', bf') ∧ ((srch q R w h c (8 * (dac w h * dac w h))).1.2.2.2.2 = -1 ∨ (bf' 0 = nI (srch q R w h c (8 * (dac w h * dac w h))).1.1 ∧ bf' 1 = nI (srch q R w h c (8 * (dac w h * dac w h))).1.2.1 ∧ bf' 2 = iI (srch q R w h c (8 * (dac w h * dac w h))).1.2.2.1 ∧ bf' 3 = iI (srch q R w h c (8 * (dac w h * dac w h))).1.2.2.2.1)) := by
  have hA : dac w h * dac w h ≤ 961 := by
    have h3 : w / h ≤ w := Nat.div_le_self w h
    have h4 : dac w h ≤ 31 := by unfold dac; omega
    exact Nat.mul_le_mul h4 h4
  have hv := srch_val (c := c) h1 h16 h2 hq hR
  have hN := n_le h16
  have key := lp_inv (L := fun n' (z : Int32 × Int64 × (Nat → Int32) × (Nat → Int32)) v => f_M_search_40 p1 p2 (nI (2 * h)) (nI c) (nI (dac w h * dac w h)) (nI (2 * w)) hn hf dn rn Rf bn n' (nI v) z.1 z.2.1 z.2.2.1 z.2.2.2)
    (I := fun v z => ∃ Df' bf', z = (nI (tr + (srch q R w h c v).2), lI (srch q R w h c v).1.2.2.2.2, Df', bf') ∧ ((srch q R w h c v).1.2.2.2.2 = -1 ∨ (bf' 0 = nI (srch q R w h c v).1.1 ∧ bf' 1 = nI (srch q R w h c v).1.2.1 ∧ bf' 2 = iI (srch q R w h c v).1.2.2.1 ∧ bf' 3 = iI (srch q R w h c v).1.2.2.2.1)))
    (F := fun r => ∃ Df' bf', r = (nI (8 * (dac w h * dac w h)), nI (tr + (srch q R w h c (8 * (dac w h * dac w h))).2), lI (srch q R w h c (8 * (dac w h * dac w h))).1.2.2.2.2, Df', bf') ∧ ((srch q R w h c (8 * (dac w h * dac w h))).1.2.2.2.2 = -1 ∨ (bf' 0 = nI (srch q R w h c (8 * (dac w h * dac w h))).1.1 ∧ bf' 1 = nI (srch q R w h c (8 * (dac w h * dac w h))).1.2.1 ∧ bf' 2 = iI (srch q R w h c (8 * (dac w h * dac w h))).1.2.2.1 ∧ bf' 3 = iI (srch q R w h c (8 * (dac w h * dac w h))).1.2.2.2.1))) (b := 8 * (dac w h * dac w h))
    (fun n' z hz => by
      obtain ⟨Df', bf', rfl, hz⟩ := hz
      refine ⟨_, ?_, Df', bf', rfl, hz⟩
      show f_M_search_40 _ _ _ _ _ _ _ _ _ _ _ _ (n' + 1) _ _ _ _ _ = _
      rw [f_M_search_40]
      simp (disch := omega) only [n0, n1, n2, n3, n4, n5, n6, n7, n8, n10, n16, n40, n128, n255, n256, n1024, n2000, n2048, nJ_add, nJ_mul, nJ_sub, nJ_leT, nJ_leF, nJ_ltT, nJ_ltF, nJ_eqT, nJ_eqF, nJ_clamp, nJ_div, nM, iM_eqF, iM_eqF2, iM_leF, iM_ltF, iM_leT, iM_ltT, iM_add, iM_add0, natLeF, natLeT, natLtF, natLtT, natEqF, natEqT, if_true, if_false, ite_true, ite_false, false_or, or_false, or_self, Option.bind_some, ↓reduceIte])
    (fun n' z v hv8 hz => by
      obtain ⟨Df', bf', rfl, hz⟩ := hz
      have hd : v / 8 < dac w h * dac w h := by omega
      have h8 : v % 8 < 8 := by omega
      have hB := (hv v (by omega)).1
      obtain ⟨i1, i2⟩ := dom_in h1 h2 hd
      have st : srch q R w h c (v + 1) = if gd (qS q w (domL w h (v / 8)) (domT w h (v / 8)) h) (sqr (v % 8) c) then (bstep (dmn q w h (v / 8) (v % 8)) R (2 * h * (2 * h)) (srch q R w h c v).1 (v / 8) (v % 8), (srch q R w h c v).2 + 1) else srch q R w h c v := rfl
      rw [st]
      generalize srch q R w h c v = BB at hB hz ⊢
      have ld := l_M_layDomain (g := Df') (m := dn) hw h1 h2 hd h8 hH (by omega) hh
      have hDf : ∀ k, k < 2 * h * (2 * h) → wr Df' (fun k => nI (dmn q w h (v / 8) (v % 8) k)) (2 * h * (2 * h)) k = nI (dmn q w h (v / 8) (v % 8) k) := fun k hk => wr_lt hk
      generalize wr Df' (fun k => nI (dmn q w h (v / 8) (v % 8) k)) (2 * h * (2 * h)) = Dg at ld hDf
      have hD : ∀ k, k < 2 * h * (2 * h) → dmn q w h (v / 8) (v % 8) k ≤ 255 := fun k hk => dmn_le h1 h2 hd h8 hk hq
      have hQ : ∀ j, j < 4 → f_M_quarterSum (nI (2 * h)) (nI j) dn Dg = some (nI (qS q w (domL w h (v / 8)) (domT w h (v / 8)) h (sqr (v % 8) j))) := fun j hj => by
        rw [l_M_quarter (by omega) (by omega) hDf hj, ← dmn_quarter h8 hj]
        unfold qS; rw [Nat.zero_add, Nat.zero_add]
      have hbQ : ∀ j, j < 4 → qS q w (domL w h (v / 8)) (domT w h (v / 8)) h (sqr (v % 8) j) ≤ 261120 := fun j hj => qS_le (by omega) (sqr_lt h8 hj) i1 i2 hq
      have h83 := l_M_search_83 (p1 := p1) (p2 := p2) (p4 := nI c) (p5 := nI (dac w h * dac w h)) (p6 := nI v) hQ hbQ (hbQ c hc)
      have gdi : gd (qS q w (domL w h (v / 8)) (domT w h (v / 8)) h) (sqr (v % 8) c) ↔ flg (fun j => qS q w (domL w h (v / 8)) (domT w h (v / 8)) h (sqr (v % 8) j)) (qS q w (domL w h (v / 8)) (domT w h (v / 8)) h (sqr (v % 8) c)) 4 = 1 := by
        rw [flg_iff]
        constructor
        · intro g j hj
          rcases four (sqr_lt h8 hj) with e | e | e | e <;> rw [e]
          · exact g.1
          · exact g.2.1
          · exact g.2.2.1
          · exact g.2.2.2
        · intro g
          have k : ∀ i, i < 4 → qS q w (domL w h (v / 8)) (domT w h (v / 8)) h i ≤ qS q w (domL w h (v / 8)) (domT w h (v / 8)) h (sqr (v % 8) c) := fun i hi => by
            obtain ⟨j, hj, e⟩ := sqr_onto h8 hi
            rw [← e]; exact g j hj
          exact ⟨k 0 (by omega), k 1 (by omega), k 2 (by omega), k 3 (by omega)⟩
      have f01 := flg_01 (fun j => qS q w (domL w h (v / 8)) (domT w h (v / 8)) h (sqr (v % 8) j)) (qS q w (domL w h (v / 8)) (domT w h (v / 8)) h (sqr (v % 8) c)) 4
      have em : v - v / 8 * 8 = v % 8 := modSub v 8
      have unf : ∀ (x1 : Int32) (x2 : Int64), f_M_search_40 p1 p2 (nI (2 * h)) (nI c) (nI (dac w h * dac w h)) (nI (2 * w)) hn hf dn rn Rf bn (n' + 1) (nI v) x1 x2 Df' bf' = (if nI (flg (fun j => qS q w (domL w h (v / 8)) (domT w h (v / 8)) h (sqr (v % 8) j)) (qS q w (domL w h (v / 8)) (domT w h (v / 8)) h (sqr (v % 8) c)) 4) = 0 then f_M_search_40 p1 p2 (nI (2 * h)) (nI c) (nI (dac w h * dac w h)) (nI (2 * w)) hn hf dn rn Rf bn n' (nI (v + 1)) x1 x2 Dg bf' else (f_M_tryOne (nI (2 * h)) (nI (v / 8)) (nI (v % 8)) x2 dn Dg rn Rf bn bf').bind (fun q1022 => f_M_search_40 p1 p2 (nI (2 * h)) (nI c) (nI (dac w h * dac w h)) (nI (2 * w)) hn hf dn rn Rf bn n' (nI (v + 1)) (x1 + 1) q1022.1 Dg q1022.2)) := by
        intro x1 x2
        rw [f_M_search_40]
        have c1 : ¬ (8 : Int32) * nI (dac w h * dac w h) ≤ nI v := by
          rw [n8, nJ_mul, nJ_leF (by omega) (by omega)]; exact not_false
        have c2 : nI v / 8 = nI (v / 8) := by rw [n8, nJ_div (by omega) (by omega)]
        have c3 : nI v - nI (v / 8) * 8 = nI (v % 8) := by rw [n8, nJ_mul, nJ_sub (by omega), em]
        have c4 : nI v + 1 = nI (v + 1) := by rw [n1, nJ_add]
        rw [if_neg c1, c2, c3, c4, ld]
        simp only [Option.bind_some]
        rw [hQ c hc]
        simp only [Option.bind_some]
        rw [h83]
        simp only [Option.bind_some]
      by_cases g : gd (qS q w (domL w h (v / 8)) (domT w h (v / 8)) h) (sqr (v % 8) c)
      · obtain ⟨bg, ht, hbg⟩ := l_M_tryOne (dn := dn) (rn := rn) (d := v / 8) (t := v % 8) (B := BB.1) (bf := bf') h1 h16 rfl (by omega) (by omega) hbn hDf hRf hD hR hB hz
        have g1 := gdi.mp g
        rw [if_pos g]
        refine ⟨_, ?_, Dg, bg, rfl, Or.inr hbg⟩
        show f_M_search_40 _ _ _ _ _ _ _ _ _ _ _ _ (n' + 1) _ _ _ _ _ = f_M_search_40 _ _ _ _ _ _ _ _ _ _ _ _ n' _ _ _ _ _
        dsimp only
        rw [unf, g1, if_neg (by decide), ht]
        simp only [Option.bind_some]
        rw [n1, nJ_add, Nat.add_assoc]
      · have g1 : flg (fun j => qS q w (domL w h (v / 8)) (domT w h (v / 8)) h (sqr (v % 8) j)) (qS q w (domL w h (v / 8)) (domT w h (v / 8)) h (sqr (v % 8) c)) 4 = 0 := by
          have : ¬ flg (fun j => qS q w (domL w h (v / 8)) (domT w h (v / 8)) h (sqr (v % 8) j)) (qS q w (domL w h (v / 8)) (domT w h (v / 8)) h (sqr (v % 8) c)) 4 = 1 := fun e => g (gdi.mpr e)
          omega
        rw [if_neg g]
        refine ⟨_, ?_, Dg, bf', rfl, hz⟩
        show f_M_search_40 _ _ _ _ _ _ _ _ _ _ _ _ (n' + 1) _ _ _ _ _ = f_M_search_40 _ _ _ _ _ _ _ _ _ _ _ _ n' _ _ _ _ _
        dsimp only
        rw [unf, g1]
        rfl)
    FU 0 _ (Nat.zero_le _) (fu (by omega)) ⟨Df, bf, rfl, Or.inl rfl⟩
  obtain ⟨r, e, Df', bf', rfl, hz⟩ := key
  exact ⟨Df', bf', e, hz⟩
theorem l_M_search {n hn dn rn bn tr : Nat} {f hf Df Rf bf : Nat → Int32} {be : Int64} (hw : w ≤ 16) (h1 : 0 < h) (h16 : 2 * h ≤ 16) (h2 : 2 * h ≤ w) (hx : x + 2 * h ≤ 2 * w) (hy : y + 2 * h ≤ 2 * w)
    (hn1 : 2 * w * (2 * w) ≤ n) (hH : w * w ≤ hn) (hdn : 256 ≤ dn) (hrn : 256 ≤ rn) (hbn : 4 ≤ bn)
    (hf1 : ∀ k, k < 2 * w * (2 * w) → f k = nI (p k)) (hp : ∀ k, k < 2 * w * (2 * w) → p k ≤ 255) (hh : ∀ k, k < w * w → hf k = nI (hlf p (2 * w) k)) :
    ∃ Df' Rf' bf', f_M_search (nI x) (nI y) (nI (2 * h)) (nI (2 * w)) (nI tr) be n f hn hf dn Df rn Rf bn bf = some (nI (tr + (best p w h x y).2), lI (best p w h x y).1.2.2.2.2, Df', Rf', bf') ∧ (bf' 0 = nI (best p w h x y).1.1 ∧ bf' 1 = nI (best p w h x y).1.2.1 ∧ bf' 2 = iI (best p w h x y).1.2.2.1 ∧ bf' 3 = iI (best p w h x y).1.2.2.2.1) := by
  have hR : ∀ k, k < 2 * h * (2 * h) → blk p (2 * w) x y (2 * h) k ≤ 255 := fun k hk => blk_le hx hy hk hp
  have hq : ∀ k, k < w * w → hlf p (2 * w) k ≤ 255 := fun k hk => hlf_le hp hk
  obtain ⟨g', e1, e2, e3⟩ := l_kind (f := f) (fm := f) (g := Rf) (m := rn) (show 2 * w ≤ 64 by omega) (by omega) hx hy hn1 hf1 hp hrn
  obtain ⟨Df', bf', e4, e5⟩ := l_M_search_40 (q := hlf p (2 * w)) (R := blk p (2 * w) x y (2 * h)) (c := am (qS p (2 * w) x y h)) (Df := Df) (bf := bf) (p1 := nI x) (p2 := nI y) (show w ≤ 32 by omega) h1 h16 h2 hH hdn hrn hbn hh hq e3 hR (am_lt _) tr
  have hv := (best_val (p := p) h1 h16 h2 hx hy hp).2
  refine ⟨Df', g', bf', ?_, ?_⟩
  · unfold f_M_search
    rw [e1]
    simp only [Option.bind_some]
    rw [e2]
    simp only [Option.bind_some]
    rw [l_M_domains (by omega) h1 h2]
    simp only [Option.bind_some]
    rw [nJ_mul, e4]
    rfl
  · exact e5.resolve_left (by unfold best at hv; omega)
end
