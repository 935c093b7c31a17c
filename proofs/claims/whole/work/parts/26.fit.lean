/-! the fit of a domain to a block: what it is -/
def sI (g : Nat → Int) : Nat → Int
  | 0 => 0
  | n + 1 => sI g n + g n
theorem sI_congr {g h : Nat → Int} {n : Nat} (e : ∀ k, k < n → g k = h k) : sI g n = sI h n := by
  induction n with
  | zero => rfl
  | succ n ih => rw [sI, sI, ih (fun k hk => e k (by omega)), e n (by omega)]
theorem sI_nat (g : Nat → Nat) (n : Nat) : sI (fun k => (g k : Int)) n = (sN g n : Int) := by
  induction n with
  | zero => rfl
  | succ n ih => rw [sI, sN, ih]; omega
theorem sI_sub (g h : Nat → Int) (n : Nat) : sI (fun k => g k - h k) n = sI g n - sI h n := by
  induction n with
  | zero => rfl
  | succ n ih => simp only [sI, ih]; omega
theorem sI_bound {g : Nat → Int} {n : Nat} {a b : Int} (e : ∀ k, k < n → a ≤ g k ∧ g k ≤ b) : n * a ≤ sI g n ∧ sI g n ≤ n * b := by
  induction n with
  | zero => simp [sI]
  | succ n ih =>
    have h1 := ih (fun k hk => e k (by omega)); have h2 := e n (by omega)
    rw [sI, Int.natCast_add, Int.add_mul, Int.add_mul]; omega
theorem sI_sqr (g : Nat → Int) (c : Int) (n : Nat) : sI (fun k => (g k - c) * (g k - c)) n = sI (fun k => g k * g k) n - 2 * c * sI g n + n * c * c := by
  induction n with
  | zero => simp [sI]
  | succ n ih => simp only [sI, ih, Int.natCast_add]; grind
theorem sqr_nonneg (x : Int) : 0 ≤ x * x := by
  rcases Int.le_total 0 x with h | h
  · exact Int.mul_nonneg h h
  · have := Int.mul_nonneg (show 0 ≤ -x by omega) (show 0 ≤ -x by omega)
    rwa [Int.neg_mul_neg] at this
theorem sI_sq_nonneg (g : Nat → Int) (n : Nat) : 0 ≤ sI (fun k => g k * g k) n := by
  induction n with
  | zero => simp [sI]
  | succ n ih => rw [sI]; have := sqr_nonneg (g n); omega
/-- Cauchy and Schwarz -/
theorem cauchy (g : Nat → Int) (n : Nat) : 0 ≤ n * sI (fun k => g k * g k) n - sI g n * sI g n := by
  induction n with
  | zero => simp [sI]
  | succ n ih =>
    have h1 := sI_sq_nonneg (fun k => g k - g n) n
    have h2 := sI_sqr g (g n) n
    have h1 : 0 ≤ sI (fun k => (g k - g n) * (g k - g n)) n := h1
    rw [h2] at h1
    have e : ((n + 1 : Nat) : Int) * sI (fun k => g k * g k) (n + 1) - sI g (n + 1) * sI g (n + 1) = (n * sI (fun k => g k * g k) n - sI g n * sI g n) + (sI (fun k => g k * g k) n - 2 * g n * sI g n + n * g n * g n) := by
      simp only [sI, Int.natCast_add]; grind
    rw [e]; omega
def fP (D R : Nat → Nat) (n : Nat) : Int := (n : Int) * (sN (fun k => D k * R k) n : Nat) - (sN D n : Nat) * (sN R n : Nat)
def fQ (D : Nat → Nat) (n : Nat) : Int := (n : Int) * (sN (fun k => D k * D k) n : Nat) - (sN D n : Nat) * (sN D n : Nat)
def fS (D R : Nat → Nat) (n : Nat) : Int := if fQ D n = 0 then 0 else clampI (-7) 7 (nrst (8 * fP D R n) (fQ D n))
def fR (D R : Nat → Nat) (n : Nat) : Int := sI (fun k => (R k : Int) - dim (fS D R n) (D k)) n
def fO (D R : Nat → Nat) (n : Nat) : Int := nrst (fR D R n) n
def fE (D R : Nat → Nat) (n : Nat) : Int := sI (fun k => ((R k : Int) - dim (fS D R n) (D k) - fO D R n) * ((R k : Int) - dim (fS D R n) (D k) - fO D R n)) n
theorem fQ_nonneg (D : Nat → Nat) (n : Nat) : 0 ≤ fQ D n := by
  have h := cauchy (fun k => (D k : Int)) n
  rw [sI_nat] at h
  have e : sI (fun k => (D k : Int) * (D k : Int)) n = ((sN (fun k => D k * D k) n : Nat) : Int) := by
    rw [← sI_nat]; exact sI_congr (fun k _ => (Int.natCast_mul _ _).symm)
  rw [e] at h
  exact h
theorem fS_in (D R : Nat → Nat) (n : Nat) : -7 ≤ fS D R n ∧ fS D R n ≤ 7 := by
  unfold fS; split
  · omega
  · exact clampI_in (by omega)
section
variable {D R : Nat → Nat} {n : Nat} (hn : n ≤ 256) (hD : ∀ k, k < n → D k ≤ 255) (hR : ∀ k, k < n → R k ≤ 255)
theorem sN_b (hn : n ≤ 256) (hD : ∀ k, k < n → D k ≤ 255) : sN D n ≤ 65280 := by
  have := sN_le hD; have : n * 255 ≤ 256 * 255 := Nat.mul_le_mul_right _ hn; omega
theorem sN_bb (hn : n ≤ 256) (hD : ∀ k, k < n → D k ≤ 255) (hR : ∀ k, k < n → R k ≤ 255) : sN (fun k => D k * R k) n ≤ 16646400 := by
  have := sN_le (g := fun k => D k * R k) (c := 65025) (n := n) (fun k hk => Nat.mul_le_mul (hD k hk) (hR k hk)); have : n * 65025 ≤ 256 * 65025 := Nat.mul_le_mul_right _ hn; omega
theorem prod_b {a b A B : Nat} (h1 : a ≤ A) (h2 : b ≤ B) : (a : Int) * (b : Int) ≤ (A * B : Nat) ∧ 0 ≤ (a : Int) * (b : Int) := by
  have h := Nat.mul_le_mul h1 h2
  rw [← Int.natCast_mul]; omega
theorem fP_b (hn : n ≤ 256) (hD : ∀ k, k < n → D k ≤ 255) (hR : ∀ k, k < n → R k ≤ 255) : -4261478400 ≤ fP D R n ∧ fP D R n ≤ 4261478400 := by
  unfold fP
  have h1 := prod_b hn (sN_bb hn hD hR)
  have h2 := prod_b (sN_b hn hD) (sN_b hn hR)
  omega
theorem fQ_b (hn : n ≤ 256) (hD : ∀ k, k < n → D k ≤ 255) : fQ D n ≤ 4261478400 := by
  unfold fQ
  have h1 := prod_b hn (sN_bb hn hD hD)
  have h2 := prod_b (sN_b hn hD) (sN_b hn hD)
  omega
theorem rest_b (hD : ∀ k, k < n → D k ≤ 255) (hR : ∀ k, k < n → R k ≤ 255) (k : Nat) (hk : k < n) : -223 ≤ (R k : Int) - dim (fS D R n) (D k) ∧ (R k : Int) - dim (fS D R n) (D k) ≤ 479 := by
  have h1 := dim_bound (fS_in D R n).1 (fS_in D R n).2 (hD k hk)
  have h2 := hR k hk
  omega
theorem fR_b (hn : n ≤ 256) (hD : ∀ k, k < n → D k ≤ 255) (hR : ∀ k, k < n → R k ≤ 255) : (n : Int) * -223 ≤ fR D R n ∧ fR D R n ≤ n * 479 := sI_bound (fun k hk => rest_b hD hR k hk)
theorem fO_b (h0 : 0 < n) (hn : n ≤ 256) (hD : ∀ k, k < n → D k ≤ 255) (hR : ∀ k, k < n → R k ≤ 255) : -223 ≤ fO D R n ∧ fO D R n ≤ 479 := by
  unfold fO nrst
  have h1 := fR_b hn hD hR
  have hp : (0 : Int) < 2 * n := by omega
  constructor
  · rw [Int.le_ediv_iff_mul_le hp]
    have : -223 * (2 * (n : Int)) = 2 * ((n : Int) * -223) := by grind
    omega
  · have : (2 * fR D R n + n) / (2 * n) < 480 := by
      rw [Int.ediv_lt_iff_lt_mul hp]
      have : 480 * (2 * (n : Int)) = 2 * ((n : Int) * 479) + 2 * n := by grind
      omega
    omega
theorem fE_b (h0 : 0 < n) (hn : n ≤ 256) (hD : ∀ k, k < n → D k ≤ 255) (hR : ∀ k, k < n → R k ≤ 255) : 0 ≤ fE D R n ∧ fE D R n ≤ 126157824 := by
  have ho := fO_b h0 hn hD hR
  have h := sI_bound (g := fun k => ((R k : Int) - dim (fS D R n) (D k) - fO D R n) * ((R k : Int) - dim (fS D R n) (D k) - fO D R n)) (n := n) (a := 0) (b := 492804) (fun k hk => by
    have h1 := rest_b hD hR k hk
    generalize hx : (R k : Int) - dim (fS D R n) (D k) - fO D R n = x
    refine ⟨sqr_nonneg x, ?_⟩
    rcases Int.le_total 0 x with q | q
    · exact Int.le_trans (Int.mul_le_mul (show x ≤ 702 by omega) (show x ≤ 702 by omega) q (by omega)) (by decide)
    · have := Int.mul_le_mul (show -x ≤ 702 by omega) (show -x ≤ 702 by omega) (by omega) (by omega)
      rw [Int.neg_mul_neg] at this
      exact Int.le_trans this (by decide))
  unfold fE
  have : (n : Int) * 492804 ≤ 256 * 492804 := Int.mul_le_mul_of_nonneg_right (by omega) (by omega)
  omega
/-- the class's way to the error -/
theorem fE_eq : fE D R n = sI (fun k => ((R k : Int) - dim (fS D R n) (D k)) * ((R k : Int) - dim (fS D R n) (D k))) n - 2 * fO D R n * fR D R n + n * fO D R n * fO D R n := by
  unfold fE fR
  exact sI_sqr (fun k => (R k : Int) - dim (fS D R n) (D k)) (fO D R n) n
end
theorem nsubI (a : Nat) (z : Int) : nI a - iI z = iI ((a : Int) - z) := by rw [nJ_iI, iI_sub]
/-! the class's fit -/
theorem l_S_contrast_37 {D R : Nat → Nat} {n wn dn : Nat} {W Df : Nat → Int32} {z : Int64} (hn : n ≤ 256) (hwn : n ≤ wn) (hdn : n ≤ dn) (hW : ∀ k, k < n → W k = nI (R k)) (hDf : ∀ k, k < n → Df k = nI (D k)) (hD : ∀ k, k < n → D k ≤ 255) (hR : ∀ k, k < n → R k ≤ 255) :
    f_S_contrastWanted_37 z (nI n) wn W dn Df FU 0 0 = some (lI (sN (fun k => D k * R k) n : Nat), nI n) := by
  have key := lp_up (L := fun n' (a : Nat) v => f_S_contrastWanted_37 z (nI n) wn W dn Df n' (lI (a : Int)) (nI v)) (st := fun v => sN (fun k => D k * R k) v) (b := n) (fin := (lI (sN (fun k => D k * R k) n : Nat), nI n))
    (fun n' => by
      show f_S_contrastWanted_37 _ _ _ _ _ _ (n' + 1) _ _ = _
      rw [f_S_contrastWanted_37]
      simp (disch := omega) only [n0, n1, n2, n3, n4, n5, n6, n7, n8, n10, n16, n40, n128, n255, n256, n1024, n2000, n2048, nJ_add, nJ_mul, nJ_sub, nJ_leT, nJ_leF, nJ_ltT, nJ_ltF, nJ_eqT, nJ_eqF, nJ_clamp, nJ_div, nM, iM_eqF, iM_eqF2, iM_leF, iM_ltF, iM_leT, iM_ltT, iM_add, iM_add0, natLeF, natLeT, natLtF, natLtT, natEqF, natEqT, if_true, if_false, ite_true, ite_false, false_or, or_false, or_self, Option.bind_some, ↓reduceIte])
    (fun n' v hv => by
      show f_S_contrastWanted_37 _ _ _ _ _ _ (n' + 1) _ _ = f_S_contrastWanted_37 _ _ _ _ _ _ n' _ _
      rw [f_S_contrastWanted_37]
      have b1 := hD v hv
      have b2 := hR v hv
      have e : ((sN (fun k => D k * R k) (v + 1) : Nat) : Int) = (sN (fun k => D k * R k) v : Nat) + (R v : Int) * (D v : Int) := by
        rw [sN, Int.natCast_add, Int.natCast_mul, Int.mul_comm]
      simp (disch := omega) only [n0, n1, n2, n3, n4, n5, n6, n7, n8, n10, n16, n40, n128, n255, n256, n1024, n2000, n2048, nJ_add, nJ_mul, nJ_sub, nJ_leT, nJ_leF, nJ_ltT, nJ_ltF, nJ_eqT, nJ_eqF, nJ_clamp, nJ_div, nM, iM_eqF, iM_eqF2, iM_leF, iM_ltF, iM_leT, iM_ltT, iM_add, iM_add0, natLeF, natLeT, natLtF, natLtT, natEqF, natEqT, if_true, if_false, ite_true, ite_false, false_or, or_false, or_self, Option.bind_some, ↓reduceIte, hW, hDf, nJ_long, lI_mul, lI_add, e])
    FU 0 (Nat.zero_le _) (fu (by omega))
  exact key
theorem i0I : (0 : Int32) = iI 0 := rfl
theorem lm7 : (-7 : Int64) = lI (-7) := rfl
theorem nrst_b {a b : Int} (h1 : -100000000000 ≤ a) (h2 : a ≤ 100000000000) (hb : 0 < b) (hb2 : b ≤ 100000000000) : -9223372036854775808 ≤ nrst a b ∧ nrst a b < 9223372036854775808 := by
  unfold nrst
  have h1 := tdiv_abs (a := 2 * a + b) (b := 2 * b) (by omega) 1000000000000 (by omega) (by omega)
  have h2 := Int.tdiv_eq_ediv (a := 2 * a + b) (b := 2 * b)
  rw [Int.sign_eq_one_of_pos (by omega)] at h2
  split at h2 <;> omega
theorem l_brought7 {z : Int} (h1 : -9223372036854775808 ≤ z) (h2 : z < 9223372036854775808) : (f_F_brought (lI z) (-7) 7).bind (fun q => some q.toInt32) = some (iI (clampI (-7) 7 z)) := by
  have e := l_F_brought (a := z) (lo := -7) (hi := 7) (by decide) h1 h2 (by decide) (by decide)
  rw [lm7, l7, e]
  exact congrArg some (lI_int _)
theorem contrast_core {Q P : Int} (q0 : 0 ≤ Q) (q1 : Q ≤ 4261478400) (p1 : -4261478400 ≤ P) (p2 : P ≤ 4261478400) :
    (if lI 0 < lI Q then (f_F_nearest (lI (8 * P)) (lI Q)).bind (fun q310 => (f_F_brought q310 (-7) 7).bind (fun q312 => some q312.toInt32)) else some 0) = some (iI (if Q = 0 then 0 else clampI (-7) 7 (nrst (8 * P) Q))) := by
  by_cases c : Q = 0
  · rw [if_pos c]
    simp (disch := omega) only [lI_ltF, ↓reduceIte]
    exact congrArg some i0I
  · rw [if_neg c]
    simp (disch := omega) only [lI_ltT, ↓reduceIte]
    have hb := nrst_b (a := 8 * P) (b := Q) (by omega) (by omega) (by omega) (by omega)
    rw [l_F_nearest (by omega) (by omega) (by omega) (by omega), Option.bind_some, l_brought7 hb.1 hb.2]
theorem l_S_contrast {D R : Nat → Nat} {n wn dn : Nat} {W Df : Nat → Int32} (hn : n ≤ 256) (hwn : n ≤ wn) (hdn : n ≤ dn) (hW : ∀ k, k < n → W k = nI (R k)) (hDf : ∀ k, k < n → Df k = nI (D k)) (hD : ∀ k, k < n → D k ≤ 255) (hR : ∀ k, k < n → R k ≤ 255) :
    f_S_contrastWanted (nI n) (nI (sN R n)) (nI (sN D n)) (nI (sN (fun k => D k * D k) n)) wn W dn Df = some (iI (fS D R n)) := by
  have b1 := sN_b hn hD
  have b2 := sN_b hn hR
  have b3 := sN_bb hn hD hD
  have main := contrast_core (fQ_nonneg D n) (fQ_b hn hD) (fP_b hn hD hR).1 (fP_b hn hD hR).2
  unfold fQ fP at main
  unfold f_S_contrastWanted fS fQ fP
  rw [l_S_contrast_37 hn hwn hdn hW hDf hD hR]
  simp only [cmp_gt0, Option.bind_some]
  simp (disch := omega) only [nJ_long, lI_mul, lI_sub, l0, l8]
  exact main
theorem l_S_try_31 {D R : Nat → Nat} {n wn dn : Nat} {W Df : Nat → Int32} {a b : Int32} {s : Int} (hs : -7 ≤ s ∧ s ≤ 7) (hn : n ≤ 256) (hwn : n ≤ wn) (hdn : n ≤ dn) (hW : ∀ k, k < n → W k = nI (R k)) (hDf : ∀ k, k < n → Df k = nI (D k)) (hD : ∀ k, k < n → D k ≤ 255) :
    f_S_tryTurn_31 a b (iI s) (nI n) wn W dn Df FU 0 0 0 = some (iI (sI (fun k => (R k : Int) - dim s (D k)) n), iI (sI (fun k => ((R k : Int) - dim s (D k)) * ((R k : Int) - dim s (D k))) n), nI n) := by
  have key := lp_up (L := fun n' (z : Int × Int) v => f_S_tryTurn_31 a b (iI s) (nI n) wn W dn Df n' (iI z.1) (iI z.2) (nI v)) (st := fun v => (sI (fun k => (R k : Int) - dim s (D k)) v, sI (fun k => ((R k : Int) - dim s (D k)) * ((R k : Int) - dim s (D k))) v)) (b := n) (fin := (iI (sI (fun k => (R k : Int) - dim s (D k)) n), iI (sI (fun k => ((R k : Int) - dim s (D k)) * ((R k : Int) - dim s (D k))) n), nI n))
    (fun n' => by
      show f_S_tryTurn_31 _ _ _ _ _ _ _ _ (n' + 1) _ _ _ = _
      rw [f_S_tryTurn_31]
      simp (disch := omega) only [n0, n1, n2, n3, n4, n5, n6, n7, n8, n10, n16, n40, n128, n255, n256, n1024, n2000, n2048, nJ_add, nJ_mul, nJ_sub, nJ_leT, nJ_leF, nJ_ltT, nJ_ltF, nJ_eqT, nJ_eqF, nJ_clamp, nJ_div, nM, iM_eqF, iM_eqF2, iM_leF, iM_ltF, iM_leT, iM_ltT, iM_add, iM_add0, natLeF, natLeT, natLtF, natLtT, natEqF, natEqT, if_true, if_false, ite_true, ite_false, false_or, or_false, or_self, Option.bind_some, ↓reduceIte])
    (fun n' v hv => by
      show f_S_tryTurn_31 _ _ _ _ _ _ _ _ (n' + 1) _ _ _ = f_S_tryTurn_31 _ _ _ _ _ _ _ _ n' _ _ _
      rw [f_S_tryTurn_31]
      have b1 := hD v hv
      simp (disch := omega) only [n0, n1, n2, n3, n4, n5, n6, n7, n8, n10, n16, n40, n128, n255, n256, n1024, n2000, n2048, nJ_add, nJ_mul, nJ_sub, nJ_leT, nJ_leF, nJ_ltT, nJ_ltF, nJ_eqT, nJ_eqF, nJ_clamp, nJ_div, nM, iM_eqF, iM_eqF2, iM_leF, iM_ltF, iM_leT, iM_ltT, iM_add, iM_add0, natLeF, natLeT, natLtF, natLtT, natEqF, natEqT, if_true, if_false, ite_true, ite_false, false_or, or_false, or_self, Option.bind_some, ↓reduceIte, hW, hDf]
      rw [l_F_dimmed hs.1 hs.2 b1]
      simp (disch := omega) only [n0, n1, n2, n3, n4, n5, n6, n7, n8, n10, n16, n40, n128, n255, n256, n1024, n2000, n2048, nJ_add, nJ_mul, nJ_sub, nJ_leT, nJ_leF, nJ_ltT, nJ_ltF, nJ_eqT, nJ_eqF, nJ_clamp, nJ_div, nM, iM_eqF, iM_eqF2, iM_leF, iM_ltF, iM_leT, iM_ltT, iM_add, iM_add0, natLeF, natLeT, natLtF, natLtT, natEqF, natEqT, if_true, if_false, ite_true, ite_false, false_or, or_false, or_self, Option.bind_some, ↓reduceIte, nsubI, iI_add, iI_mul]
      rfl)
    FU 0 (Nat.zero_le _) (fu (by omega))
  exact key
theorem l_M_try_21 {D R : Nat → Nat} {sz n wn dn : Nat} {Rf Df : Nat → Int32} {a b : Int32} {c : Int64} (hsz : sz * sz = n) (hn : n ≤ 256) (hwn : n ≤ wn) (hdn : n ≤ dn) (hRf : ∀ k, k < n → Rf k = nI (R k)) (hDf : ∀ k, k < n → Df k = nI (D k)) (hD : ∀ k, k < n → D k ≤ 255) (hR : ∀ k, k < n → R k ≤ 255) :
    f_M_tryOne_21 (nI sz) a b c dn Df wn Rf FU 0 0 0 0 0 = some (lI (sN D n : Nat), lI (sN R n : Nat), lI (sN (fun k => D k * R k) n : Nat), lI (sN (fun k => D k * D k) n : Nat), nI n) := by
  have key := lp_up (L := fun n' (z : Nat × Nat × Nat × Nat) v => f_M_tryOne_21 (nI sz) a b c dn Df wn Rf n' (lI (z.1 : Int)) (lI (z.2.1 : Int)) (lI (z.2.2.1 : Int)) (lI (z.2.2.2 : Int)) (nI v)) (st := fun v => (sN D v, sN R v, sN (fun k => D k * R k) v, sN (fun k => D k * D k) v)) (b := n) (fin := (lI (sN D n : Nat), lI (sN R n : Nat), lI (sN (fun k => D k * R k) n : Nat), lI (sN (fun k => D k * D k) n : Nat), nI n))
    (fun n' => by
      show f_M_tryOne_21 _ _ _ _ _ _ _ _ (n' + 1) _ _ _ _ _ = _
      rw [f_M_tryOne_21]
      simp (disch := omega) only [n0, n1, n2, n3, n4, n5, n6, n7, n8, n10, n16, n40, n128, n255, n256, n1024, n2000, n2048, nJ_add, nJ_mul, nJ_sub, nJ_leT, nJ_leF, nJ_ltT, nJ_ltF, nJ_eqT, nJ_eqF, nJ_clamp, nJ_div, nM, iM_eqF, iM_eqF2, iM_leF, iM_ltF, iM_leT, iM_ltT, iM_add, iM_add0, natLeF, natLeT, natLtF, natLtT, natEqF, natEqT, if_true, if_false, ite_true, ite_false, false_or, or_false, or_self, Option.bind_some, ↓reduceIte, hsz])
    (fun n' v hv => by
      show f_M_tryOne_21 _ _ _ _ _ _ _ _ (n' + 1) _ _ _ _ _ = f_M_tryOne_21 _ _ _ _ _ _ _ _ n' _ _ _ _ _
      rw [f_M_tryOne_21]
      have b1 := hD v hv
      have b2 := hR v hv
      have m1 : D v * R v ≤ 255 * 255 := Nat.mul_le_mul b1 b2
      have m2 : D v * D v ≤ 255 * 255 := Nat.mul_le_mul b1 b1
      simp (disch := omega) only [n0, n1, n2, n3, n4, n5, n6, n7, n8, n10, n16, n40, n128, n255, n256, n1024, n2000, n2048, nJ_add, nJ_mul, nJ_sub, nJ_leT, nJ_leF, nJ_ltT, nJ_ltF, nJ_eqT, nJ_eqF, nJ_clamp, nJ_div, nM, iM_eqF, iM_eqF2, iM_leF, iM_ltF, iM_leT, iM_ltT, iM_add, iM_add0, natLeF, natLeT, natLtF, natLtT, natEqF, natEqT, if_true, if_false, ite_true, ite_false, false_or, or_false, or_self, Option.bind_some, ↓reduceIte, hsz, hRf, hDf, nJ_long, lI_add, ← Int.natCast_add]
      rfl)
    FU 0 (Nat.zero_le _) (fu (by omega))
  exact key
theorem l_M_try_167 {D : Nat → Nat} {sz n dn : Nat} {Df : Nat → Int32} {s : Int} {a b : Int32} {c d e f g h : Int64} {r0 : Int} (hs : -7 ≤ s ∧ s ≤ 7) (hsz : sz * sz = n) (hn : n ≤ 256) (hdn : n ≤ dn) (hDf : ∀ k, k < n → Df k = nI (D k)) (hD : ∀ k, k < n → D k ≤ 255) {i : Int64} :
    f_M_tryOne_167 (nI sz) a b c d e f g h i (iI s) dn Df FU (lI r0) 0 = some (lI (r0 - sI (fun k => dim s (D k)) n), nI n) := by
  have key := lp_up (L := fun n' (z : Int) v => f_M_tryOne_167 (nI sz) a b c d e f g h i (iI s) dn Df n' (lI z) (nI v)) (st := fun v => r0 - sI (fun k => dim s (D k)) v) (b := n) (fin := (lI (r0 - sI (fun k => dim s (D k)) n), nI n))
    (fun n' => by
      show f_M_tryOne_167 _ _ _ _ _ _ _ _ _ _ _ _ _ (n' + 1) _ _ = _
      rw [f_M_tryOne_167]
      simp (disch := omega) only [n0, n1, n2, n3, n4, n5, n6, n7, n8, n10, n16, n40, n128, n255, n256, n1024, n2000, n2048, nJ_add, nJ_mul, nJ_sub, nJ_leT, nJ_leF, nJ_ltT, nJ_ltF, nJ_eqT, nJ_eqF, nJ_clamp, nJ_div, nM, iM_eqF, iM_eqF2, iM_leF, iM_ltF, iM_leT, iM_ltT, iM_add, iM_add0, natLeF, natLeT, natLtF, natLtT, natEqF, natEqT, if_true, if_false, ite_true, ite_false, false_or, or_false, or_self, Option.bind_some, ↓reduceIte, hsz])
    (fun n' v hv => by
      show f_M_tryOne_167 _ _ _ _ _ _ _ _ _ _ _ _ _ (n' + 1) _ _ = f_M_tryOne_167 _ _ _ _ _ _ _ _ _ _ _ _ _ n' _ _
      rw [f_M_tryOne_167]
      have b1 := hD v hv
      have b2 := dim_bound hs.1 hs.2 b1
      simp (disch := omega) only [n0, n1, n2, n3, n4, n5, n6, n7, n8, n10, n16, n40, n128, n255, n256, n1024, n2000, n2048, nJ_add, nJ_mul, nJ_sub, nJ_leT, nJ_leF, nJ_ltT, nJ_ltF, nJ_eqT, nJ_eqF, nJ_clamp, nJ_div, nM, iM_eqF, iM_eqF2, iM_leF, iM_ltF, iM_leT, iM_ltT, iM_add, iM_add0, natLeF, natLeT, natLtF, natLtT, natEqF, natEqT, if_true, if_false, ite_true, ite_false, false_or, or_false, or_self, Option.bind_some, ↓reduceIte, hsz, hDf]
      rw [l_M_mapped hs.1 hs.2 b1]
      have e0 : r0 - sI (fun k => dim s (D k)) (v + 1) = r0 - sI (fun k => dim s (D k)) v - dim s (D v) := by rw [sI]; omega
      simp (disch := omega) only [n0, n1, n2, n3, n4, n5, n6, n7, n8, n10, n16, n40, n128, n255, n256, n1024, n2000, n2048, nJ_add, nJ_mul, nJ_sub, nJ_leT, nJ_leF, nJ_ltT, nJ_ltF, nJ_eqT, nJ_eqF, nJ_clamp, nJ_div, nM, iM_eqF, iM_eqF2, iM_leF, iM_ltF, iM_leT, iM_ltT, iM_add, iM_add0, natLeF, natLeT, natLtF, natLtT, natEqF, natEqT, if_true, if_false, ite_true, ite_false, false_or, or_false, or_self, Option.bind_some, ↓reduceIte, iI_long, lI_sub, e0])
    FU 0 (Nat.zero_le _) (fu (by omega))
  have z : r0 - sI (fun k => dim s (D k)) 0 = r0 := by rw [sI]; omega
  have key : f_M_tryOne_167 (nI sz) a b c d e f g h i (iI s) dn Df FU (lI (r0 - sI (fun k => dim s (D k)) 0)) 0 = _ := key
  rw [z] at key
  exact key
theorem l_M_try_215 {D R : Nat → Nat} {sz n dn rn : Nat} {Df Rf : Nat → Int32} {s o : Int} {a b : Int32} {c d e f g h i j : Int64} (hs : -7 ≤ s ∧ s ≤ 7) (ho : -223 ≤ o ∧ o ≤ 479) (hsz : sz * sz = n) (hn : n ≤ 256) (hdn : n ≤ dn) (hrn : n ≤ rn) (hDf : ∀ k, k < n → Df k = nI (D k)) (hRf : ∀ k, k < n → Rf k = nI (R k)) (hD : ∀ k, k < n → D k ≤ 255) (hR : ∀ k, k < n → R k ≤ 255) :
    f_M_tryOne_215 (nI sz) a b c d e f g h i (iI s) j (iI o) dn Df rn Rf FU 0 0 = some (lI (sI (fun k => ((R k : Int) - dim s (D k) - o) * ((R k : Int) - dim s (D k) - o)) n), nI n) := by
  have key := lp_up (L := fun n' (z : Int) v => f_M_tryOne_215 (nI sz) a b c d e f g h i (iI s) j (iI o) dn Df rn Rf n' (lI z) (nI v)) (st := fun v => sI (fun k => ((R k : Int) - dim s (D k) - o) * ((R k : Int) - dim s (D k) - o)) v) (b := n) (fin := (lI (sI (fun k => ((R k : Int) - dim s (D k) - o) * ((R k : Int) - dim s (D k) - o)) n), nI n))
    (fun n' => by
      show f_M_tryOne_215 _ _ _ _ _ _ _ _ _ _ _ _ _ _ _ _ _ (n' + 1) _ _ = _
      rw [f_M_tryOne_215]
      simp (disch := omega) only [n0, n1, n2, n3, n4, n5, n6, n7, n8, n10, n16, n40, n128, n255, n256, n1024, n2000, n2048, nJ_add, nJ_mul, nJ_sub, nJ_leT, nJ_leF, nJ_ltT, nJ_ltF, nJ_eqT, nJ_eqF, nJ_clamp, nJ_div, nM, iM_eqF, iM_eqF2, iM_leF, iM_ltF, iM_leT, iM_ltT, iM_add, iM_add0, natLeF, natLeT, natLtF, natLtT, natEqF, natEqT, if_true, if_false, ite_true, ite_false, false_or, or_false, or_self, Option.bind_some, ↓reduceIte, hsz])
    (fun n' v hv => by
      show f_M_tryOne_215 _ _ _ _ _ _ _ _ _ _ _ _ _ _ _ _ _ (n' + 1) _ _ = f_M_tryOne_215 _ _ _ _ _ _ _ _ _ _ _ _ _ _ _ _ _ n' _ _
      rw [f_M_tryOne_215]
      have b1 := hD v hv
      have b3 := hR v hv
      have b2 := dim_bound hs.1 hs.2 b1
      simp (disch := omega) only [n0, n1, n2, n3, n4, n5, n6, n7, n8, n10, n16, n40, n128, n255, n256, n1024, n2000, n2048, nJ_add, nJ_mul, nJ_sub, nJ_leT, nJ_leF, nJ_ltT, nJ_ltF, nJ_eqT, nJ_eqF, nJ_clamp, nJ_div, nM, iM_eqF, iM_eqF2, iM_leF, iM_ltF, iM_leT, iM_ltT, iM_add, iM_add0, natLeF, natLeT, natLtF, natLtT, natEqF, natEqT, if_true, if_false, ite_true, ite_false, false_or, or_false, or_self, Option.bind_some, ↓reduceIte, hsz, hDf, hRf]
      rw [l_M_mapped hs.1 hs.2 b1]
      simp (disch := omega) only [n0, n1, n2, n3, n4, n5, n6, n7, n8, n10, n16, n40, n128, n255, n256, n1024, n2000, n2048, nJ_add, nJ_mul, nJ_sub, nJ_leT, nJ_leF, nJ_ltT, nJ_ltF, nJ_eqT, nJ_eqF, nJ_clamp, nJ_div, nM, iM_eqF, iM_eqF2, iM_leF, iM_ltF, iM_leT, iM_ltT, iM_add, iM_add0, natLeF, natLeT, natLtF, natLtT, natEqF, natEqT, if_true, if_false, ite_true, ite_false, false_or, or_false, or_self, Option.bind_some, ↓reduceIte, nsubI, iI_sub, iI_long, lI_mul, lI_add]
      rfl)
    FU 0 (Nat.zero_le _) (fu (by omega))
  exact key
