/-! numbers with a sign -/
def iI (z : Int) : Int32 := Int32.ofInt z
def lI (z : Int) : Int64 := Int64.ofInt z
theorem iI_add (a b : Int) : iI a + iI b = iI (a + b) := (Int32.ofInt_add a b).symm
theorem iI_sub (a b : Int) : iI a - iI b = iI (a - b) := (Int32.ofInt_sub a b).symm
theorem iI_mul (a b : Int) : iI a * iI b = iI (a * b) := (Int32.ofInt_mul a b).symm
theorem iI_neg (a : Int) : -iI a = iI (-a) := (Int32.ofInt_neg a).symm
theorem lI_add (a b : Int) : lI a + lI b = lI (a + b) := (Int64.ofInt_add a b).symm
theorem lI_sub (a b : Int) : lI a - lI b = lI (a - b) := (Int64.ofInt_sub a b).symm
theorem lI_mul (a b : Int) : lI a * lI b = lI (a * b) := (Int64.ofInt_mul a b).symm
theorem lI_neg (a : Int) : -lI a = lI (-a) := (Int64.ofInt_neg a).symm
theorem iI_toInt {z : Int} (h1 : -2147483648 ≤ z) (h2 : z < 2147483648) : (iI z).toInt = z := Int32.toInt_ofInt_of_le (by omega) (by omega)
theorem lI_toInt {z : Int} (h1 : -9223372036854775808 ≤ z) (h2 : z < 9223372036854775808) : (lI z).toInt = z := Int64.toInt_ofInt_of_le (by omega) (by omega)
theorem nJ_iI (n : Nat) : nI n = iI (n : Int) := nJ_int n
theorem iM_iI : iM = iI (-1) := rfl
theorem iI_leT {a b : Int} (h : a ≤ b) (h1 : -2147483648 ≤ a) (h2 : b < 2147483648) : (iI a ≤ iI b) = True := by
  rw [eq_iff_iff, Int32.le_iff_toInt_le, iI_toInt h1 (by omega), iI_toInt (by omega) h2]; simp <;> omega
theorem iI_leF {a b : Int} (h : b < a) (h1 : -2147483648 ≤ b) (h2 : a < 2147483648) : (iI a ≤ iI b) = False := by
  rw [eq_iff_iff, Int32.le_iff_toInt_le, iI_toInt (by omega) h2, iI_toInt h1 (by omega)]; simp <;> omega
theorem iI_ltT {a b : Int} (h : a < b) (h1 : -2147483648 ≤ a) (h2 : b < 2147483648) : (iI a < iI b) = True := by
  rw [eq_iff_iff, Int32.lt_iff_toInt_lt, iI_toInt h1 (by omega), iI_toInt (by omega) h2]; simp <;> omega
theorem iI_ltF {a b : Int} (h : b ≤ a) (h1 : -2147483648 ≤ b) (h2 : a < 2147483648) : (iI a < iI b) = False := by
  rw [eq_iff_iff, Int32.lt_iff_toInt_lt, iI_toInt (by omega) h2, iI_toInt h1 (by omega)]; simp <;> omega
theorem iI_inj {a b : Int} (h : iI a = iI b) (h1 : -2147483648 ≤ a) (h2 : a < 2147483648) (h3 : -2147483648 ≤ b) (h4 : b < 2147483648) : a = b := by
  have := congrArg Int32.toInt h
  rwa [iI_toInt h1 h2, iI_toInt h3 h4] at this
theorem iI_eqT {a b : Int} (h : a = b) : (iI a = iI b) = True := by simp [h]
theorem iI_eqF {a b : Int} (h : a ≠ b) (h1 : -2147483648 ≤ a) (h2 : a < 2147483648) (h3 : -2147483648 ≤ b) (h4 : b < 2147483648) : (iI a = iI b) = False := by
  rw [eq_iff_iff]; exact ⟨fun e => h (iI_inj e h1 h2 h3 h4), False.elim⟩
theorem lI_leT {a b : Int} (h : a ≤ b) (h1 : -9223372036854775808 ≤ a) (h2 : b < 9223372036854775808) : (lI a ≤ lI b) = True := by
  rw [eq_iff_iff, Int64.le_iff_toInt_le, lI_toInt h1 (by omega), lI_toInt (by omega) h2]; simp <;> omega
theorem lI_leF {a b : Int} (h : b < a) (h1 : -9223372036854775808 ≤ b) (h2 : a < 9223372036854775808) : (lI a ≤ lI b) = False := by
  rw [eq_iff_iff, Int64.le_iff_toInt_le, lI_toInt (by omega) h2, lI_toInt h1 (by omega)]; simp <;> omega
theorem lI_ltT {a b : Int} (h : a < b) (h1 : -9223372036854775808 ≤ a) (h2 : b < 9223372036854775808) : (lI a < lI b) = True := by
  rw [eq_iff_iff, Int64.lt_iff_toInt_lt, lI_toInt h1 (by omega), lI_toInt (by omega) h2]; simp <;> omega
theorem lI_ltF {a b : Int} (h : b ≤ a) (h1 : -9223372036854775808 ≤ b) (h2 : a < 9223372036854775808) : (lI a < lI b) = False := by
  rw [eq_iff_iff, Int64.lt_iff_toInt_lt, lI_toInt (by omega) h2, lI_toInt h1 (by omega)]; simp <;> omega
theorem lI_inj {a b : Int} (h : lI a = lI b) (h1 : -9223372036854775808 ≤ a) (h2 : a < 9223372036854775808) (h3 : -9223372036854775808 ≤ b) (h4 : b < 9223372036854775808) : a = b := by
  have := congrArg Int64.toInt h
  rwa [lI_toInt h1 h2, lI_toInt h3 h4] at this
theorem lI_eqT {a b : Int} (h : a = b) : (lI a = lI b) = True := by simp [h]
theorem lI_eqF {a b : Int} (h : a ≠ b) (h1 : -9223372036854775808 ≤ a) (h2 : a < 9223372036854775808) (h3 : -9223372036854775808 ≤ b) (h4 : b < 9223372036854775808) : (lI a = lI b) = False := by
  rw [eq_iff_iff]; exact ⟨fun e => h (lI_inj e h1 h2 h3 h4), False.elim⟩
theorem iI_long {z : Int} (h1 : -2147483648 ≤ z) (h2 : z < 2147483648) : (iI z).toInt64 = lI z := by
  apply Int64.toInt_inj.mp
  rw [Int32.toInt_toInt64, iI_toInt h1 h2, lI_toInt (by omega) (by omega)]
theorem nJ_long {a : Nat} (h : a < 2147483648) : (nI a).toInt64 = lI (a : Int) := by
  rw [nJ_iI, iI_long (by omega) (by omega)]
theorem lI_int (z : Int) : (lI z).toInt32 = iI z := by
  show (Int64.ofInt z).toInt32 = Int32.ofInt z
  simp [Int64.toInt32_ofInt]
theorem iI_div {a b : Int} (h1 : -2147483648 ≤ a) (h2 : a < 2147483648) (h3 : 0 < b) (h4 : b < 2147483648) : iI a / iI b = iI (a.tdiv b) := by
  apply Int32.toInt_inj.mp
  rw [Int32.toInt_div, iI_toInt h1 h2, iI_toInt (by omega) h4]
  show _ = (Int32.ofInt _).toInt
  rw [Int32.toInt_ofInt]
theorem lI_div {a b : Int} (h1 : -9223372036854775808 ≤ a) (h2 : a < 9223372036854775808) (h3 : 0 < b) (h4 : b < 9223372036854775808) : lI a / lI b = lI (a.tdiv b) := by
  apply Int64.toInt_inj.mp
  rw [Int64.toInt_div, lI_toInt h1 h2, lI_toInt (by omega) h4]
  show _ = (Int64.ofInt _).toInt
  rw [Int64.toInt_ofInt]
theorem l0 : (0 : Int64) = lI 0 := rfl
theorem l1 : (1 : Int64) = lI 1 := rfl
theorem l2 : (2 : Int64) = lI 2 := rfl
theorem l7 : (7 : Int64) = lI 7 := rfl
theorem l8 : (8 : Int64) = lI 8 := rfl
theorem l255 : (255 : Int64) = lI 255 := rfl
theorem intEqF {a b : Int} (h : a ≠ b) : (a = b) = False := by simp; omega
/-- division downward, by what Java has -/
theorem fl_pos {a b : Int} (ha : 0 ≤ a) : a.tdiv b = a / b := Int.tdiv_eq_ediv_of_nonneg ha
theorem fl_ex {a b : Int} (hb : 0 < b) (h : a.tdiv b * b = a) : a.tdiv b = a / b := by
  have : a / b = (a.tdiv b * b) / b := by rw [h]
  rw [this, Int.mul_ediv_cancel _ (by omega)]
theorem fl_neg {a b : Int} (hb : 0 < b) (ha : a < 0) (h : ¬ a.tdiv b * b = a) : a.tdiv b - 1 = a / b := by
  have e := Int.tdiv_eq_ediv (a := a) (b := b)
  rw [if_neg, Int.sign_eq_one_of_pos hb] at e
  · omega
  · rintro (q | q)
    · omega
    · exact h (Int.tdiv_mul_cancel q)
theorem tdiv_abs {a b : Int} (hb : 0 < b) (m : Int) (h1 : -m ≤ a) (h2 : a ≤ m) : -m ≤ a.tdiv b ∧ a.tdiv b ≤ m := by
  have hm : 0 ≤ m := by omega
  by_cases ha : 0 ≤ a
  · rw [fl_pos ha]
    have q1 : a / b ≤ a := Int.ediv_le_self b ha
    have q2 : 0 ≤ a / b := Int.ediv_nonneg ha (by omega)
    omega
  · have e : a.tdiv b = -((-a).tdiv b) := by rw [Int.neg_tdiv]; omega
    rw [e, fl_pos (by omega)]
    have q1 : (-a) / b ≤ -a := Int.ediv_le_self b (by omega)
    have q2 : 0 ≤ (-a) / b := Int.ediv_nonneg (by omega) (by omega)
    omega
theorem tdiv_mul_abs {a b : Int} (hb : 0 < b) (m : Int) (h1 : -m ≤ a) (h2 : a ≤ m) : -m ≤ a.tdiv b * b ∧ a.tdiv b * b ≤ m := by
  by_cases ha : 0 ≤ a
  · rw [fl_pos ha]
    have q1 : a / b * b ≤ a := Int.ediv_mul_le a (by omega)
    have q2 : 0 ≤ a / b * b := Int.mul_nonneg (Int.ediv_nonneg ha (by omega)) (by omega)
    omega
  · have e : a.tdiv b = -((-a).tdiv b) := by rw [Int.neg_tdiv]; omega
    rw [e, fl_pos (by omega), Int.neg_mul]
    have q1 : (-a) / b * b ≤ -a := Int.ediv_mul_le (-a) (by omega)
    have q2 : 0 ≤ (-a) / b * b := Int.mul_nonneg (Int.ediv_nonneg (by omega) (by omega)) (by omega)
    omega
theorem xor64 {x y : Int64} (hy : 0 ≤ y.toInt) : (0 ≤ x ^^^ y) = (0 ≤ x) := by
  rw [eq_iff_iff, Int64.le_iff_toInt_le, Int64.le_iff_toInt_le]
  have e0 : (0 : Int64).toInt = 0 := rfl
  rw [e0]
  have h1 : (x ^^^ y).toBitVec.msb = (x.toBitVec.msb ^^ y.toBitVec.msb) := by rw [Int64.toBitVec_xor, BitVec.msb_xor]
  rw [BitVec.msb_eq_toInt, BitVec.msb_eq_toInt, BitVec.msb_eq_toInt] at h1
  have h2 : decide (y.toBitVec.toInt < 0) = false := by
    have : y.toBitVec.toInt = y.toInt := rfl
    rw [this]; simp; omega
  rw [h2, Bool.xor_false, decide_eq_decide] at h1
  have a1 : (x ^^^ y).toBitVec.toInt = (x ^^^ y).toInt := rfl
  have a2 : x.toBitVec.toInt = x.toInt := rfl
  rw [a1, a2] at h1
  omega
theorem xor32 {x y : Int32} (hy : 0 ≤ y.toInt) : (0 ≤ x ^^^ y) = (0 ≤ x) := by
  rw [eq_iff_iff, Int32.le_iff_toInt_le, Int32.le_iff_toInt_le]
  have e0 : (0 : Int32).toInt = 0 := rfl
  rw [e0]
  have h1 : (x ^^^ y).toBitVec.msb = (x.toBitVec.msb ^^ y.toBitVec.msb) := by rw [Int32.toBitVec_xor, BitVec.msb_xor]
  rw [BitVec.msb_eq_toInt, BitVec.msb_eq_toInt, BitVec.msb_eq_toInt] at h1
  have h2 : decide (y.toBitVec.toInt < 0) = false := by
    have : y.toBitVec.toInt = y.toInt := rfl
    rw [this]; simp; omega
  rw [h2, Bool.xor_false, decide_eq_decide] at h1
  have a1 : (x ^^^ y).toBitVec.toInt = (x ^^^ y).toInt := rfl
  have a2 : x.toBitVec.toInt = x.toInt := rfl
  rw [a1, a2] at h1
  omega
theorem l_floorDiv64 {a b : Int} (h1 : -4611686018427387904 ≤ a) (h2 : a ≤ 4611686018427387904) (hb : 0 < b) (hb2 : b ≤ 4611686018427387904) : f_JM_floorDiv1 (lI a) (lI b) = some (lI (a / b)) := by
  unfold f_JM_floorDiv1
  have k1 := tdiv_mul_abs hb 4611686018427387904 h1 h2
  have k2 := tdiv_abs hb 4611686018427387904 h1 h2
  have hx : (0 ≤ (lI a ^^^ lI b)) = (0 ≤ lI a) := xor64 (by rw [lI_toInt (by omega) (by omega)]; omega)
  simp only [cmp_ge0, cmp_eq0, hx]
  rw [lI_div (by omega) (by omega) hb (by omega)]
  by_cases ha : 0 ≤ a
  · simp (disch := omega) only [l0, lI_eqF, lI_leT, ↓reduceIte, fl_pos ha]
  · by_cases hc : a.tdiv b * b = a
    · simp (disch := omega) only [l0, lI_eqF, lI_leF, lI_mul, lI_eqT, ↓reduceIte]
      rw [fl_ex hb hc]
    · simp (disch := omega) only [l0, l1, lI_eqF, lI_leF, lI_mul, lI_sub, ↓reduceIte, fl_neg hb (by omega) hc]
theorem l_floorDiv32 {a b : Int} (h1 : -1073741824 ≤ a) (h2 : a ≤ 1073741824) (hb : 0 < b) (hb2 : b ≤ 1073741824) : f_JM_floorDiv0 (iI a) (iI b) = some (iI (a / b)) := by
  unfold f_JM_floorDiv0
  have k1 := tdiv_mul_abs hb 1073741824 h1 h2
  have k2 := tdiv_abs hb 1073741824 h1 h2
  have hx : (0 ≤ (iI a ^^^ iI b)) = (0 ≤ iI a) := xor32 (by rw [iI_toInt (by omega) (by omega)]; omega)
  simp only [hx]
  rw [iI_div (by omega) (by omega) hb (by omega)]
  have i0 : (0 : Int32) = iI 0 := rfl
  have i1 : (1 : Int32) = iI 1 := rfl
  by_cases ha : 0 ≤ a
  · simp (disch := omega) only [i0, iI_eqF, iI_leT, ↓reduceIte, fl_pos ha]
  · by_cases hc : a.tdiv b * b = a
    · simp (disch := omega) only [i0, iI_eqF, iI_leF, iI_mul, iI_eqT, ↓reduceIte]
      rw [fl_ex hb hc]
    · simp (disch := omega) only [i0, i1, iI_eqF, iI_leF, iI_mul, iI_sub, ↓reduceIte, fl_neg hb (by omega) hc]
/-- the nearest quotient -/
def nrst (a b : Int) : Int := (2 * a + b) / (2 * b)
theorem l_F_nearest {a b : Int} (h1 : -1000000000000000000 ≤ a) (h2 : a ≤ 1000000000000000000) (hb : 0 < b) (hb2 : b ≤ 1000000000000000000) : f_F_nearest (lI a) (lI b) = some (lI (nrst a b)) := by
  unfold f_F_nearest nrst
  simp only [cmp_gt0]
  simp (disch := omega) only [l0, l2, lI_ltT, lI_mul, lI_add, ↓reduceIte]
  rw [l_floorDiv64 (by omega) (by omega) (by omega) (by omega)]
  rfl
theorem l_M_nearest {a b : Int} (h1 : -1000000000000000000 ≤ a) (h2 : a ≤ 1000000000000000000) (hb : 0 < b) (hb2 : b ≤ 1000000000000000000) : f_M_nearest (lI a) (lI b) = some (lI (nrst a b)) := by
  unfold f_M_nearest nrst
  have hB : 0 < 2 * b := by omega
  have k1 := tdiv_mul_abs hB 4611686018427387904 (show -4611686018427387904 ≤ 2 * a + b by omega) (by omega)
  have k2 := tdiv_abs hB 4611686018427387904 (show -4611686018427387904 ≤ 2 * a + b by omega) (by omega)
  simp only [cmp_ge0, cmp_eq0, l0, l1, l2, lI_mul, lI_add]
  rw [lI_div (by omega) (by omega) hB (by omega)]
  have e : (2 * a + b).tdiv (2 * b) * 2 * b = (2 * a + b).tdiv (2 * b) * (2 * b) := by rw [Int.mul_assoc]
  simp only [lI_mul, e, lI_sub]
  by_cases ha : 0 ≤ 2 * a + b
  · simp (disch := omega) only [lI_eqF, lI_leT, ↓reduceIte, fl_pos ha]
  · by_cases hc : (2 * a + b).tdiv (2 * b) * (2 * b) = 2 * a + b
    · simp (disch := omega) only [lI_eqF, lI_leF, lI_eqT, ↓reduceIte]
      rw [fl_ex hB hc]
    · simp (disch := omega) only [lI_eqF, lI_leF, ↓reduceIte, fl_neg hB (by omega) hc]
/-- a sample dimmed -/
def dim (s : Int) (d : Nat) : Int := s * (d : Int) / 8
theorem sd_bound {s : Int} {d : Nat} (h1 : -7 ≤ s) (h2 : s ≤ 7) (hd : d ≤ 255) : -1785 ≤ s * (d : Int) ∧ s * (d : Int) ≤ 1785 := by
  have a1 : s * (d : Int) ≤ 7 * (d : Int) := Int.mul_le_mul_of_nonneg_right h2 (by omega)
  have a2 : -7 * (d : Int) ≤ s * (d : Int) := Int.mul_le_mul_of_nonneg_right h1 (by omega)
  omega
theorem dim_bound {s : Int} {d : Nat} (h1 : -7 ≤ s) (h2 : s ≤ 7) (hd : d ≤ 255) : -224 ≤ dim s d ∧ dim s d ≤ 223 := by
  have := sd_bound h1 h2 hd
  unfold dim; omega
theorem l_F_dimmed {s : Int} {d : Nat} (h1 : -7 ≤ s) (h2 : s ≤ 7) (hd : d ≤ 255) : f_F_dimmed (nI d) (iI s) = some (iI (dim s d)) := by
  have := sd_bound h1 h2 hd
  unfold f_F_dimmed
  rw [nJ_iI, iI_mul, show (8 : Int32) = iI 8 from rfl, l_floorDiv32 (by omega) (by omega) (by omega) (by omega)]
  rfl
theorem l_M_mapped {s : Int} {d : Nat} (h1 : -7 ≤ s) (h2 : s ≤ 7) (hd : d ≤ 255) : f_M_mapped (iI s) (nI d) = some (iI (dim s d)) := by
  have hb := sd_bound h1 h2 hd
  unfold f_M_mapped dim
  rw [nJ_iI, iI_mul]
  have i0 : (0 : Int32) = iI 0 := rfl
  have i7 : (7 : Int32) = iI 7 := rfl
  have i8 : (8 : Int32) = iI 8 := rfl
  by_cases hc : 0 ≤ s * (d : Int)
  · simp (disch := omega) only [i0, i8, iI_leT, ↓reduceIte, iI_div, fl_pos hc]
  · simp (disch := omega) only [i0, i7, i8, iI_leF, ↓reduceIte, iI_sub, iI_div, iI_neg]
    rw [fl_pos (by omega)]
    congr 2; omega
def clampI (lo hi z : Int) : Int := if z < lo then lo else if hi < z then hi else z
theorem clampI_in {lo hi z : Int} (h : lo ≤ hi) : lo ≤ clampI lo hi z ∧ clampI lo hi z ≤ hi := by unfold clampI; split; omega; split <;> omega
theorem l_F_brought {a lo hi : Int} (h : lo ≤ hi) (h1 : -9223372036854775808 ≤ a) (h2 : a < 9223372036854775808) (h3 : -1000000 ≤ lo) (h4 : hi ≤ 1000000) : f_F_brought (lI a) (lI lo) (lI hi) = some (lI (clampI lo hi a)) := by
  unfold f_F_brought clampI
  by_cases c1 : hi < a
  · simp (disch := omega) only [lI_ltT, lI_ltF, ↓reduceIte]
    rw [if_neg (by omega), if_pos c1]
  · by_cases c2 : a < lo
    · simp (disch := omega) only [lI_ltT, lI_ltF, ↓reduceIte]
      rw [if_pos c2]
    · simp (disch := omega) only [lI_ltT, lI_ltF, ↓reduceIte]
      rw [if_neg (by omega), if_neg c1]
theorem l_M_brought {a lo hi : Int} (h : lo ≤ hi) (h1 : -9223372036854775808 ≤ a) (h2 : a < 9223372036854775808) (h3 : -1000000 ≤ lo) (h4 : hi ≤ 1000000) : f_M_brought (lI a) (iI lo) (iI hi) = some (iI (clampI lo hi a)) := by
  unfold f_M_brought clampI
  simp only [cmp_ge0, cmp_le0]
  simp (disch := omega) only [iI_long]
  by_cases c1 : hi < a
  · simp (disch := omega) only [lI_leT, lI_leF, ↓reduceIte]
    rw [if_neg (by omega), if_pos c1]
  · by_cases c2 : a < lo
    · simp (disch := omega) only [lI_leT, lI_leF, ↓reduceIte]
      rw [if_pos c2]
    · simp (disch := omega) only [lI_leT, lI_leF, ↓reduceIte, lI_int]
      rw [if_neg (by omega), if_neg c1]
