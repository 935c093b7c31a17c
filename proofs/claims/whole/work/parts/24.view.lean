/-! domains: a square of the half picture, turned -/
def srcX (m turn x y : Nat) : Nat := match turn with
  | 0 => x
  | 1 => y
  | 2 => m - x
  | 3 => m - y
  | 4 => m - x
  | 5 => m - y
  | 6 => x
  | _ => y
def srcY (m turn x y : Nat) : Nat := match turn with
  | 0 => y
  | 1 => m - x
  | 2 => m - y
  | 3 => x
  | 4 => y
  | 5 => m - x
  | 6 => m - y
  | _ => x
theorem turn8 {turn : Nat} (h : turn < 8) : turn = 0 ∨ turn = 1 ∨ turn = 2 ∨ turn = 3 ∨ turn = 4 ∨ turn = 5 ∨ turn = 6 ∨ turn = 7 := by omega
theorem srcX_le {m turn x y : Nat} (h : turn < 8) (hx : x ≤ m) (hy : y ≤ m) : srcX m turn x y ≤ m := by
  rcases turn8 h with rfl | rfl | rfl | rfl | rfl | rfl | rfl | rfl <;> simp only [srcX] <;> omega
theorem srcY_le {m turn x y : Nat} (h : turn < 8) (hx : x ≤ m) (hy : y ≤ m) : srcY m turn x y ≤ m := by
  rcases turn8 h with rfl | rfl | rfl | rfl | rfl | rfl | rfl | rfl <;> simp only [srcY] <;> omega
/-- the cell of a turned domain -/
def dcell (w left top m turn x y : Nat) : Nat := (top + srcY m turn x y) * w + left + srcX m turn x y
theorem dcell_lt {w left top m turn x y : Nat} (h : turn < 8) (hx : x ≤ m) (hy : y ≤ m) (hl : left + (m + 1) ≤ w) (ht : top + (m + 1) ≤ w) : dcell w left top m turn x y < w * w := by
  have h1 := srcX_le h hx hy
  have h2 := srcY_le h hx hy
  have := ix (x := left + srcX m turn x y) (y := top + srcY m turn x y) (s := w) (by omega) (by omega)
  unfold dcell; omega
theorem l_M_turned {w left top size turn k n : Nat} {f : Nat → Int32} (hw : w ≤ 64) (hl : left + size ≤ w) (ht : top + size ≤ w) (hn : w * w ≤ n) (hk : k < size * size) (h8 : turn < 8) :
    f_M_turned (nI w) (nI left) (nI top) (nI size) (nI turn) (nI k) n f = some (f (dcell w left top (size - 1) turn (k % size) (k / size))) := by
  have hd : k / size * size ≤ k := Nat.div_mul_le_self k size
  have hx := modLt hk
  have hy := divLt hk
  have hs2 := sq64 (show size ≤ 64 by omega)
  have hw2 := sq64 hw
  have hc := dcell_lt (w := w) (left := left) (top := top) (m := size - 1) (x := k % size) (y := k / size) h8 (by omega) (by omega) (by omega) (by omega)
  unfold f_M_turned
  rw [show FU = 1048572 + 1 + 1 + 1 + 1 from rfl]
  generalize hX : k % size = x at *
  generalize hY : k / size = y at *
  have hM : k - y * size = x := by
    have := modSub k size
    rw [hX, hY] at this; exact this
  rcases turn8 h8 with rfl | rfl | rfl | rfl | rfl | rfl | rfl | rfl <;> simp only [dcell, srcX, srcY] at hc ⊢
  · simp (disch := omega) only [n0, n1, n2, n3, n4, n5, n6, n7, n8, n10, n16, n40, n128, n255, n256, n1024, n2000, n2048, nJ_add, nJ_mul, nJ_sub, nJ_leT, nJ_leF, nJ_ltT, nJ_ltF, nJ_eqT, nJ_eqF, nJ_clamp, nJ_div, nM, iM_eqF, iM_eqF2, iM_leF, iM_ltF, iM_leT, iM_ltT, iM_add, iM_add0, natLeF, natLeT, natLtF, natLtT, natEqF, natEqT, if_true, if_false, ite_true, ite_false, false_or, or_false, or_self, Option.bind_some, ↓reduceIte, modSub, f_M_turned_17, hX, hY, hM, Nat.reduceDiv, Nat.reduceMul, Nat.reduceSub, Nat.reduceMod]
  · simp (disch := omega) only [n0, n1, n2, n3, n4, n5, n6, n7, n8, n10, n16, n40, n128, n255, n256, n1024, n2000, n2048, nJ_add, nJ_mul, nJ_sub, nJ_leT, nJ_leF, nJ_ltT, nJ_ltF, nJ_eqT, nJ_eqF, nJ_clamp, nJ_div, nM, iM_eqF, iM_eqF2, iM_leF, iM_ltF, iM_leT, iM_ltT, iM_add, iM_add0, natLeF, natLeT, natLtF, natLtT, natEqF, natEqT, if_true, if_false, ite_true, ite_false, false_or, or_false, or_self, Option.bind_some, ↓reduceIte, modSub, f_M_turned_17, hX, hY, hM, Nat.reduceDiv, Nat.reduceMul, Nat.reduceSub, Nat.reduceMod, Nat.zero_add]
  · simp (disch := omega) only [n0, n1, n2, n3, n4, n5, n6, n7, n8, n10, n16, n40, n128, n255, n256, n1024, n2000, n2048, nJ_add, nJ_mul, nJ_sub, nJ_leT, nJ_leF, nJ_ltT, nJ_ltF, nJ_eqT, nJ_eqF, nJ_clamp, nJ_div, nM, iM_eqF, iM_eqF2, iM_leF, iM_ltF, iM_leT, iM_ltT, iM_add, iM_add0, natLeF, natLeT, natLtF, natLtT, natEqF, natEqT, if_true, if_false, ite_true, ite_false, false_or, or_false, or_self, Option.bind_some, ↓reduceIte, modSub, f_M_turned_17, hX, hY, hM, Nat.reduceDiv, Nat.reduceMul, Nat.reduceSub, Nat.reduceMod, Nat.zero_add, Nat.reduceAdd]
  · have e : size - 1 - (size - 1 - x) = x := by omega
    simp (disch := omega) only [n0, n1, n2, n3, n4, n5, n6, n7, n8, n10, n16, n40, n128, n255, n256, n1024, n2000, n2048, nJ_add, nJ_mul, nJ_sub, nJ_leT, nJ_leF, nJ_ltT, nJ_ltF, nJ_eqT, nJ_eqF, nJ_clamp, nJ_div, nM, iM_eqF, iM_eqF2, iM_leF, iM_ltF, iM_leT, iM_ltT, iM_add, iM_add0, natLeF, natLeT, natLtF, natLtT, natEqF, natEqT, if_true, if_false, ite_true, ite_false, false_or, or_false, or_self, Option.bind_some, ↓reduceIte, modSub, f_M_turned_17, hX, hY, hM, Nat.reduceDiv, Nat.reduceMul, Nat.reduceSub, Nat.reduceMod, Nat.zero_add, Nat.reduceAdd, e]
  · simp (disch := omega) only [n0, n1, n2, n3, n4, n5, n6, n7, n8, n10, n16, n40, n128, n255, n256, n1024, n2000, n2048, nJ_add, nJ_mul, nJ_sub, nJ_leT, nJ_leF, nJ_ltT, nJ_ltF, nJ_eqT, nJ_eqF, nJ_clamp, nJ_div, nM, iM_eqF, iM_eqF2, iM_leF, iM_ltF, iM_leT, iM_ltT, iM_add, iM_add0, natLeF, natLeT, natLtF, natLtT, natEqF, natEqT, if_true, if_false, ite_true, ite_false, false_or, or_false, or_self, Option.bind_some, ↓reduceIte, modSub, f_M_turned_17, hX, hY, hM, Nat.reduceDiv, Nat.reduceMul, Nat.reduceSub, Nat.reduceMod, Nat.zero_add, Nat.reduceAdd]
  · simp (disch := omega) only [n0, n1, n2, n3, n4, n5, n6, n7, n8, n10, n16, n40, n128, n255, n256, n1024, n2000, n2048, nJ_add, nJ_mul, nJ_sub, nJ_leT, nJ_leF, nJ_ltT, nJ_ltF, nJ_eqT, nJ_eqF, nJ_clamp, nJ_div, nM, iM_eqF, iM_eqF2, iM_leF, iM_ltF, iM_leT, iM_ltT, iM_add, iM_add0, natLeF, natLeT, natLtF, natLtT, natEqF, natEqT, if_true, if_false, ite_true, ite_false, false_or, or_false, or_self, Option.bind_some, ↓reduceIte, modSub, f_M_turned_17, hX, hY, hM, Nat.reduceDiv, Nat.reduceMul, Nat.reduceSub, Nat.reduceMod, Nat.zero_add, Nat.reduceAdd]
  · have e : size - 1 - (size - 1 - x) = x := by omega
    simp (disch := omega) only [n0, n1, n2, n3, n4, n5, n6, n7, n8, n10, n16, n40, n128, n255, n256, n1024, n2000, n2048, nJ_add, nJ_mul, nJ_sub, nJ_leT, nJ_leF, nJ_ltT, nJ_ltF, nJ_eqT, nJ_eqF, nJ_clamp, nJ_div, nM, iM_eqF, iM_eqF2, iM_leF, iM_ltF, iM_leT, iM_ltT, iM_add, iM_add0, natLeF, natLeT, natLtF, natLtT, natEqF, natEqT, if_true, if_false, ite_true, ite_false, false_or, or_false, or_self, Option.bind_some, ↓reduceIte, modSub, f_M_turned_17, hX, hY, hM, Nat.reduceDiv, Nat.reduceMul, Nat.reduceSub, Nat.reduceMod, Nat.zero_add, Nat.reduceAdd, e]
  · have e : size - 1 - (size - 1 - x) = x := by omega
    have e2 : size - 1 - (size - 1 - y) = y := by omega
    simp (disch := omega) only [n0, n1, n2, n3, n4, n5, n6, n7, n8, n10, n16, n40, n128, n255, n256, n1024, n2000, n2048, nJ_add, nJ_mul, nJ_sub, nJ_leT, nJ_leF, nJ_ltT, nJ_ltF, nJ_eqT, nJ_eqF, nJ_clamp, nJ_div, nM, iM_eqF, iM_eqF2, iM_leF, iM_ltF, iM_leT, iM_ltT, iM_add, iM_add0, natLeF, natLeT, natLtF, natLtT, natEqF, natEqT, if_true, if_false, ite_true, ite_false, false_or, or_false, or_self, Option.bind_some, ↓reduceIte, modSub, f_M_turned_17, hX, hY, hM, Nat.reduceDiv, Nat.reduceMul, Nat.reduceSub, Nat.reduceMod, Nat.zero_add, Nat.reduceAdd, e, e2]
theorem t3 {turn : Nat} (h8 : turn < 8) : (nI turn &&& (3 : Int32)) = nI (turn % 4) := by
  rcases turn8 h8 with rfl | rfl | rfl | rfl | rfl | rfl | rfl | rfl <;> decide
theorem l_V_down {size turn x y : Nat} (hs : size ≤ 64) (hx : x < size) (hy : y < size) (h8 : turn < 8) : f_V_sourceDown (nI size) (nI turn) (nI x) (nI y) = some (nI (srcY (size - 1) turn x y)) := by
  unfold f_V_sourceDown
  rw [t3 h8]
  rcases turn8 h8 with rfl | rfl | rfl | rfl | rfl | rfl | rfl | rfl <;> simp only [srcY] <;> simp (disch := omega) only [n0, n1, n2, n3, n4, n5, n6, n7, n8, n10, n16, n40, n128, n255, n256, n1024, n2000, n2048, nJ_add, nJ_mul, nJ_sub, nJ_leT, nJ_leF, nJ_ltT, nJ_ltF, nJ_eqT, nJ_eqF, nJ_clamp, nJ_div, nM, iM_eqF, iM_eqF2, iM_leF, iM_ltF, iM_leT, iM_ltT, iM_add, iM_add0, natLeF, natLeT, natLtF, natLtT, natEqF, natEqT, if_true, if_false, ite_true, ite_false, false_or, or_false, or_self, Option.bind_some, ↓reduceIte, Nat.reduceMod]
theorem l_V_across {size turn x y : Nat} (hs : size ≤ 64) (hx : x < size) (hy : y < size) (h8 : turn < 8) : f_V_sourceAcross (nI size) (nI turn) (nI x) (nI y) = some (nI (srcX (size - 1) turn x y)) := by
  unfold f_V_sourceAcross
  rw [t3 h8]
  have e : size - 1 - (size - 1 - x) = x := by omega
  have e2 : size - 1 - (size - 1 - y) = y := by omega
  rcases turn8 h8 with rfl | rfl | rfl | rfl | rfl | rfl | rfl | rfl <;> simp only [srcX] <;> simp (disch := omega) only [n0, n1, n2, n3, n4, n5, n6, n7, n8, n10, n16, n40, n128, n255, n256, n1024, n2000, n2048, nJ_add, nJ_mul, nJ_sub, nJ_leT, nJ_leF, nJ_ltT, nJ_ltF, nJ_eqT, nJ_eqF, nJ_clamp, nJ_div, nM, iM_eqF, iM_eqF2, iM_leF, iM_ltF, iM_leT, iM_ltT, iM_add, iM_add0, natLeF, natLeT, natLtF, natLtT, natEqF, natEqT, if_true, if_false, ite_true, ite_false, false_or, or_false, or_self, Option.bind_some, ↓reduceIte, Nat.reduceMod, e, e2]
theorem l_V_cellFor {size turn x y left top w : Nat} (hs : size ≤ 64) (hx : x < size) (hy : y < size) (h8 : turn < 8) : f_V_cellFor (nI size) (nI turn) (nI x) (nI y) (nI left) (nI top) (nI w) = some (nI (dcell w left top (size - 1) turn x y)) := by
  unfold f_V_cellFor
  rw [l_V_down hs hx hy h8, l_V_across hs hx hy h8]
  simp (disch := omega) only [n0, n1, n2, n3, n4, n5, n6, n7, n8, n10, n16, n40, n128, n255, n256, n1024, n2000, n2048, nJ_add, nJ_mul, nJ_sub, nJ_leT, nJ_leF, nJ_ltT, nJ_ltF, nJ_eqT, nJ_eqF, nJ_clamp, nJ_div, nM, iM_eqF, iM_eqF2, iM_leF, iM_ltF, iM_leT, iM_ltT, iM_add, iM_add0, natLeF, natLeT, natLtF, natLtT, natEqF, natEqT, if_true, if_false, ite_true, ite_false, false_or, or_false, or_self, Option.bind_some, ↓reduceIte, dcell]
/-- domains in a row, for a half picture of side w and blocks of side 2 h -/
def dac (w h : Nat) : Nat := w / h - 1
theorem dac_pos {w h : Nat} (h1 : 0 < h) (h2 : 2 * h ≤ w) : 1 ≤ dac w h := by
  unfold dac
  have : 2 ≤ w / h := (Nat.le_div_iff_mul_le h1).mpr h2
  omega
theorem l_F_across {w h : Nat} (hw : w ≤ 32) (h1 : 0 < h) (h2 : 2 * h ≤ w) : f_F_domainsAcross (nI (2 * w)) (nI (2 * h)) = some (nI (dac w h)) := by
  unfold f_F_domainsAcross dac
  have e : 2 * w / (2 * h) = w / h := Nat.mul_div_mul_left w h (by omega)
  have : 2 ≤ w / h := (Nat.le_div_iff_mul_le h1).mpr h2
  have h3 : w / h ≤ w := Nat.div_le_self w h
  simp (disch := omega) only [n0, n1, n2, n3, n4, n5, n6, n7, n8, n10, n16, n40, n128, n255, n256, n1024, n2000, n2048, nJ_add, nJ_mul, nJ_sub, nJ_leT, nJ_leF, nJ_ltT, nJ_ltF, nJ_eqT, nJ_eqF, nJ_clamp, nJ_div, nM, iM_eqF, iM_eqF2, iM_leF, iM_ltF, iM_leT, iM_ltT, iM_add, iM_add0, natLeF, natLeT, natLtF, natLtT, natEqF, natEqT, if_true, if_false, ite_true, ite_false, false_or, or_false, or_self, Option.bind_some, ↓reduceIte, e]
theorem l_M_domains {w h : Nat} (hw : w ≤ 32) (h1 : 0 < h) (h2 : 2 * h ≤ w) : f_M_domains (nI (2 * h)) (nI (2 * w)) = some (nI (dac w h)) := by
  unfold f_M_domains dac
  have e : (2 * w - 2 * (2 * h)) / (2 * h) = w / h - 2 := by
    rw [Nat.mul_comm 2 (2 * h), Nat.sub_mul_div, Nat.mul_div_mul_left w h (by omega)]
  have : 2 ≤ w / h := (Nat.le_div_iff_mul_le h1).mpr h2
  have h3 : w / h ≤ w := Nat.div_le_self w h
  simp (disch := omega) only [n0, n1, n2, n3, n4, n5, n6, n7, n8, n10, n16, n40, n128, n255, n256, n1024, n2000, n2048, nJ_add, nJ_mul, nJ_sub, nJ_leT, nJ_leF, nJ_ltT, nJ_ltF, nJ_eqT, nJ_eqF, nJ_clamp, nJ_div, nM, iM_eqF, iM_eqF2, iM_leF, iM_ltF, iM_leT, iM_ltT, iM_add, iM_add0, natLeF, natLeT, natLtF, natLtT, natEqF, natEqT, if_true, if_false, ite_true, ite_false, false_or, or_false, or_self, Option.bind_some, ↓reduceIte, e]
  rw [show w / h - 2 + 1 = w / h - 1 by omega]
def domL (w h d : Nat) : Nat := d % dac w h * h
def domT (w h d : Nat) : Nat := d / dac w h * h
theorem dom_in {w h d : Nat} (h1 : 0 < h) (h2 : 2 * h ≤ w) (hd : d < dac w h * dac w h) : domL w h d + 2 * h ≤ w ∧ domT w h d + 2 * h ≤ w := by
  have ha := dac_pos h1 h2
  have hx := modLt hd
  have hy := divLt hd
  have key : ∀ i, i < dac w h → i * h + 2 * h ≤ w := fun i hi => by
    have e : i * h + 2 * h = (i + 2) * h := (Nat.add_mul i 2 h).symm
    rw [e]
    have : i + 2 ≤ w / h := by unfold dac at hi ha; omega
    exact Nat.le_trans (Nat.mul_le_mul_right h this) (Nat.div_mul_le_self w h)
  exact ⟨key _ hx, key _ hy⟩
theorem dom_le {w h d : Nat} (h1 : 0 < h) (h2 : 2 * h ≤ w) (hw : w ≤ 32) (hd : d < dac w h * dac w h) : dac w h ≤ 31 ∧ dac w h * dac w h ≤ 961 ∧ d < 961 := by
  have h3 : w / h ≤ w := Nat.div_le_self w h
  have h4 : dac w h ≤ 31 := by unfold dac; omega
  have h5 : dac w h * dac w h ≤ 31 * 31 := Nat.mul_le_mul h4 h4
  omega
theorem l_V_aim {w h d turn : Nat} {a b c : Int32} (hw : w ≤ 32) (h1 : 0 < h) (h2 : 2 * h ≤ w) (hd : d < dac w h * dac w h) (h8 : turn < 8) :
    f_V_aim (nI (2 * h)) (nI d) (nI turn) a b c (nI w) = some (nI (domL w h d), nI (domT w h d), nI (dcell w (domL w h d) (domT w h d) (2 * h - 1) turn 0 0), nI (dcell w (domL w h d) (domT w h d) (2 * h - 1) turn 1 0) - nI (dcell w (domL w h d) (domT w h d) (2 * h - 1) turn 0 0), nI (dcell w (domL w h d) (domT w h d) (2 * h - 1) turn 0 1) - nI (dcell w (domL w h d) (domT w h d) (2 * h - 1) turn 0 0)) := by
  have ha := dac_pos h1 h2
  obtain ⟨ha2, _, hd2⟩ := dom_le h1 h2 hw hd
  have hle : d / dac w h * dac w h ≤ d := Nat.div_mul_le_self d _
  have e1 : 2 * h / 2 = h := by omega
  have c0 := fun (x y : Nat) (hx : x < 2 * h) (hy : y < 2 * h) => l_V_cellFor (size := 2 * h) (turn := turn) (x := x) (y := y) (left := domL w h d) (top := domT w h d) (w := w) (by omega) hx hy h8
  have c00 := c0 0 0 (by omega) (by omega)
  have c10 := c0 1 0 (by omega) (by omega)
  have c01 := c0 0 1 (by omega) (by omega)
  unfold f_V_aim
  rw [n2, nJ_mul, l_F_across hw h1 h2]
  unfold domL domT at *
  generalize dac w h = A at *
  simp (disch := omega) only [n0, n1, n2, n3, n4, n5, n6, n7, n8, n10, n16, n40, n128, n255, n256, n1024, n2000, n2048, nJ_add, nJ_mul, nJ_sub, nJ_leT, nJ_leF, nJ_ltT, nJ_ltF, nJ_eqT, nJ_eqF, nJ_clamp, nJ_div, nM, iM_eqF, iM_eqF2, iM_leF, iM_ltF, iM_leT, iM_ltT, iM_add, iM_add0, natLeF, natLeT, natLtF, natLtT, natEqF, natEqT, if_true, if_false, ite_true, ite_false, false_or, or_false, or_self, Option.bind_some, ↓reduceIte, modSub, e1, c00, c10, c01]
theorem ofNat_ring {c00 c10 c01 x y z : Nat} (h : (c00 : Int) + x * ((c10 : Int) - c00) + y * ((c01 : Int) - c00) = z) : nI c00 + nI x * (nI c10 - nI c00) + nI y * (nI c01 - nI c00) = nI z := by
  simp only [nJ_int, ← Int32.ofInt_sub, ← Int32.ofInt_mul, ← Int32.ofInt_add, h]
theorem dcell_aff {w left top m turn x y : Nat} (hm : 1 ≤ m) (h8 : turn < 8) (hx : x ≤ m) (hy : y ≤ m) :
    ((dcell w left top m turn 0 0 : Nat) : Int) + x * (((dcell w left top m turn 1 0 : Nat) : Int) - (dcell w left top m turn 0 0 : Nat)) + y * (((dcell w left top m turn 0 1 : Nat) : Int) - (dcell w left top m turn 0 0 : Nat)) = (dcell w left top m turn x y : Nat) := by
  rcases turn8 h8 with rfl | rfl | rfl | rfl | rfl | rfl | rfl | rfl <;> simp only [dcell, srcX, srcY, Int.natCast_add, Int.natCast_mul, Nat.sub_zero, Int.ofNat_sub hm, Int.ofNat_sub hx, Int.ofNat_sub hy] <;> grind
theorem l_V_sample {w left top size turn x y n : Nat} {f : Nat → Int32} (hw : w ≤ 64) (hs : 2 ≤ size) (h8 : turn < 8) (hx : x < size) (hy : y < size) (hl : left + size ≤ w) (ht : top + size ≤ w) (hn : w * w ≤ n) (hn2 : n < 2147483648) :
    f_V_sample (nI x) (nI y) (nI (dcell w left top (size - 1) turn 0 0)) (nI (dcell w left top (size - 1) turn 1 0) - nI (dcell w left top (size - 1) turn 0 0)) (nI (dcell w left top (size - 1) turn 0 1) - nI (dcell w left top (size - 1) turn 0 0)) n f = some (f (dcell w left top (size - 1) turn x y)) := by
  have hc := dcell_lt (w := w) (left := left) (top := top) (m := size - 1) (turn := turn) (x := x) (y := y) h8 (by omega) (by omega) (by omega) (by omega)
  have hw2 := sq64 hw
  unfold f_V_sample
  rw [ofNat_ring (dcell_aff (by omega) h8 (show x ≤ size - 1 by omega) (show y ≤ size - 1 by omega))]
  simp (disch := omega) only [n0, n1, n2, n3, n4, n5, n6, n7, n8, n10, n16, n40, n128, n255, n256, n1024, n2000, n2048, nJ_add, nJ_mul, nJ_sub, nJ_leT, nJ_leF, nJ_ltT, nJ_ltF, nJ_eqT, nJ_eqF, nJ_clamp, nJ_div, nM, iM_eqF, iM_eqF2, iM_leF, iM_ltF, iM_leT, iM_ltT, iM_add, iM_add0, natLeF, natLeT, natLtF, natLtT, natEqF, natEqT, if_true, if_false, ite_true, ite_false, false_or, or_false, or_self, Option.bind_some, ↓reduceIte]
/-- the samples of a turned domain by running number -/
def dmn (q : Nat → Nat) (w h d turn k : Nat) : Nat := q (dcell w (domL w h d) (domT w h d) (2 * h - 1) turn (k % (2 * h)) (k / (2 * h)))
theorem l_M_layDomain {w h d turn m n : Nat} {f g : Nat → Int32} {q : Nat → Nat} (hw : w ≤ 32) (h1 : 0 < h) (h2 : 2 * h ≤ w) (hd : d < dac w h * dac w h) (h8 : turn < 8) (hn : w * w ≤ n) (hm : 2 * h * (2 * h) ≤ m) (hf : ∀ k, k < w * w → f k = nI (q k)) :
    f_M_layDomain (nI (2 * h)) (nI d) (nI turn) (nI (2 * w)) n f m g = some (wr g (fun k => nI (dmn q w h d turn k)) (2 * h * (2 * h))) := by
  have hw2 := sq64 (show 2 * h ≤ 64 by omega)
  have ha := dac_pos h1 h2
  obtain ⟨ha2, _, hd2⟩ := dom_le h1 h2 hw hd
  have hle : d / dac w h * dac w h ≤ d := Nat.div_mul_le_self d _
  obtain ⟨i1, i2⟩ := dom_in h1 h2 hd
  have e0 : 2 * w / 2 = w := by omega
  have e1 : 2 * h * (d % dac w h) / 2 = domL w h d := by
    unfold domL; rw [Nat.mul_assoc, Nat.mul_div_cancel_left _ (by omega), Nat.mul_comm]
  have e2 : 2 * h * (d / dac w h) / 2 = domT w h d := by
    unfold domT; rw [Nat.mul_assoc, Nat.mul_div_cancel_left _ (by omega), Nat.mul_comm]
  have b1 : 2 * h * (d % dac w h) ≤ 64 * 31 := Nat.mul_le_mul (by omega) (by have := modLt hd; omega)
  have b2 : 2 * h * (d / dac w h) ≤ 64 * 31 := Nat.mul_le_mul (by omega) (by have := divLt hd; omega)
  have key := lp_up (L := fun n' (z : Nat → Int32) v => f_M_layDomain_10 (nI (2 * h)) (nI d) (nI turn) (nI (dac w h)) (nI (2 * w)) n f m n' (nI v) z) (st := fun v => wr g (fun k => nI (dmn q w h d turn k)) v) (b := 2 * h * (2 * h)) (fin := (nI (2 * h * (2 * h)), wr g (fun k => nI (dmn q w h d turn k)) (2 * h * (2 * h))))
    (fun n' => by
      show f_M_layDomain_10 _ _ _ _ _ _ _ _ (n' + 1) _ _ = _
      rw [f_M_layDomain_10]
      simp (disch := omega) only [n0, n1, n2, n3, n4, n5, n6, n7, n8, n10, n16, n40, n128, n255, n256, n1024, n2000, n2048, nJ_add, nJ_mul, nJ_sub, nJ_leT, nJ_leF, nJ_ltT, nJ_ltF, nJ_eqT, nJ_eqF, nJ_clamp, nJ_div, nM, iM_eqF, iM_eqF2, iM_leF, iM_ltF, iM_leT, iM_ltT, iM_add, iM_add0, natLeF, natLeT, natLtF, natLtT, natEqF, natEqT, if_true, if_false, ite_true, ite_false, false_or, or_false, or_self, Option.bind_some, ↓reduceIte])
    (fun n' v hv => by
      show f_M_layDomain_10 _ _ _ _ _ _ _ _ (n' + 1) _ _ = f_M_layDomain_10 _ _ _ _ _ _ _ _ n' _ _
      rw [f_M_layDomain_10]
      have hx := modLt hv
      have hy := divLt hv
      have hc := dcell_lt (w := w) (left := domL w h d) (top := domT w h d) (m := 2 * h - 1) (turn := turn) (x := v % (2 * h)) (y := v / (2 * h)) h8 (by omega) (by omega) (by omega) (by omega)
      simp (disch := omega) only [n0, n1, n2, n3, n4, n5, n6, n7, n8, n10, n16, n40, n128, n255, n256, n1024, n2000, n2048, nJ_add, nJ_mul, nJ_sub, nJ_leT, nJ_leF, nJ_ltT, nJ_ltF, nJ_eqT, nJ_eqF, nJ_clamp, nJ_div, nM, iM_eqF, iM_eqF2, iM_leF, iM_ltF, iM_leT, iM_ltT, iM_add, iM_add0, natLeF, natLeT, natLtF, natLtT, natEqF, natEqT, if_true, if_false, ite_true, ite_false, false_or, or_false, or_self, Option.bind_some, ↓reduceIte, modSub, e0, e1, e2]
      rw [l_M_turned (by omega) i1 i2 hn hv h8, hf _ hc]
      simp (disch := omega) only [n0, n1, n2, n3, n4, n5, n6, n7, n8, n10, n16, n40, n128, n255, n256, n1024, n2000, n2048, nJ_add, nJ_mul, nJ_sub, nJ_leT, nJ_leF, nJ_ltT, nJ_ltF, nJ_eqT, nJ_eqF, nJ_clamp, nJ_div, nM, iM_eqF, iM_eqF2, iM_leF, iM_ltF, iM_leT, iM_ltT, iM_add, iM_add0, natLeF, natLeT, natLtF, natLtT, natEqF, natEqT, if_true, if_false, ite_true, ite_false, false_or, or_false, or_self, Option.bind_some, ↓reduceIte]
      rw [← wrS g (fun k => nI (dmn q w h d turn k)) v]
      simp only [dmn])
    FU 0 (Nat.zero_le _) (fu (by omega))
  have key : f_M_layDomain_10 (nI (2 * h)) (nI d) (nI turn) (nI (dac w h)) (nI (2 * w)) n f m FU 0 (wr g (fun k => nI (dmn q w h d turn k)) 0) = _ := key
  rw [wr0] at key
  unfold f_M_layDomain
  rw [l_M_domains hw h1 h2]
  simp only [Option.bind_some]
  rw [key]
  rfl
