/-! quarters and the class of a square -/
theorem sN_half {g : Nat → Nat} {h : Nat} : sN g (2 * h) = sN g h + sN (fun k => g (h + k)) h := by
  rw [show 2 * h = h + h by omega]; exact sN_split g h h
theorem sN_z {g : Nat → Nat} {n : Nat} (e : ∀ k, k < n → g k = 0) : sN g n = 0 := by
  rw [sN_congr (h := fun _ => 0) e]; exact sN_zero n
theorem sQ_z {g : Nat → Nat → Nat} {w h : Nat} (e : ∀ x y, x < w → y < h → g x y = 0) : sQ g w h = 0 := sN_z (fun y hy => sN_z (fun x hx => e x y hx hy))
theorem sQ_four (g : Nat → Nat → Nat) (h : Nat) : sQ g (2 * h) (2 * h) = sQ g h h + sQ (fun x y => g (h + x) y) h h + (sQ (fun x y => g x (h + y)) h h + sQ (fun x y => g (h + x) (h + y)) h h) := by
  unfold sQ
  rw [sN_half]
  congr 1
  · rw [← sN_add]; exact sN_congr (fun y _ => sN_half)
  · rw [← sN_add]; exact sN_congr (fun y _ => sN_half)
/-- the reference's sum of a quarter is the sum of that square -/
theorem quarter_sum (r : Nat → Nat) (h q : Nat) (hq : q < 4) : sN (fun k => if qOf (2 * h) k = q then r k else 0) (2 * h * (2 * h)) = sqS r (2 * h) (q % 2 * h) (q / 2 * h) h := by
  rw [sN_rows, sQ_four]
  unfold sqS
  have e0 : 2 * h / 2 = h := by omega
  have k0 : ∀ x y, x < 2 * h → qOf (2 * h) (y * (2 * h) + x) = (if y < h then 0 else 2) + (if x < h then 0 else 1) := fun x y hx => by
    unfold qOf
    rw [(rowOf hx).1, (rowOf hx).2, e0]
  have A : sQ (fun x y => if qOf (2 * h) (y * (2 * h) + x) = q then r (y * (2 * h) + x) else 0) h h = if q = 0 then sQ (fun x y => r (y * (2 * h) + x)) h h else 0 := by
    split
    · exact sQ_congr (fun x y hx hy => by simp (disch := omega) only [n0, n1, n2, n3, n4, n5, n6, n7, n8, n10, n16, n40, n128, n255, n256, n1024, n2000, n2048, nJ_add, nJ_mul, nJ_sub, nJ_leT, nJ_leF, nJ_ltT, nJ_ltF, nJ_eqT, nJ_eqF, nJ_clamp, nJ_div, nM, iM_eqF, iM_eqF2, iM_leF, iM_ltF, iM_leT, iM_ltT, iM_add, iM_add0, natLeF, natLeT, natLtF, natLtT, natEqF, natEqT, if_true, if_false, ite_true, ite_false, false_or, or_false, or_self, Option.bind_some, ↓reduceIte, k0, Nat.add_zero, Nat.zero_add, Nat.reduceAdd])
    · exact sQ_z (fun x y hx hy => by simp (disch := omega) only [n0, n1, n2, n3, n4, n5, n6, n7, n8, n10, n16, n40, n128, n255, n256, n1024, n2000, n2048, nJ_add, nJ_mul, nJ_sub, nJ_leT, nJ_leF, nJ_ltT, nJ_ltF, nJ_eqT, nJ_eqF, nJ_clamp, nJ_div, nM, iM_eqF, iM_eqF2, iM_leF, iM_ltF, iM_leT, iM_ltT, iM_add, iM_add0, natLeF, natLeT, natLtF, natLtT, natEqF, natEqT, if_true, if_false, ite_true, ite_false, false_or, or_false, or_self, Option.bind_some, ↓reduceIte, k0, Nat.add_zero, Nat.zero_add, Nat.reduceAdd])
  have B : sQ (fun x y => if qOf (2 * h) (y * (2 * h) + (h + x)) = q then r (y * (2 * h) + (h + x)) else 0) h h = if q = 1 then sQ (fun x y => r (y * (2 * h) + (h + x))) h h else 0 := by
    split
    · exact sQ_congr (fun x y hx hy => by simp (disch := omega) only [n0, n1, n2, n3, n4, n5, n6, n7, n8, n10, n16, n40, n128, n255, n256, n1024, n2000, n2048, nJ_add, nJ_mul, nJ_sub, nJ_leT, nJ_leF, nJ_ltT, nJ_ltF, nJ_eqT, nJ_eqF, nJ_clamp, nJ_div, nM, iM_eqF, iM_eqF2, iM_leF, iM_ltF, iM_leT, iM_ltT, iM_add, iM_add0, natLeF, natLeT, natLtF, natLtT, natEqF, natEqT, if_true, if_false, ite_true, ite_false, false_or, or_false, or_self, Option.bind_some, ↓reduceIte, k0, Nat.add_zero, Nat.zero_add, Nat.reduceAdd])
    · exact sQ_z (fun x y hx hy => by simp (disch := omega) only [n0, n1, n2, n3, n4, n5, n6, n7, n8, n10, n16, n40, n128, n255, n256, n1024, n2000, n2048, nJ_add, nJ_mul, nJ_sub, nJ_leT, nJ_leF, nJ_ltT, nJ_ltF, nJ_eqT, nJ_eqF, nJ_clamp, nJ_div, nM, iM_eqF, iM_eqF2, iM_leF, iM_ltF, iM_leT, iM_ltT, iM_add, iM_add0, natLeF, natLeT, natLtF, natLtT, natEqF, natEqT, if_true, if_false, ite_true, ite_false, false_or, or_false, or_self, Option.bind_some, ↓reduceIte, k0, Nat.add_zero, Nat.zero_add, Nat.reduceAdd])
  have C : sQ (fun x y => if qOf (2 * h) ((h + y) * (2 * h) + x) = q then r ((h + y) * (2 * h) + x) else 0) h h = if q = 2 then sQ (fun x y => r ((h + y) * (2 * h) + x)) h h else 0 := by
    split
    · exact sQ_congr (fun x y hx hy => by simp (disch := omega) only [n0, n1, n2, n3, n4, n5, n6, n7, n8, n10, n16, n40, n128, n255, n256, n1024, n2000, n2048, nJ_add, nJ_mul, nJ_sub, nJ_leT, nJ_leF, nJ_ltT, nJ_ltF, nJ_eqT, nJ_eqF, nJ_clamp, nJ_div, nM, iM_eqF, iM_eqF2, iM_leF, iM_ltF, iM_leT, iM_ltT, iM_add, iM_add0, natLeF, natLeT, natLtF, natLtT, natEqF, natEqT, if_true, if_false, ite_true, ite_false, false_or, or_false, or_self, Option.bind_some, ↓reduceIte, k0, Nat.add_zero, Nat.zero_add, Nat.reduceAdd])
    · exact sQ_z (fun x y hx hy => by simp (disch := omega) only [n0, n1, n2, n3, n4, n5, n6, n7, n8, n10, n16, n40, n128, n255, n256, n1024, n2000, n2048, nJ_add, nJ_mul, nJ_sub, nJ_leT, nJ_leF, nJ_ltT, nJ_ltF, nJ_eqT, nJ_eqF, nJ_clamp, nJ_div, nM, iM_eqF, iM_eqF2, iM_leF, iM_ltF, iM_leT, iM_ltT, iM_add, iM_add0, natLeF, natLeT, natLtF, natLtT, natEqF, natEqT, if_true, if_false, ite_true, ite_false, false_or, or_false, or_self, Option.bind_some, ↓reduceIte, k0, Nat.add_zero, Nat.zero_add, Nat.reduceAdd])
  have D : sQ (fun x y => if qOf (2 * h) ((h + y) * (2 * h) + (h + x)) = q then r ((h + y) * (2 * h) + (h + x)) else 0) h h = if q = 3 then sQ (fun x y => r ((h + y) * (2 * h) + (h + x))) h h else 0 := by
    split
    · exact sQ_congr (fun x y hx hy => by simp (disch := omega) only [n0, n1, n2, n3, n4, n5, n6, n7, n8, n10, n16, n40, n128, n255, n256, n1024, n2000, n2048, nJ_add, nJ_mul, nJ_sub, nJ_leT, nJ_leF, nJ_ltT, nJ_ltF, nJ_eqT, nJ_eqF, nJ_clamp, nJ_div, nM, iM_eqF, iM_eqF2, iM_leF, iM_ltF, iM_leT, iM_ltT, iM_add, iM_add0, natLeF, natLeT, natLtF, natLtT, natEqF, natEqT, if_true, if_false, ite_true, ite_false, false_or, or_false, or_self, Option.bind_some, ↓reduceIte, k0, Nat.add_zero, Nat.zero_add, Nat.reduceAdd])
    · exact sQ_z (fun x y hx hy => by simp (disch := omega) only [n0, n1, n2, n3, n4, n5, n6, n7, n8, n10, n16, n40, n128, n255, n256, n1024, n2000, n2048, nJ_add, nJ_mul, nJ_sub, nJ_leT, nJ_leF, nJ_ltT, nJ_ltF, nJ_eqT, nJ_eqF, nJ_clamp, nJ_div, nM, iM_eqF, iM_eqF2, iM_leF, iM_ltF, iM_leT, iM_ltT, iM_add, iM_add0, natLeF, natLeT, natLtF, natLtT, natEqF, natEqT, if_true, if_false, ite_true, ite_false, false_or, or_false, or_self, Option.bind_some, ↓reduceIte, k0, Nat.add_zero, Nat.zero_add, Nat.reduceAdd])
  rw [A, B, C, D]
  have : q = 0 ∨ q = 1 ∨ q = 2 ∨ q = 3 := by omega
  rcases this with rfl | rfl | rfl | rfl <;> simp
theorem l_M_quarter {h n q : Nat} {f : Nat → Int32} {r : Nat → Nat} (hs : h ≤ 32) (hn : 2 * h * (2 * h) ≤ n) (hf : ∀ k, k < 2 * h * (2 * h) → f k = nI (r k)) (hq : q < 4) :
    f_M_quarterSum (nI (2 * h)) (nI q) n f = some (nI (sqS r (2 * h) (q % 2 * h) (q / 2 * h) h)) := by
  rw [l_M_quarterSum (by omega) hn hf hq, quarter_sum r h q hq]
/-- the first of the greatest of four -/
def am (s : Nat → Nat) : Nat := if s 1 ≤ s 0 ∧ s 2 ≤ s 0 ∧ s 3 ≤ s 0 then 0 else if s 2 ≤ s 1 ∧ s 3 ≤ s 1 then 1 else if s 3 ≤ s 2 then 2 else 3
theorem am_lt (s : Nat → Nat) : am s < 4 := by unfold am; split; omega; split; omega; split <;> omega
theorem am_ge (s : Nat → Nat) (q : Nat) (hq : q < 4) : s q ≤ s (am s) := by
  unfold am
  have : q = 0 ∨ q = 1 ∨ q = 2 ∨ q = 3 := by omega
  split
  · rcases this with rfl | rfl | rfl | rfl <;> omega
  · split
    · rcases this with rfl | rfl | rfl | rfl <;> omega
    · split <;> rcases this with rfl | rfl | rfl | rfl <;> omega
theorem fu5 : FU = 1048571 + 5 := rfl
theorem q_across0 : f_F_acrossOf (nI 0) = some (nI 0) := by decide
theorem q_across1 : f_F_acrossOf (nI 1) = some (nI 1) := by decide
theorem q_across2 : f_F_acrossOf (nI 2) = some (nI 0) := by decide
theorem q_across3 : f_F_acrossOf (nI 3) = some (nI 1) := by decide
theorem q_down0 : f_F_downOf (nI 0) = some (nI 0) := by decide
theorem q_down1 : f_F_downOf (nI 1) = some (nI 0) := by decide
theorem q_down2 : f_F_downOf (nI 2) = some (nI 1) := by decide
theorem q_down3 : f_F_downOf (nI 3) = some (nI 1) := by decide
theorem l_across {q : Nat} (hq : q < 4) : f_F_acrossOf (nI q) = some (nI (q % 2)) := by
  have : q = 0 ∨ q = 1 ∨ q = 2 ∨ q = 3 := by omega
  rcases this with rfl | rfl | rfl | rfl <;> decide
theorem l_down {q : Nat} (hq : q < 4) : f_F_downOf (nI q) = some (nI (q / 2)) := by
  have : q = 0 ∨ q = 1 ∨ q = 2 ∨ q = 3 := by omega
  rcases this with rfl | rfl | rfl | rfl <;> decide
/-- the greatest of the first v, and where it is first -/
def amU (s : Nat → Nat) : Nat → Nat
  | 0 => 0
  | v + 1 => if v = 0 then 0 else if s v ≤ s (amU s v) then amU s v else v
theorem amU4 (s : Nat → Nat) : amU s 4 = am s := by
  have h1 : amU s 1 = 0 := rfl
  have h2 : amU s 2 = if s 1 ≤ s 0 then 0 else 1 := rfl
  have h3 : amU s 3 = if s 2 ≤ s (amU s 2) then amU s 2 else 2 := rfl
  have h4 : amU s 4 = if s 3 ≤ s (amU s 3) then amU s 3 else 3 := rfl
  unfold am
  by_cases c1 : s 1 ≤ s 0
  · rw [if_pos c1] at h2
    rw [h2] at h3
    by_cases c2 : s 2 ≤ s 0
    · rw [if_pos c2] at h3
      rw [h3] at h4
      by_cases c3 : s 3 ≤ s 0
      · rw [if_pos c3] at h4; rw [h4, if_pos ⟨c1, c2, c3⟩]
      · rw [if_neg c3] at h4; rw [h4, if_neg (by omega), if_neg (by omega), if_neg (by omega)]
    · rw [if_neg c2] at h3
      rw [h3] at h4
      by_cases c3 : s 3 ≤ s 2
      · rw [if_pos c3] at h4; rw [h4, if_neg (by omega), if_neg (by omega), if_pos c3]
      · rw [if_neg c3] at h4; rw [h4, if_neg (by omega), if_neg (by omega), if_neg (by omega)]
  · rw [if_neg c1] at h2
    rw [h2] at h3
    by_cases c2 : s 2 ≤ s 1
    · rw [if_pos c2] at h3
      rw [h3] at h4
      by_cases c3 : s 3 ≤ s 1
      · rw [if_pos c3] at h4; rw [h4, if_neg (by omega), if_pos ⟨c2, c3⟩]
      · rw [if_neg c3] at h4; rw [h4, if_neg (by omega), if_neg (by omega), if_neg (by omega)]
    · rw [if_neg c2] at h3
      rw [h3] at h4
      by_cases c3 : s 3 ≤ s 2
      · rw [if_pos c3] at h4; rw [h4, if_neg (by omega), if_neg (by omega), if_pos c3]
      · rw [if_neg c3] at h4; rw [h4, if_neg (by omega), if_neg (by omega), if_neg (by omega)]
/-- the quarters' sums of a square -/
def qS (p : Nat → Nat) (s x y h q : Nat) : Nat := sqS p s (x + q % 2 * h) (y + q / 2 * h) h
theorem qmul {q h : Nat} (hq : q < 4) : q % 2 * h + h ≤ 2 * h ∧ q / 2 * h + h ≤ 2 * h := by
  have : q = 0 ∨ q = 1 ∨ q = 2 ∨ q = 3 := by omega
  rcases this with rfl | rfl | rfl | rfl <;> simp <;> omega
theorem qS_le {p : Nat → Nat} {s x y h q : Nat} (hs : s ≤ 64) (hq : q < 4) (hx : x + 2 * h ≤ s) (hy : y + 2 * h ≤ s) (hp : ∀ k, k < s * s → p k ≤ 255) : qS p s x y h q ≤ 261120 := by
  have h1 := qmul (h := h) hq
  unfold qS
  have h2 := sqS_le (p := p) (s := s) (left := x + q % 2 * h) (top := y + q / 2 * h) (size := h) (c := 255) (by omega) (by omega) hp
  have h3 : h * (h * 255) ≤ 32 * (32 * 255) := Nat.mul_le_mul (by omega) (Nat.mul_le_mul (by omega) (Nat.le_refl _))
  omega
theorem amU_le (s : Nat → Nat) : ∀ v, amU s (v + 1) ≤ v
  | 0 => by simp [amU]
  | v + 1 => by
    rw [amU]
    split
    · omega
    · split
      · have := amU_le s v; omega
      · omega
theorem l_G_brightest {s x y h n : Nat} {f : Nat → Int32} {p : Nat → Nat} (hs : s ≤ 64) (hx : x + 2 * h ≤ s) (hy : y + 2 * h ≤ s) (hn : s * s ≤ n) (hf : ∀ k, k < s * s → f k = nI (p k)) (hp : ∀ k, k < s * s → p k ≤ 255) :
    f_G_brightestQuarter (nI x) (nI y) (nI (2 * h)) (nI s) n f = some (nI (am (qS p s x y h))) := by
  have key := lp_up (L := fun n' (a : Int32 × Int32) v => f_G_brightestQuarter_14 (nI x) (nI y) (nI (2 * h)) (nI h) (nI s) n f n' a.1 a.2 (nI v)) (st := fun v => (nI (amU (qS p s x y h) v), if v = 0 then iM else nI (qS p s x y h (amU (qS p s x y h) v)))) (b := 4) (fin := (nI (am (qS p s x y h)), nI (qS p s x y h (am (qS p s x y h))), nI 4))
    (fun n' => by
      show f_G_brightestQuarter_14 _ _ _ _ _ _ _ (n' + 1) _ _ _ = _
      rw [f_G_brightestQuarter_14, amU4]
      simp (disch := omega) only [n0, n1, n2, n3, n4, n5, n6, n7, n8, n10, n16, n40, n128, n255, n256, n1024, n2000, n2048, nJ_add, nJ_mul, nJ_sub, nJ_leT, nJ_leF, nJ_ltT, nJ_ltF, nJ_eqT, nJ_eqF, nJ_clamp, nJ_div, nM, iM_eqF, iM_eqF2, iM_leF, iM_ltF, iM_leT, iM_ltT, iM_add, iM_add0, natLeF, natLeT, natLtF, natLtT, natEqF, natEqT, if_true, if_false, ite_true, ite_false, false_or, or_false, or_self, Option.bind_some, ↓reduceIte])
    (fun n' v hv => by
      show f_G_brightestQuarter_14 _ _ _ _ _ _ _ (n' + 1) _ _ _ = f_G_brightestQuarter_14 _ _ _ _ _ _ _ n' _ _ _
      rw [f_G_brightestQuarter_14, l_across hv, l_down hv]
      have h1 := qmul (h := h) hv
      have hb := qS_le hs hv hx hy hp
      have hS := l_G_sum (left := x + v % 2 * h) (top := y + v / 2 * h) (size := h) hs (by omega) (by omega) hn hf
      have e : sqS p s (x + v % 2 * h) (y + v / 2 * h) h = qS p s x y h v := rfl
      rw [e] at hS
      by_cases c0 : v = 0
      · have e1 : amU (qS p s x y h) (v + 1) = v := by subst c0; rfl
        rw [e1]
        simp (disch := omega) only [n0, n1, n2, n3, n4, n5, n6, n7, n8, n10, n16, n40, n128, n255, n256, n1024, n2000, n2048, nJ_add, nJ_mul, nJ_sub, nJ_leT, nJ_leF, nJ_ltT, nJ_ltF, nJ_eqT, nJ_eqF, nJ_clamp, nJ_div, nM, iM_eqF, iM_eqF2, iM_leF, iM_ltF, iM_leT, iM_ltT, iM_add, iM_add0, natLeF, natLeT, natLtF, natLtT, natEqF, natEqT, if_true, if_false, ite_true, ite_false, false_or, or_false, or_self, Option.bind_some, ↓reduceIte, hS]
      · have hb2 := qS_le hs (show amU (qS p s x y h) v < 4 by
          have := amU_le (qS p s x y h) (v - 1)
          rw [show v - 1 + 1 = v by omega] at this
          omega) hx hy hp
        by_cases c1 : qS p s x y h v ≤ qS p s x y h (amU (qS p s x y h) v)
        · have e2 : amU (qS p s x y h) (v + 1) = amU (qS p s x y h) v := by rw [amU, if_neg c0, if_pos c1]
          rw [e2]
          simp (disch := omega) only [n0, n1, n2, n3, n4, n5, n6, n7, n8, n10, n16, n40, n128, n255, n256, n1024, n2000, n2048, nJ_add, nJ_mul, nJ_sub, nJ_leT, nJ_leF, nJ_ltT, nJ_ltF, nJ_eqT, nJ_eqF, nJ_clamp, nJ_div, nM, iM_eqF, iM_eqF2, iM_leF, iM_ltF, iM_leT, iM_ltT, iM_add, iM_add0, natLeF, natLeT, natLtF, natLtT, natEqF, natEqT, if_true, if_false, ite_true, ite_false, false_or, or_false, or_self, Option.bind_some, ↓reduceIte, hS]
        · have e2 : amU (qS p s x y h) (v + 1) = v := by rw [amU, if_neg c0, if_neg c1]
          rw [e2]
          simp (disch := omega) only [n0, n1, n2, n3, n4, n5, n6, n7, n8, n10, n16, n40, n128, n255, n256, n1024, n2000, n2048, nJ_add, nJ_mul, nJ_sub, nJ_leT, nJ_leF, nJ_ltT, nJ_ltF, nJ_eqT, nJ_eqF, nJ_clamp, nJ_div, nM, iM_eqF, iM_eqF2, iM_leF, iM_ltF, iM_leT, iM_ltT, iM_add, iM_add0, natLeF, natLeT, natLtF, natLtT, natEqF, natEqT, if_true, if_false, ite_true, ite_false, false_or, or_false, or_self, Option.bind_some, ↓reduceIte, hS])
    FU 0 (Nat.zero_le _) (fu (by omega))
  have key : f_G_brightestQuarter_14 (nI x) (nI y) (nI (2 * h)) (nI h) (nI s) n f FU (0 : Int32) ((-1) : Int32) (0 : Int32) = _ := key
  unfold f_G_brightestQuarter
  have e : nI (2 * h) / 2 = nI h := by
    simp (disch := omega) only [n0, n1, n2, n3, n4, n5, n6, n7, n8, n10, n16, n40, n128, n255, n256, n1024, n2000, n2048, nJ_add, nJ_mul, nJ_sub, nJ_leT, nJ_leF, nJ_ltT, nJ_ltF, nJ_eqT, nJ_eqF, nJ_clamp, nJ_div, nM, iM_eqF, iM_eqF2, iM_leF, iM_ltF, iM_leT, iM_ltT, iM_add, iM_add0, natLeF, natLeT, natLtF, natLtT, natEqF, natEqT, if_true, if_false, ite_true, ite_false, false_or, or_false, or_self, Option.bind_some, ↓reduceIte]
  rw [e, key]
  rfl
theorem am_is0 {s : Nat → Nat} (h1 : s 1 ≤ s 0) (h2 : s 2 ≤ s 0) (h3 : s 3 ≤ s 0) : am s = 0 := by unfold am; rw [if_pos ⟨h1, h2, h3⟩]
theorem am_is1 {s : Nat → Nat} (h1 : s 0 < s 1) (h2 : s 2 ≤ s 1) (h3 : s 3 ≤ s 1) : am s = 1 := by unfold am; rw [if_neg (by omega), if_pos ⟨h2, h3⟩]
theorem am_is2 {s : Nat → Nat} (h1 : s 0 < s 2) (h2 : s 1 < s 2) (h3 : s 3 ≤ s 2) : am s = 2 := by unfold am; rw [if_neg (by omega), if_neg (by omega), if_pos h3]
theorem am_is3 {s : Nat → Nat} (h1 : s 0 < s 3) (h2 : s 1 < s 3) (h3 : s 2 < s 3) : am s = 3 := by unfold am; rw [if_neg (by omega), if_neg (by omega), if_neg (by omega)]
theorem l_M_classOf {h n : Nat} {f : Nat → Int32} {r : Nat → Nat} (hs : h ≤ 32) (hn : 2 * h * (2 * h) ≤ n) (hf : ∀ k, k < 2 * h * (2 * h) → f k = nI (r k)) (hr : ∀ k, k < 2 * h * (2 * h) → r k ≤ 255) :
    f_M_classOf (nI (2 * h)) n f = some (nI (am (qS r (2 * h) 0 0 h))) := by
  have Hq : ∀ q, q < 4 → f_M_quarterSum (nI (2 * h)) (nI q) n f = some (nI (qS r (2 * h) 0 0 h q)) := fun q hq => by
    rw [l_M_quarter hs hn hf hq]; unfold qS; rw [Nat.zero_add, Nat.zero_add]
  have B : ∀ q, q < 4 → qS r (2 * h) 0 0 h q ≤ 261120 := fun q hq => qS_le (by omega) hq (by omega) (by omega) hr
  generalize qS r (2 * h) 0 0 h = S at Hq B ⊢
  have b0 := B 0 (by omega)
  have b1 := B 1 (by omega)
  have b2 := B 2 (by omega)
  have b3 := B 3 (by omega)
  have q0 := Hq 0 (by omega)
  have q1 := Hq 1 (by omega)
  have q2 := Hq 2 (by omega)
  have q3 := Hq 3 (by omega)
  clear B Hq
  unfold f_M_classOf
  rw [show FU = 1048572 + 1 + 1 + 1 + 1 from rfl, f_M_classOf_4]
  by_cases c2 : S 2 < S 3
  · by_cases c1 : S 1 < S 3
    · by_cases c0 : S 0 < S 3
      · simp (disch := omega) only [n0, n1, n2, n3, n4, n5, n6, n7, n8, n10, n16, n40, n128, n255, n256, n1024, n2000, n2048, nJ_add, nJ_mul, nJ_sub, nJ_leT, nJ_leF, nJ_ltT, nJ_ltF, nJ_eqT, nJ_eqF, nJ_clamp, nJ_div, nM, iM_eqF, iM_eqF2, iM_leF, iM_ltF, iM_leT, iM_ltT, iM_add, iM_add0, natLeF, natLeT, natLtF, natLtT, natEqF, natEqT, if_true, if_false, ite_true, ite_false, false_or, or_false, or_self, Option.bind_some, ↓reduceIte, q0, q1, q2, q3, Nat.reduceSub, f_M_classOf_4, am_is3 c0 c1 c2]
      · simp (disch := omega) only [n0, n1, n2, n3, n4, n5, n6, n7, n8, n10, n16, n40, n128, n255, n256, n1024, n2000, n2048, nJ_add, nJ_mul, nJ_sub, nJ_leT, nJ_leF, nJ_ltT, nJ_ltF, nJ_eqT, nJ_eqF, nJ_clamp, nJ_div, nM, iM_eqF, iM_eqF2, iM_leF, iM_ltF, iM_leT, iM_ltT, iM_add, iM_add0, natLeF, natLeT, natLtF, natLtT, natEqF, natEqT, if_true, if_false, ite_true, ite_false, false_or, or_false, or_self, Option.bind_some, ↓reduceIte, q0, q1, q2, q3, Nat.reduceSub, f_M_classOf_4, am_is0 (s := S)]
    · by_cases c0 : S 0 < S 1
      · simp (disch := omega) only [n0, n1, n2, n3, n4, n5, n6, n7, n8, n10, n16, n40, n128, n255, n256, n1024, n2000, n2048, nJ_add, nJ_mul, nJ_sub, nJ_leT, nJ_leF, nJ_ltT, nJ_ltF, nJ_eqT, nJ_eqF, nJ_clamp, nJ_div, nM, iM_eqF, iM_eqF2, iM_leF, iM_ltF, iM_leT, iM_ltT, iM_add, iM_add0, natLeF, natLeT, natLtF, natLtT, natEqF, natEqT, if_true, if_false, ite_true, ite_false, false_or, or_false, or_self, Option.bind_some, ↓reduceIte, q0, q1, q2, q3, Nat.reduceSub, f_M_classOf_4, am_is1 (s := S)]
      · simp (disch := omega) only [n0, n1, n2, n3, n4, n5, n6, n7, n8, n10, n16, n40, n128, n255, n256, n1024, n2000, n2048, nJ_add, nJ_mul, nJ_sub, nJ_leT, nJ_leF, nJ_ltT, nJ_ltF, nJ_eqT, nJ_eqF, nJ_clamp, nJ_div, nM, iM_eqF, iM_eqF2, iM_leF, iM_ltF, iM_leT, iM_ltT, iM_add, iM_add0, natLeF, natLeT, natLtF, natLtT, natEqF, natEqT, if_true, if_false, ite_true, ite_false, false_or, or_false, or_self, Option.bind_some, ↓reduceIte, q0, q1, q2, q3, Nat.reduceSub, f_M_classOf_4, am_is0 (s := S)]
  · by_cases c1 : S 1 < S 2
    · by_cases c0 : S 0 < S 2
      · simp (disch := omega) only [n0, n1, n2, n3, n4, n5, n6, n7, n8, n10, n16, n40, n128, n255, n256, n1024, n2000, n2048, nJ_add, nJ_mul, nJ_sub, nJ_leT, nJ_leF, nJ_ltT, nJ_ltF, nJ_eqT, nJ_eqF, nJ_clamp, nJ_div, nM, iM_eqF, iM_eqF2, iM_leF, iM_ltF, iM_leT, iM_ltT, iM_add, iM_add0, natLeF, natLeT, natLtF, natLtT, natEqF, natEqT, if_true, if_false, ite_true, ite_false, false_or, or_false, or_self, Option.bind_some, ↓reduceIte, q0, q1, q2, q3, Nat.reduceSub, f_M_classOf_4, am_is2 (s := S)]
      · simp (disch := omega) only [n0, n1, n2, n3, n4, n5, n6, n7, n8, n10, n16, n40, n128, n255, n256, n1024, n2000, n2048, nJ_add, nJ_mul, nJ_sub, nJ_leT, nJ_leF, nJ_ltT, nJ_ltF, nJ_eqT, nJ_eqF, nJ_clamp, nJ_div, nM, iM_eqF, iM_eqF2, iM_leF, iM_ltF, iM_leT, iM_ltT, iM_add, iM_add0, natLeF, natLeT, natLtF, natLtT, natEqF, natEqT, if_true, if_false, ite_true, ite_false, false_or, or_false, or_self, Option.bind_some, ↓reduceIte, q0, q1, q2, q3, Nat.reduceSub, f_M_classOf_4, am_is0 (s := S)]
    · by_cases c0 : S 0 < S 1
      · simp (disch := omega) only [n0, n1, n2, n3, n4, n5, n6, n7, n8, n10, n16, n40, n128, n255, n256, n1024, n2000, n2048, nJ_add, nJ_mul, nJ_sub, nJ_leT, nJ_leF, nJ_ltT, nJ_ltF, nJ_eqT, nJ_eqF, nJ_clamp, nJ_div, nM, iM_eqF, iM_eqF2, iM_leF, iM_ltF, iM_leT, iM_ltT, iM_add, iM_add0, natLeF, natLeT, natLtF, natLtT, natEqF, natEqT, if_true, if_false, ite_true, ite_false, false_or, or_false, or_self, Option.bind_some, ↓reduceIte, q0, q1, q2, q3, Nat.reduceSub, f_M_classOf_4, am_is1 (s := S)]
      · simp (disch := omega) only [n0, n1, n2, n3, n4, n5, n6, n7, n8, n10, n16, n40, n128, n255, n256, n1024, n2000, n2048, nJ_add, nJ_mul, nJ_sub, nJ_leT, nJ_leF, nJ_ltT, nJ_ltF, nJ_eqT, nJ_eqF, nJ_clamp, nJ_div, nM, iM_eqF, iM_eqF2, iM_leF, iM_ltF, iM_leT, iM_ltT, iM_add, iM_add0, natLeF, natLeT, natLtF, natLtT, natEqF, natEqT, if_true, if_false, ite_true, ite_false, false_or, or_false, or_self, Option.bind_some, ↓reduceIte, q0, q1, q2, q3, Nat.reduceSub, f_M_classOf_4, am_is0 (s := S)]
/-- a block's quarters, laid out, are the picture's -/
theorem qS_blk {p : Nat → Nat} {s x y h q : Nat} (hq : q < 4) : qS (blk p s x y (2 * h)) (2 * h) 0 0 h q = qS p s x y h q := by
  unfold qS sqS
  refine sQ_congr (fun i j hi hj => ?_)
  have h1 := qmul (h := h) hq
  unfold blk
  have hx : 0 + q % 2 * h + i < 2 * h := by omega
  obtain ⟨e1, e2⟩ := rowOf (y := 0 + q / 2 * h + j) hx
  rw [e1, e2]
  congr 1
  rw [Nat.zero_add, Nat.zero_add, Nat.add_assoc (_ * s), Nat.add_assoc x, Nat.add_assoc y]
theorem l_kind {s x y h n m : Nat} {f fm g : Nat → Int32} {p : Nat → Nat} (hs : s ≤ 64) (h1 : h ≤ 8) (hx : x + 2 * h ≤ s) (hy : y + 2 * h ≤ s) (hn : s * s ≤ n) (hf : ∀ k, k < s * s → fm k = nI (p k)) (hp : ∀ k, k < s * s → p k ≤ 255) (hm : 256 ≤ m) :
    ∃ g', f_M_layBlock (nI x) (nI y) (nI (2 * h)) (nI s) n fm m g = some g' ∧ f_M_classOf (nI (2 * h)) m g' = some (nI (am (qS p s x y h))) ∧ (∀ k, k < 2 * h * (2 * h) → g' k = nI (blk p s x y (2 * h) k)) := by
  have hz : 2 * h * (2 * h) ≤ 256 := Nat.mul_le_mul (show 2 * h ≤ 16 by omega) (show 2 * h ≤ 16 by omega)
  have B : ∀ k, k < 2 * h * (2 * h) → blk p s x y (2 * h) k ≤ 255 := fun k hk => by
    unfold blk
    have hx' := modLt hk
    have hy' := divLt hk
    have := ix (x := x + k % (2 * h)) (y := y + k / (2 * h)) (s := s) (by omega) (by omega)
    exact hp _ (by omega)
  refine ⟨_, l_M_layBlock hs hx hy hn (by omega) hf, ?_, fun k hk => wr_lt hk⟩
  rw [l_M_classOf (f := wr g (fun k => nI (blk p s x y (2 * h) k)) (2 * h * (2 * h))) (r := blk p s x y (2 * h)) (by omega) (by omega) (fun k hk => wr_lt hk) B]
  have : am (qS (blk p s x y (2 * h)) (2 * h) 0 0 h) = am (qS p s x y h) := by
    unfold am
    rw [qS_blk (by omega), qS_blk (by omega), qS_blk (by omega), qS_blk (by omega)]
  rw [this]
