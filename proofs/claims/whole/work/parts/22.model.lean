/-! the reference's pictures -/
theorem cmp_lt0 (x y : Int64) : (lg_cmp x y < 0) = (x < y) := by
  unfold lg_cmp
  by_cases h : y < x
  · rw [if_pos h, eq_iff_iff]; exact ⟨fun e => absurd e (by decide), fun e => absurd (Int64.lt_trans h e) Int64.lt_irrefl⟩
  · rw [if_neg h]
    by_cases e : x = y
    · subst e; rw [if_pos rfl, eq_iff_iff]; exact ⟨fun e => absurd e (by decide), fun e => absurd e h⟩
    · rw [if_neg e, eq_iff_iff]; exact ⟨fun _ => by rw [Int64.lt_iff_toInt_lt] at h ⊢; have : x.toInt ≠ y.toInt := fun q => e (Int64.toInt_inj.mp q); omega, fun _ => by decide⟩
theorem cmp_gt0 (x y : Int64) : (0 < lg_cmp x y) = (y < x) := by
  unfold lg_cmp
  by_cases h : y < x
  · rw [if_pos h, eq_iff_iff]; exact ⟨fun _ => h, fun _ => by decide⟩
  · rw [if_neg h]
    by_cases e : x = y
    · subst e; rw [if_pos rfl, eq_iff_iff]; exact ⟨fun e => absurd e (by decide), fun e => absurd e h⟩
    · rw [if_neg e, eq_iff_iff]; exact ⟨fun e => absurd e (by decide), fun e => absurd e h⟩
theorem cmp_ge0 (x y : Int64) : (0 ≤ lg_cmp x y) = (y ≤ x) := by
  have h := cmp_lt0 x y
  rw [eq_iff_iff] at h ⊢
  rw [Int32.le_iff_toInt_le, Int64.le_iff_toInt_le]
  rw [Int32.lt_iff_toInt_lt, Int64.lt_iff_toInt_lt] at h
  omega
theorem cmp_le0 (x y : Int64) : (lg_cmp x y ≤ 0) = (x ≤ y) := by
  have h := cmp_gt0 x y
  rw [eq_iff_iff] at h ⊢
  rw [Int32.le_iff_toInt_le, Int64.le_iff_toInt_le]
  rw [Int32.lt_iff_toInt_lt, Int64.lt_iff_toInt_lt] at h
  omega
theorem cmp_eq0 (x y : Int64) : (lg_cmp x y = 0) = (x = y) := by
  unfold lg_cmp
  by_cases h : y < x
  · rw [if_pos h, eq_iff_iff]; exact ⟨fun e => absurd e (by decide), fun e => absurd h (by rw [e]; exact Int64.lt_irrefl)⟩
  · rw [if_neg h]
    by_cases e : x = y
    · rw [if_pos e, eq_iff_iff]; exact ⟨fun _ => e, fun _ => rfl⟩
    · rw [if_neg e, eq_iff_iff]; exact ⟨fun q => absurd q (by decide), fun q => absurd q e⟩
theorem nJ_m1 {m : Nat} (hm : m < 2147483648) : (nI m - 1).toInt = (m : Int) - 1 := by
  have : nI m - 1 = Int32.ofInt ((m : Int) - 1) := by rw [Int32.ofInt_sub, nJ_int]; rfl
  rw [this]; exact Int32.toInt_ofInt_of_le (by omega) (by omega)
theorem l_in_T {a m : Nat} (h : a < m) (hm : m < 2147483648) : f_M_in (nI a).toInt64 0 (nI m - 1).toInt64 = some 1 := by
  unfold f_M_in
  simp only [cmp_lt0, cmp_gt0]
  rw [if_neg, if_neg]
  · rw [Int64.lt_iff_toInt_lt, Int32.toInt_toInt64, Int32.toInt_toInt64, nJ_m1 hm, nJ_toInt (by omega)]; omega
  · rw [Int64.lt_iff_toInt_lt, Int32.toInt_toInt64, nJ_toInt (by omega)]
    have : (0 : Int64).toInt = 0 := rfl
    omega
theorem l_in_F {u : Int32} {m : Nat} (h : ¬ ∃ a : Nat, a < m ∧ u = nI a) (hm : m < 2147483648) : f_M_in u.toInt64 0 (nI m - 1).toInt64 = some 0 := by
  unfold f_M_in
  simp only [cmp_lt0, cmp_gt0]
  obtain h1 | ⟨a, ha, rfl⟩ := nJ_case u
  · rw [if_pos]
    rw [Int64.lt_iff_toInt_lt, Int32.toInt_toInt64]
    rw [Int32.lt_iff_toInt_lt] at h1
    exact h1
  · have h2 : ¬ a < m := fun q => h ⟨a, q, rfl⟩
    split
    · rfl
    · rw [if_pos]
      rw [Int64.lt_iff_toInt_lt, Int32.toInt_toInt64, Int32.toInt_toInt64, nJ_m1 hm, nJ_toInt ha]; omega
theorem L255 : (255 : Int64) = (nI 256 - 1).toInt64 := by decide
theorem L7 : (7 : Int64) = (nI 8 - 1).toInt64 := by decide
theorem modSub (v w : Nat) : v - v / w * w = v % w := by
  have := Nat.div_add_mod v w
  rw [Nat.mul_comm] at this; omega
theorem divLt {v w h : Nat} (hv : v < w * h) : v / w < h := Nat.div_lt_of_lt_mul hv
theorem modLt {v w h : Nat} (hv : v < w * h) : v % w < w := Nat.mod_lt _ (by rcases Nat.eq_zero_or_pos w with e | e; subst e; simp at hv; exact e)
theorem l_M_halve {s w m n : Nat} {f g : Nat → Int32} {p : Nat → Nat} (hs : s ≤ 64) (hw : s / 2 = w) (hn : s * s ≤ n) (hm : w * w ≤ m) (hf : ∀ k, k < s * s → f k = nI (p k)) (hp : ∀ k, k < s * s → p k ≤ 255) :
    f_M_halve (nI s) n f m g = some (wr g (fun k => nI (hlf p s k)) (w * w)) := by
  have hw2 := sq64 (show w ≤ 64 by omega)
  have hs2 := sq64 hs
  have key := lp_up (L := fun n' (h : Nat → Int32) v => f_M_halve_7 (nI s) (nI w) n f m n' (nI v) h) (st := fun v => wr g (fun k => nI (hlf p s k)) v) (b := w * w) (fin := (nI (w * w), wr g (fun k => nI (hlf p s k)) (w * w)))
    (fun n' => by
      show f_M_halve_7 _ _ _ _ _ (n' + 1) _ _ = _
      rw [f_M_halve_7]
      simp (disch := omega) only [n0, n1, n2, n3, n4, n5, n6, n7, n8, n10, n16, n40, n128, n255, n256, n1024, n2000, n2048, nJ_add, nJ_mul, nJ_sub, nJ_leT, nJ_leF, nJ_ltT, nJ_ltF, nJ_eqT, nJ_eqF, nJ_clamp, nJ_div, nM, iM_eqF, iM_eqF2, iM_leF, iM_ltF, iM_leT, iM_ltT, iM_add, iM_add0, natLeF, natLeT, natLtF, natLtT, natEqF, natEqT, if_true, if_false, ite_true, ite_false, false_or, or_false, or_self, Option.bind_some, ↓reduceIte])
    (fun n' v hv => by
      show f_M_halve_7 _ _ _ _ _ (n' + 1) _ _ = f_M_halve_7 _ _ _ _ _ n' _ _
      rw [f_M_halve_7]
      have hd : v / w * w ≤ v := Nat.div_mul_le_self v w
      have hx := modLt hv
      have hy := divLt hv
      have hw0 : 0 < w := by omega
      have h1 : 2 * (v / w) * s + 2 * (v % w) < s * s := ix (by omega) (by omega)
      have h2 : 2 * (v / w) * s + 2 * (v % w) + 1 < s * s := ix (x := 2 * (v % w) + 1) (y := 2 * (v / w)) (by omega) (by omega)
      have h4 : (2 * (v / w) + 1) * s + (2 * (v % w) + 1) < s * s := ix (by omega) (by omega)
      rw [Nat.add_mul] at h4
      have h3 : 2 * (v / w) * s + 2 * (v % w) + s < s * s := by omega
      have h4 : 2 * (v / w) * s + 2 * (v % w) + s + 1 < s * s := by omega
      have b1 := hp _ h1
      have b2 := hp _ h2
      have b3 := hp _ h3
      have b4 := hp _ h4
      simp (disch := omega) only [n0, n1, n2, n3, n4, n5, n6, n7, n8, n10, n16, n40, n128, n255, n256, n1024, n2000, n2048, nJ_add, nJ_mul, nJ_sub, nJ_leT, nJ_leF, nJ_ltT, nJ_ltF, nJ_eqT, nJ_eqF, nJ_clamp, nJ_div, nM, iM_eqF, iM_eqF2, iM_leF, iM_ltF, iM_leT, iM_ltT, iM_add, iM_add0, natLeF, natLeT, natLtF, natLtT, natEqF, natEqT, if_true, if_false, ite_true, ite_false, false_or, or_false, or_self, Option.bind_some, ↓reduceIte, modSub, hf]
      rw [← wrS g (fun k => nI (hlf p s k)) v]
      simp only [hlf, hw])
    FU 0 (Nat.zero_le _) (fu (by omega))
  have key : f_M_halve_7 (nI s) (nI w) n f m FU 0 (wr g (fun k => nI (hlf p s k)) 0) = some (nI (w * w), wr g (fun k => nI (hlf p s k)) (w * w)) := key
  rw [wr0] at key
  unfold f_M_halve
  have e : nI s / 2 = nI w := by simp (disch := omega) only [n0, n1, n2, n3, n4, n5, n6, n7, n8, n10, n16, n40, n128, n255, n256, n1024, n2000, n2048, nJ_add, nJ_mul, nJ_sub, nJ_leT, nJ_leF, nJ_ltT, nJ_ltF, nJ_eqT, nJ_eqF, nJ_clamp, nJ_div, nM, iM_eqF, iM_eqF2, iM_leF, iM_ltF, iM_leT, iM_ltT, iM_add, iM_add0, natLeF, natLeT, natLtF, natLtT, natEqF, natEqT, if_true, if_false, ite_true, ite_false, false_or, or_false, or_self, Option.bind_some, ↓reduceIte, hw]
  rw [e, key]
  rfl
/-- a block's samples by running number -/
def blk (p : Nat → Nat) (s x y size k : Nat) : Nat := p ((y + k / size) * s + x + k % size)
theorem l_M_layBlock {s x y size m n : Nat} {f g : Nat → Int32} {p : Nat → Nat} (hs : s ≤ 64) (hx : x + size ≤ s) (hy : y + size ≤ s) (hn : s * s ≤ n) (hm : size * size ≤ m) (hf : ∀ k, k < s * s → f k = nI (p k)) :
    f_M_layBlock (nI x) (nI y) (nI size) (nI s) n f m g = some (wr g (fun k => nI (blk p s x y size k)) (size * size)) := by
  have hw2 := sq64 (show size ≤ 64 by omega)
  have hs2 := sq64 hs
  have key := lp_up (L := fun n' (h : Nat → Int32) v => f_M_layBlock_3 (nI x) (nI y) (nI size) (nI s) n f m n' (nI v) h) (st := fun v => wr g (fun k => nI (blk p s x y size k)) v) (b := size * size) (fin := (nI (size * size), wr g (fun k => nI (blk p s x y size k)) (size * size)))
    (fun n' => by
      show f_M_layBlock_3 _ _ _ _ _ _ _ (n' + 1) _ _ = _
      rw [f_M_layBlock_3]
      simp (disch := omega) only [n0, n1, n2, n3, n4, n5, n6, n7, n8, n10, n16, n40, n128, n255, n256, n1024, n2000, n2048, nJ_add, nJ_mul, nJ_sub, nJ_leT, nJ_leF, nJ_ltT, nJ_ltF, nJ_eqT, nJ_eqF, nJ_clamp, nJ_div, nM, iM_eqF, iM_eqF2, iM_leF, iM_ltF, iM_leT, iM_ltT, iM_add, iM_add0, natLeF, natLeT, natLtF, natLtT, natEqF, natEqT, if_true, if_false, ite_true, ite_false, false_or, or_false, or_self, Option.bind_some, ↓reduceIte])
    (fun n' v hv => by
      show f_M_layBlock_3 _ _ _ _ _ _ _ (n' + 1) _ _ = f_M_layBlock_3 _ _ _ _ _ _ _ n' _ _
      rw [f_M_layBlock_3]
      have hd : v / size * size ≤ v := Nat.div_mul_le_self v size
      have hx' := modLt hv
      have hy' := divLt hv
      have h1 : (y + v / size) * s + (x + v % size) < s * s := ix (by omega) (by omega)
      have h1 : (y + v / size) * s + x + v % size < s * s := by omega
      simp (disch := omega) only [n0, n1, n2, n3, n4, n5, n6, n7, n8, n10, n16, n40, n128, n255, n256, n1024, n2000, n2048, nJ_add, nJ_mul, nJ_sub, nJ_leT, nJ_leF, nJ_ltT, nJ_ltF, nJ_eqT, nJ_eqF, nJ_clamp, nJ_div, nM, iM_eqF, iM_eqF2, iM_leF, iM_ltF, iM_leT, iM_ltT, iM_add, iM_add0, natLeF, natLeT, natLtF, natLtT, natEqF, natEqT, if_true, if_false, ite_true, ite_false, false_or, or_false, or_self, Option.bind_some, ↓reduceIte, modSub, hf]
      rw [← wrS g (fun k => nI (blk p s x y size k)) v]
      simp only [blk])
    FU 0 (Nat.zero_le _) (fu (by omega))
  have key : f_M_layBlock_3 (nI x) (nI y) (nI size) (nI s) n f m FU 0 (wr g (fun k => nI (blk p s x y size k)) 0) = some (nI (size * size), wr g (fun k => nI (blk p s x y size k)) (size * size)) := key
  rw [wr0] at key
  unfold f_M_layBlock
  rw [key]
  rfl
def qOf (size k : Nat) : Nat := (if k / size < size / 2 then 0 else 2) + (if k % size < size / 2 then 0 else 1)
theorem l_M_quarterSum {size n q : Nat} {f : Nat → Int32} {r : Nat → Nat} (hs : size ≤ 64) (hn : size * size ≤ n) (hf : ∀ k, k < size * size → f k = nI (r k)) (hq : q < 4) :
    f_M_quarterSum (nI size) (nI q) n f = some (nI (sN (fun k => if qOf size k = q then r k else 0) (size * size))) := by
  have hs2 := sq64 hs
  have key := lp_up (L := fun n' (a : Nat) v => f_M_quarterSum_5 (nI size) (nI q) n f n' (nI a) (nI v)) (st := fun v => sN (fun k => if qOf size k = q then r k else 0) v) (b := size * size) (fin := (nI (sN (fun k => if qOf size k = q then r k else 0) (size * size)), nI (size * size)))
    (fun n' => by
      show f_M_quarterSum_5 _ _ _ _ (n' + 1) _ _ = _
      rw [f_M_quarterSum_5]
      simp (disch := omega) only [n0, n1, n2, n3, n4, n5, n6, n7, n8, n10, n16, n40, n128, n255, n256, n1024, n2000, n2048, nJ_add, nJ_mul, nJ_sub, nJ_leT, nJ_leF, nJ_ltT, nJ_ltF, nJ_eqT, nJ_eqF, nJ_clamp, nJ_div, nM, iM_eqF, iM_eqF2, iM_leF, iM_ltF, iM_leT, iM_ltT, iM_add, iM_add0, natLeF, natLeT, natLtF, natLtT, natEqF, natEqT, if_true, if_false, ite_true, ite_false, false_or, or_false, or_self, Option.bind_some, ↓reduceIte])
    (fun n' v hv => by
      show f_M_quarterSum_5 _ _ _ _ (n' + 1) _ _ = f_M_quarterSum_5 _ _ _ _ n' _ _
      rw [f_M_quarterSum_5]
      have hd : v / size * size ≤ v := Nat.div_mul_le_self v size
      have hx' := modLt hv
      have hy' := divLt hv
      have e : sN (fun k => if qOf size k = q then r k else 0) (v + 1) = sN (fun k => if qOf size k = q then r k else 0) v + (if qOf size v = q then r v else 0) := rfl
      rw [e]
      generalize sN (fun k => if qOf size k = q then r k else 0) v = a
      unfold qOf
      by_cases c1 : v / size < size / 2 <;> by_cases c2 : v % size < size / 2
      · by_cases c : q = 0
        · subst c
          simp (disch := omega) only [n0, n1, n2, n3, n4, n5, n6, n7, n8, n10, n16, n40, n128, n255, n256, n1024, n2000, n2048, nJ_add, nJ_mul, nJ_sub, nJ_leT, nJ_leF, nJ_ltT, nJ_ltF, nJ_eqT, nJ_eqF, nJ_clamp, nJ_div, nM, iM_eqF, iM_eqF2, iM_leF, iM_ltF, iM_leT, iM_ltT, iM_add, iM_add0, natLeF, natLeT, natLtF, natLtT, natEqF, natEqT, if_true, if_false, ite_true, ite_false, false_or, or_false, or_self, Option.bind_some, ↓reduceIte, modSub, hf, Nat.add_zero, Nat.zero_add, Nat.reduceAdd, eq_self]
        · simp (disch := omega) only [n0, n1, n2, n3, n4, n5, n6, n7, n8, n10, n16, n40, n128, n255, n256, n1024, n2000, n2048, nJ_add, nJ_mul, nJ_sub, nJ_leT, nJ_leF, nJ_ltT, nJ_ltF, nJ_eqT, nJ_eqF, nJ_clamp, nJ_div, nM, iM_eqF, iM_eqF2, iM_leF, iM_ltF, iM_leT, iM_ltT, iM_add, iM_add0, natLeF, natLeT, natLtF, natLtT, natEqF, natEqT, if_true, if_false, ite_true, ite_false, false_or, or_false, or_self, Option.bind_some, ↓reduceIte, modSub, hf, Nat.add_zero, Nat.zero_add, Nat.reduceAdd]
      · by_cases c : q = 1
        · subst c
          simp (disch := omega) only [n0, n1, n2, n3, n4, n5, n6, n7, n8, n10, n16, n40, n128, n255, n256, n1024, n2000, n2048, nJ_add, nJ_mul, nJ_sub, nJ_leT, nJ_leF, nJ_ltT, nJ_ltF, nJ_eqT, nJ_eqF, nJ_clamp, nJ_div, nM, iM_eqF, iM_eqF2, iM_leF, iM_ltF, iM_leT, iM_ltT, iM_add, iM_add0, natLeF, natLeT, natLtF, natLtT, natEqF, natEqT, if_true, if_false, ite_true, ite_false, false_or, or_false, or_self, Option.bind_some, ↓reduceIte, modSub, hf, Nat.add_zero, Nat.zero_add, Nat.reduceAdd, eq_self]
        · simp (disch := omega) only [n0, n1, n2, n3, n4, n5, n6, n7, n8, n10, n16, n40, n128, n255, n256, n1024, n2000, n2048, nJ_add, nJ_mul, nJ_sub, nJ_leT, nJ_leF, nJ_ltT, nJ_ltF, nJ_eqT, nJ_eqF, nJ_clamp, nJ_div, nM, iM_eqF, iM_eqF2, iM_leF, iM_ltF, iM_leT, iM_ltT, iM_add, iM_add0, natLeF, natLeT, natLtF, natLtT, natEqF, natEqT, if_true, if_false, ite_true, ite_false, false_or, or_false, or_self, Option.bind_some, ↓reduceIte, modSub, hf, Nat.add_zero, Nat.zero_add, Nat.reduceAdd]
      · by_cases c : q = 2
        · subst c
          simp (disch := omega) only [n0, n1, n2, n3, n4, n5, n6, n7, n8, n10, n16, n40, n128, n255, n256, n1024, n2000, n2048, nJ_add, nJ_mul, nJ_sub, nJ_leT, nJ_leF, nJ_ltT, nJ_ltF, nJ_eqT, nJ_eqF, nJ_clamp, nJ_div, nM, iM_eqF, iM_eqF2, iM_leF, iM_ltF, iM_leT, iM_ltT, iM_add, iM_add0, natLeF, natLeT, natLtF, natLtT, natEqF, natEqT, if_true, if_false, ite_true, ite_false, false_or, or_false, or_self, Option.bind_some, ↓reduceIte, modSub, hf, Nat.add_zero, Nat.zero_add, Nat.reduceAdd, eq_self]
        · simp (disch := omega) only [n0, n1, n2, n3, n4, n5, n6, n7, n8, n10, n16, n40, n128, n255, n256, n1024, n2000, n2048, nJ_add, nJ_mul, nJ_sub, nJ_leT, nJ_leF, nJ_ltT, nJ_ltF, nJ_eqT, nJ_eqF, nJ_clamp, nJ_div, nM, iM_eqF, iM_eqF2, iM_leF, iM_ltF, iM_leT, iM_ltT, iM_add, iM_add0, natLeF, natLeT, natLtF, natLtT, natEqF, natEqT, if_true, if_false, ite_true, ite_false, false_or, or_false, or_self, Option.bind_some, ↓reduceIte, modSub, hf, Nat.add_zero, Nat.zero_add, Nat.reduceAdd]
      · by_cases c : q = 3
        · subst c
          simp (disch := omega) only [n0, n1, n2, n3, n4, n5, n6, n7, n8, n10, n16, n40, n128, n255, n256, n1024, n2000, n2048, nJ_add, nJ_mul, nJ_sub, nJ_leT, nJ_leF, nJ_ltT, nJ_ltF, nJ_eqT, nJ_eqF, nJ_clamp, nJ_div, nM, iM_eqF, iM_eqF2, iM_leF, iM_ltF, iM_leT, iM_ltT, iM_add, iM_add0, natLeF, natLeT, natLtF, natLtT, natEqF, natEqT, if_true, if_false, ite_true, ite_false, false_or, or_false, or_self, Option.bind_some, ↓reduceIte, modSub, hf, Nat.add_zero, Nat.zero_add, Nat.reduceAdd, eq_self]
        · simp (disch := omega) only [n0, n1, n2, n3, n4, n5, n6, n7, n8, n10, n16, n40, n128, n255, n256, n1024, n2000, n2048, nJ_add, nJ_mul, nJ_sub, nJ_leT, nJ_leF, nJ_ltT, nJ_ltF, nJ_eqT, nJ_eqF, nJ_clamp, nJ_div, nM, iM_eqF, iM_eqF2, iM_leF, iM_ltF, iM_leT, iM_ltT, iM_add, iM_add0, natLeF, natLeT, natLtF, natLtT, natEqF, natEqT, if_true, if_false, ite_true, ite_false, false_or, or_false, or_self, Option.bind_some, ↓reduceIte, modSub, hf, Nat.add_zero, Nat.zero_add, Nat.reduceAdd])
    FU 0 (Nat.zero_le _) (fu (by omega))
  have key : f_M_quarterSum_5 (nI size) (nI q) n f FU (0 : Int32) (0 : Int32) = _ := key
  unfold f_M_quarterSum
  rw [key]
  rfl
