/-! small calls, class and reference -/
theorem law_ok {α : Type} {uc qc : Int32} {o v : Int64} {Z : α} (h1 : uc = qc) (h2 : qc = 0 → o = v) : (if uc = qc then (if qc = 0 then (if (0 : Int32) < 0 ∨ 1 ≤ (0 : Int32).toNatClampNeg then none else (if (lg_cmp o v) = 0 then (some Z) else (none))) else (some Z)) else (none)) = some Z := by
  rw [if_pos h1]
  by_cases c : qc = 0
  · rw [if_pos c, if_neg (by decide), if_pos (by rw [cmp_eq0]; exact h2 c)]
  · rw [if_neg c]
theorem updL0 {f : Nat → Int64} {v : Int64} : vp_updL f (0 : Int32).toNatClampNeg v (0 : Int32).toNatClampNeg = v := by simp [vp_updL]
theorem c1_ne : ¬ (1 : Int32) = 0 := by decide
theorem c2_ne : ¬ (2 : Int32) = 0 := by decide
theorem io1 : ¬ ((0 : Int32) < 0 ∨ 1 ≤ (0 : Int32).toNatClampNeg) := by decide
theorem l_isPlace_T {x y s : Nat} (hs : s ≤ 64) (hx : x < s) (hy : y < s) : f_M_isPlace (nI x) (nI y) (nI s) = some 1 := by
  unfold f_M_isPlace
  rw [l_in_T hx (by omega), Option.bind_some, if_neg (by decide), l_in_T hy (by omega), Option.bind_some, if_neg (by decide)]
theorem l_isPlace_F {x y : Int32} {s : Nat} (hs : s ≤ 64) (h : ¬ ∃ a b : Nat, a < s ∧ b < s ∧ x = nI a ∧ y = nI b) : f_M_isPlace x y (nI s) = some 0 := by
  unfold f_M_isPlace
  by_cases c : ∃ a : Nat, a < s ∧ x = nI a
  · obtain ⟨a, ha, rfl⟩ := c
    have h2 : ¬ ∃ b : Nat, b < s ∧ y = nI b := fun ⟨b, hb, e⟩ => h ⟨a, b, ha, hb, rfl, e⟩
    rw [l_in_T ha (by omega), Option.bind_some, if_neg (by decide), l_in_F h2 (by omega), Option.bind_some, if_pos rfl]
  · rw [l_in_F c (by omega), Option.bind_some, if_pos rfl]
/-- bytes that bits fill -/
theorem l_B_bytes {m : Nat} (h : m ≤ 20000) : f_B_bytes (nI m) = some (nI ((m + 7) / 8)) := by
  unfold f_B_bytes
  rw [n8, n1, nJ_add, nJ_sub (by omega), nJ_div (by omega) (by omega)]
  rfl
theorem l_M_bytes {m : Nat} (h : m ≤ 20000) : f_M_bytes (nI m) = some (nI ((m + 7) / 8)) := by
  unfold f_M_bytes
  rw [n8, n7, nJ_add, nJ_div (by omega) (by omega)]
theorem l_B_byteOf {n i : Nat} {f : Nat → Int32} (h : i < n) (hn : n ≤ 2000) : f_B_byteOf (nI i) n f = some (f i) := by
  unfold f_B_byteOf
  simp (disch := omega) only [n0, n1, n2, n3, n4, n5, n6, n7, n8, n10, n16, n40, n128, n255, n256, n1024, n2000, n2048, nJ_add, nJ_mul, nJ_sub, nJ_leT, nJ_leF, nJ_ltT, nJ_ltF, nJ_eqT, nJ_eqF, nJ_clamp, nJ_div, nM, iM_eqF, iM_eqF2, iM_leF, iM_ltF, iM_leT, iM_ltT, iM_add, iM_add0, natLeF, natLeT, natLtF, natLtT, natEqF, natEqT, if_true, if_false, ite_true, ite_false, false_or, or_false, or_self, Option.bind_some, ↓reduceIte]
/-! a byte's eight bits at the end of bytes -/
theorem apN8 {e : Nat → Nat} {N v : Nat} (hv : v ≤ 255) : apN v 8 e (8 * N) = fun i => if i = N then v else e i := by
  funext i
  unfold apN apN apN apN apN apN apN apN apN apB
  have d0 : 8 * N / 8 = N := by omega
  have d1 : (8 * N + 1) / 8 = N := by omega
  have d2 : (8 * N + 1 + 1) / 8 = N := by omega
  have d3 : (8 * N + 1 + 1 + 1) / 8 = N := by omega
  have d4 : (8 * N + 1 + 1 + 1 + 1) / 8 = N := by omega
  have d5 : (8 * N + 1 + 1 + 1 + 1 + 1) / 8 = N := by omega
  have d6 : (8 * N + 1 + 1 + 1 + 1 + 1 + 1) / 8 = N := by omega
  have d7 : (8 * N + 1 + 1 + 1 + 1 + 1 + 1 + 1) / 8 = N := by omega
  have m0 : 8 * N % 8 = 0 := by omega
  have m1 : (8 * N + 1) % 8 = 1 := by omega
  have m2 : (8 * N + 1 + 1) % 8 = 2 := by omega
  have m3 : (8 * N + 1 + 1 + 1) % 8 = 3 := by omega
  have m4 : (8 * N + 1 + 1 + 1 + 1) % 8 = 4 := by omega
  have m5 : (8 * N + 1 + 1 + 1 + 1 + 1) % 8 = 5 := by omega
  have m6 : (8 * N + 1 + 1 + 1 + 1 + 1 + 1) % 8 = 6 := by omega
  have m7 : (8 * N + 1 + 1 + 1 + 1 + 1 + 1 + 1) % 8 = 7 := by omega
  by_cases c : i = N
  · simp only [d0, d1, d2, d3, d4, d5, d6, d7, m0, m1, m2, m3, m4, m5, m6, m7, c, if_true, ↓reduceIte]
    simp
    omega
  · simp only [d0, d1, d2, d3, d4, d5, d6, d7, c, if_false, ↓reduceIte]
theorem fRep_bits {f : Nat → Int32} {g : Nat → Nat} {N : Nat} (h : fRep f g N) : bRep f g (8 * N) ∧ bGood g (8 * N) := by
  refine ⟨fun i hi => (h i (by omega)).1, fun i hi => (h i (by omega)).2, fun hm => absurd (by omega) hm⟩
theorem l_append8 {f : Nat → Int32} {g : Nat → Nat} {N v n : Nat} (h : fRep f g N) (hv : v ≤ 255) (hN : N < n) (hn : n ≤ 2000) : ∃ f', f_B_append (nI v) 8 (nI (8 * N)) n f = some (nI (8 * (N + 1)), f') ∧ fRep f' (fun i => if i = N then v else g i) (N + 1) := by
  obtain ⟨b1, b2⟩ := fRep_bits h
  obtain ⟨f', a1, a2⟩ := l_B_append (num := v) (w := 8) (m := 8 * N) (n := n) (by omega) hn (by omega) b1 b2 (by omega)
  refine ⟨f', a1, fun k hk => ?_⟩
  have := a2 k (by omega)
  rw [apN8 hv] at this
  refine ⟨this, ?_⟩
  dsimp only
  by_cases c : k = N
  · rw [if_pos c]; exact hv
  · rw [if_neg c]; exact (h k (by omega)).2
theorem fRep_upd {f : Nat → Int32} {g : Nat → Nat} {N v : Nat} (h : fRep f g N) (hv : v ≤ 255) : fRep (upd f N (nI v)) (fun i => if i = N then v else g i) (N + 1) := by
  intro k hk
  dsimp only
  by_cases c : k = N
  · rw [if_pos c, updT c]; exact ⟨rfl, hv⟩
  · rw [if_neg c, updF c]; exact h k (by omega)
/-! paint -/
theorem long_of (x : Int32) : x.toInt64 = lI x.toInt := by
  have h1 := x.le_toInt
  have h2 := x.toInt_lt
  have e : x = iI x.toInt := (Int32.ofInt_toInt x).symm
  have := iI_long (z := x.toInt) (by omega) (by omega)
  rw [← e] at this
  exact this
theorem mul_bd {a : Int} {k : Nat} (h1 : -2147483648 ≤ a) (h2 : a < 2147483648) (hk : k ≤ 64) : -137438953472 ≤ a * (k : Int) ∧ a * (k : Int) ≤ 137438953472 := by
  have a1 : a * (k : Int) ≤ 2147483648 * (k : Int) := Int.mul_le_mul_of_nonneg_right (by omega) (by omega)
  have a2 : -2147483648 * (k : Int) ≤ a * (k : Int) := Int.mul_le_mul_of_nonneg_right (by omega) (by omega)
  omega
def pv (v a b : Int) (s k : Nat) : Nat := (clampI 0 255 (v + a * ((k % s : Nat) : Int) + b * ((k / s : Nat) : Int))).toNat
theorem pv_le {v a b : Int} {s k : Nat} : pv v a b s k ≤ 255 := by
  unfold pv
  have := clampI_in (lo := 0) (hi := 255) (z := v + a * ((k % s : Nat) : Int) + b * ((k / s : Nat) : Int)) (by omega)
  omega
theorem pv_eq {v a b : Int} {s k : Nat} : iI (clampI 0 255 (v + a * ((k % s : Nat) : Int) + b * ((k / s : Nat) : Int))) = nI (pv v a b s k) := by
  have := clampI_in (lo := 0) (hi := 255) (z := v + a * ((k % s : Nat) : Int) + b * ((k / s : Nat) : Int)) (by omega)
  unfold pv
  rw [nJ_iI, Int.toNat_of_nonneg this.1]
def pcn (p g : Nat → Nat) : Nat → Nat
  | 0 => 0
  | k + 1 => pcn p g k + (if g k = p k then 0 else 1)
theorem pcn_le (p g : Nat → Nat) (k : Nat) : pcn p g k ≤ k := by
  induction k with
  | zero => exact Nat.le_refl _
  | succ k ih => rw [pcn]; split <;> omega
section
variable {s n : Nat} {f : Nat → Int32} {p : Nat → Nat} {x1 x2 x3 : Int32}
theorem l_F_paint_18 {y : Nat} (hs : s ≤ 64) (hn : s * s ≤ n) (hf : ∀ k, k < s * s → f k = nI (p k)) (hp : ∀ k, k < s * s → p k ≤ 255) (hy : y < s) :
    f_F_paint_18 x1 x2 x3 (nI y) (nI s) (nI s) n FU (nI (pcn p (pv x1.toInt x2.toInt x3.toInt s) (y * s))) 0 (wr f (fun k => nI (pv x1.toInt x2.toInt x3.toInt s k)) (y * s)) = some (nI (pcn p (pv x1.toInt x2.toInt x3.toInt s) ((y + 1) * s)), nI s, wr f (fun k => nI (pv x1.toInt x2.toInt x3.toInt s k)) ((y + 1) * s)) := by
  have key := lp_up (L := fun n' (a : Nat × (Nat → Int32)) v => f_F_paint_18 x1 x2 x3 (nI y) (nI s) (nI s) n n' (nI a.1) (nI v) a.2)
    (st := fun x => (pcn p (pv x1.toInt x2.toInt x3.toInt s) (y * s + x), wr f (fun k => nI (pv x1.toInt x2.toInt x3.toInt s k)) (y * s + x))) (b := s) (fin := (nI (pcn p (pv x1.toInt x2.toInt x3.toInt s) (y * s + s)), nI s, wr f (fun k => nI (pv x1.toInt x2.toInt x3.toInt s k)) (y * s + s)))
    (fun n' => by
      show f_F_paint_18 _ _ _ _ _ _ _ (n' + 1) _ _ _ = _
      rw [f_F_paint_18, if_pos (by rw [nJ_leT (Nat.le_refl _) (by omega)]; exact trivial)])
    (fun n' x hx => by
      show f_F_paint_18 _ _ _ _ _ _ _ (n' + 1) _ _ _ = f_F_paint_18 _ _ _ _ _ _ _ n' _ _ _
      obtain ⟨r1, r2⟩ := rowIdx (y := y) hx
      have hi : y * s + x < s * s := ix hx hy
      have q1 := x1.le_toInt
      have q2 := x1.toInt_lt
      have q3 := mul_bd x2.le_toInt x2.toInt_lt (show x ≤ 64 by omega)
      have q4 := mul_bd x3.le_toInt x3.toInt_lt (show y ≤ 64 by omega)
      have br := l_F_brought (a := x1.toInt + x2.toInt * (x : Int) + x3.toInt * (y : Int)) (lo := 0) (hi := 255) (by omega) (by omega) (by omega) (by omega) (by omega)
      have br : f_F_brought (lI (x1.toInt + x2.toInt * (x : Int) + x3.toInt * (y : Int))) 0 255 = _ := br
      have e5 : iI (clampI 0 255 (x1.toInt + x2.toInt * (x : Int) + x3.toInt * (y : Int))) = nI (pv x1.toInt x2.toInt x3.toInt s (y * s + x)) := by
        have := pv_eq (v := x1.toInt) (a := x2.toInt) (b := x3.toInt) (s := s) (k := y * s + x)
        rw [r1, r2] at this; exact this
      have hv := pv_le (v := x1.toInt) (a := x2.toInt) (b := x3.toInt) (s := s) (k := y * s + x)
      have hpp := hp _ hi
      have e6 : wr f (fun k => nI (pv x1.toInt x2.toInt x3.toInt s k)) (y * s + x) (y * s + x) = nI (p (y * s + x)) := by rw [wr_ge (Nat.le_refl _)]; exact hf _ hi
      have ws := wrS f (fun k => nI (pv x1.toInt x2.toInt x3.toInt s k)) (y * s + x)
      rw [f_F_paint_18, if_neg (by rw [nJ_leF hx (by omega)]; exact not_false)]
      dsimp only
      rw [long_of x1, long_of x2, long_of x3, nJ_long (by omega), nJ_long (by omega), lI_mul, lI_mul, lI_add, lI_add, br, Option.bind_some, lI_int, e5, l_G_sample hs hx hy hn, Option.bind_some, e6, l_G_set hs hx hy hn, Option.bind_some, Option.bind_some]
      rw [ws, show y * s + (x + 1) = y * s + x + 1 by omega, pcn, n1, nJ_add, nJ_add]
      by_cases c : pv x1.toInt x2.toInt x3.toInt s (y * s + x) = p (y * s + x)
      · rw [if_pos (by rw [c]), if_pos c]; rfl
      · rw [if_neg (by rw [nJ_eqF c (by omega) (by omega)]; exact not_false), if_neg c])
    FU 0 (Nat.zero_le _) (fu (by omega))
  have e : (y + 1) * s = y * s + s := by rw [Nat.add_mul, Nat.one_mul]
  rw [e]
  exact key
theorem l_F_paint (hs : s ≤ 64) (hn : s * s ≤ n) (hf : ∀ k, k < s * s → f k = nI (p k)) (hp : ∀ k, k < s * s → p k ≤ 255) :
    f_F_paint x1 x2 x3 (nI s) (nI s) n f = some (nI (pcn p (pv x1.toInt x2.toInt x3.toInt s) (s * s)), wr f (fun k => nI (pv x1.toInt x2.toInt x3.toInt s k)) (s * s)) := by
  have key := lp_up (L := fun n' (a : Nat × (Nat → Int32)) v => f_F_paint_6 x1 x2 x3 (nI s) (nI s) n n' (nI a.1) (nI v) a.2)
    (st := fun y => (pcn p (pv x1.toInt x2.toInt x3.toInt s) (y * s), wr f (fun k => nI (pv x1.toInt x2.toInt x3.toInt s k)) (y * s))) (b := s) (fin := (nI (pcn p (pv x1.toInt x2.toInt x3.toInt s) (s * s)), nI s, wr f (fun k => nI (pv x1.toInt x2.toInt x3.toInt s k)) (s * s)))
    (fun n' => by
      show f_F_paint_6 _ _ _ _ _ _ (n' + 1) _ _ _ = _
      rw [f_F_paint_6, if_pos (by rw [nJ_leT (Nat.le_refl _) (by omega)]; exact trivial)])
    (fun n' y hy => by
      show f_F_paint_6 _ _ _ _ _ _ (n' + 1) _ _ _ = f_F_paint_6 _ _ _ _ _ _ n' _ _ _
      rw [f_F_paint_6, if_neg (by rw [nJ_leF hy (by omega)]; exact not_false)]
      dsimp only
      rw [l_F_paint_18 hs hn hf hp hy, Option.bind_some, n1, nJ_add])
    FU 0 (Nat.zero_le _) (fu (by omega))
  rw [Nat.zero_mul, wr0] at key
  have key : f_F_paint_6 x1 x2 x3 (nI s) (nI s) n FU 0 0 f = _ := key
  unfold f_F_paint
  rw [key]
  rfl
theorem l_M_paint (hs : s ≤ 64) (hs0 : 0 < s) (hn : s * s ≤ n) (hf : ∀ k, k < s * s → f k = nI (p k)) (hp : ∀ k, k < s * s → p k ≤ 255) :
    f_M_paint x1 x2 x3 (nI s) n f = some (nI (pcn p (pv x1.toInt x2.toInt x3.toInt s) (s * s)), 0, wr f (fun k => nI (pv x1.toInt x2.toInt x3.toInt s k)) (s * s)) := by
  have hs2 := sq64 hs
  have cz : ¬ nI s = 0 := by rw [n0, nJ_eqF (by omega) (by omega) (by omega)]; exact not_false
  have key := lp_up (L := fun n' (a : Nat × (Nat → Int32)) v => f_M_paint_11 x1 x2 x3 (nI s) n n' (nI a.1) (nI v) a.2)
    (st := fun y => (pcn p (pv x1.toInt x2.toInt x3.toInt s) y, wr f (fun k => nI (pv x1.toInt x2.toInt x3.toInt s k)) y)) (b := s * s) (fin := (nI (pcn p (pv x1.toInt x2.toInt x3.toInt s) (s * s)), nI (s * s), wr f (fun k => nI (pv x1.toInt x2.toInt x3.toInt s k)) (s * s)))
    (fun n' => by
      show f_M_paint_11 _ _ _ _ _ (n' + 1) _ _ _ = _
      rw [f_M_paint_11, nJ_mul, if_pos (by rw [nJ_leT (Nat.le_refl _) (by omega)]; exact trivial)])
    (fun n' i hi => by
      show f_M_paint_11 _ _ _ _ _ (n' + 1) _ _ _ = f_M_paint_11 _ _ _ _ _ n' _ _ _
      have hx := modLt hi
      have hy := divLt hi
      have q1 := x1.le_toInt
      have q2 := x1.toInt_lt
      have q3 := mul_bd x2.le_toInt x2.toInt_lt (show i % s ≤ 64 by omega)
      have q4 := mul_bd x3.le_toInt x3.toInt_lt (show i / s ≤ 64 by omega)
      have br := l_M_brought (a := x1.toInt + x2.toInt * ((i % s : Nat) : Int) + x3.toInt * ((i / s : Nat) : Int)) (lo := 0) (hi := 255) (by omega) (by omega) (by omega) (by omega) (by omega)
      have br : f_M_brought (lI (x1.toInt + x2.toInt * ((i % s : Nat) : Int) + x3.toInt * ((i / s : Nat) : Int))) 0 255 = _ := br
      have e5 := pv_eq (v := x1.toInt) (a := x2.toInt) (b := x3.toInt) (s := s) (k := i)
      have hv := pv_le (v := x1.toInt) (a := x2.toInt) (b := x3.toInt) (s := s) (k := i)
      have hpp := hp _ hi
      have em : i - i / s * s = i % s := modSub i s
      have ml : i / s * s ≤ i := Nat.div_mul_le_self i s
      have e6 : wr f (fun k => nI (pv x1.toInt x2.toInt x3.toInt s k)) i i = nI (p i) := by rw [wr_ge (Nat.le_refl _)]; exact hf _ hi
      have ws := wrS f (fun k => nI (pv x1.toInt x2.toInt x3.toInt s k)) i
      have ii : ¬ (nI i < 0 ∨ n ≤ i) := by rw [n0, nJ_ltF (by omega) (by omega), false_or]; omega
      have cl : (nI i).toNatClampNeg = i := nJ_clamp (by omega)
      have e7 : x2.toInt * ((i % s : Nat) : Int) + x3.toInt * ((i / s : Nat) : Int) + x1.toInt = x1.toInt + x2.toInt * ((i % s : Nat) : Int) + x3.toInt * ((i / s : Nat) : Int) := by omega
      rw [f_M_paint_11, nJ_mul, if_neg (by rw [nJ_leF hi (by omega)]; exact not_false), if_neg cz, if_neg cz]
      dsimp only
      rw [nJ_div (by omega) (by omega), nJ_mul, nJ_sub ml, em, long_of x1, long_of x2, long_of x3, nJ_long (by omega), nJ_long (by omega), lI_mul, lI_mul, lI_add, lI_add, e7, br, Option.bind_some, e5, cl, if_neg ii, if_neg ii, if_neg ii, ws, pcn, n1, n0, nJ_add, nJ_add, nJ_add]
      by_cases c : pv x1.toInt x2.toInt x3.toInt s i = p i
      · rw [if_pos (by rw [e6, c]), if_pos c]
      · rw [if_neg (by rw [e6, nJ_eqF c (by omega) (by omega)]; exact not_false), if_neg c])
    FU 0 (Nat.zero_le _) (fu (by omega))
  rw [wr0] at key
  have key : f_M_paint_11 x1 x2 x3 (nI s) n FU 0 0 f = _ := key
  unfold f_M_paint
  rw [key]
  rfl
end
