/-! reading bits -/
/-- bit i of bytes g, the highest of a byte first -/
def bt (g : Nat → Nat) (i : Nat) : Nat := g (i / 8) / 2 ^ (7 - i % 8) % 2
/-- the number of k bits from place t -/
def tk (g : Nat → Nat) (t : Nat) : Nat → Nat
  | 0 => 0
  | k + 1 => 2 * tk g t k + bt g (t + k)
def fRep (f : Nat → Int32) (g : Nat → Nat) (N : Nat) : Prop := ∀ k, k < N → f k = nI (g k) ∧ g k ≤ 255
theorem bt_lt (g : Nat → Nat) (i : Nat) : bt g i < 2 := Nat.mod_lt _ (by omega)
theorem tk_lt (g : Nat → Nat) (t k : Nat) : tk g t k < 2 ^ k := by
  induction k with
  | zero => exact Nat.zero_lt_one
  | succ k ih =>
    have := bt_lt g (t + k)
    rw [tk, Nat.pow_succ]
    omega
theorem tk_lt10 (g : Nat → Nat) (t : Nat) {k : Nat} (h : k ≤ 10) : tk g t k < 1024 := Nat.lt_of_lt_of_le (tk_lt g t k) (Nat.pow_le_pow_right (n := 2) (by omega) h : 2 ^ k ≤ 2 ^ 10)
section
variable {g : Nat → Nat} {f : Nat → Int32} {N n : Nat}
theorem l_B_bitAt {i : Nat} (hi : i < 8 * N) (hN : N ≤ n) (hn : n ≤ 2000) (hr : fRep f g N) : f_B_bitAt (nI i) n f = some (nI (bt g i)) := by
  obtain ⟨h1, h2⟩ := hr (i / 8) (by omega)
  have em : i - i / 8 * 8 = i % 8 := modSub i 8
  have sb := shr_bits (7 - i % 8) (by omega) (g (i / 8)) (by omega)
  unfold f_B_bitAt f_B_byteOf bt
  simp (disch := omega) only [n0, n1, n2, n3, n4, n5, n6, n7, n8, n10, n16, n40, n128, n255, n256, n1024, n2000, n2048, nJ_add, nJ_mul, nJ_sub, nJ_leT, nJ_leF, nJ_ltT, nJ_ltF, nJ_eqT, nJ_eqF, nJ_clamp, nJ_div, nM, iM_eqF, iM_eqF2, iM_leF, iM_ltF, iM_leT, iM_ltT, iM_add, iM_add0, natLeF, natLeT, natLtF, natLtT, natEqF, natEqT, if_true, if_false, ite_true, ite_false, false_or, or_false, or_self, Option.bind_some, ↓reduceIte, em, h1]
  rw [← sb]
theorem l_M_bitAt {i : Nat} (hi : i < 8 * N) (hN : N ≤ n) (hn : n ≤ 2000) (hr : fRep f g N) : f_M_bitAt (nI i) n f = some (nI (bt g i)) := by
  obtain ⟨h1, h2⟩ := hr (i / 8) (by omega)
  have em : i - i / 8 * 8 = i % 8 := modSub i 8
  have sb := shr_bits (7 - i % 8) (by omega) (g (i / 8)) (by omega)
  unfold f_M_bitAt bt
  simp (disch := omega) only [n0, n1, n2, n3, n4, n5, n6, n7, n8, n10, n16, n40, n128, n255, n256, n1024, n2000, n2048, nJ_add, nJ_mul, nJ_sub, nJ_leT, nJ_leF, nJ_ltT, nJ_ltF, nJ_eqT, nJ_eqF, nJ_clamp, nJ_div, nM, iM_eqF, iM_eqF2, iM_leF, iM_ltF, iM_leT, iM_ltT, iM_add, iM_add0, natLeF, natLeT, natLtF, natLtT, natEqF, natEqT, if_true, if_false, ite_true, ite_false, false_or, or_false, or_self, Option.bind_some, ↓reduceIte, em, h1]
  rw [← sb]
theorem l_B_take_T {t k : Nat} (hk : k ≤ 10) (ht : t + k ≤ 8 * N) (hN : N ≤ n) (hn : n ≤ 2000) (hr : fRep f g N) : f_B_take (nI k) (nI (8 * N)) (nI t) n f = some (nI (tk g t k), nI (t + k)) := by
  unfold f_B_take
  have c : nI k ≤ nI (8 * N) - nI t := by rw [nJ_sub (by omega), nJ_leT (by omega) (by omega)]; exact trivial
  have key := lp_up (L := fun n' (a : Nat) v => f_B_take_19 (nI k) (nI t) n f n' (nI a) (nI v)) (st := fun v => tk g t v) (b := k) (fin := (nI (tk g t k), nI k))
    (fun n' => by
      show f_B_take_19 _ _ _ _ (n' + 1) _ _ = _
      rw [f_B_take_19]
      simp (disch := omega) only [n0, n1, n2, n3, n4, n5, n6, n7, n8, n10, n16, n40, n128, n255, n256, n1024, n2000, n2048, nJ_add, nJ_mul, nJ_sub, nJ_leT, nJ_leF, nJ_ltT, nJ_ltF, nJ_eqT, nJ_eqF, nJ_clamp, nJ_div, nM, iM_eqF, iM_eqF2, iM_leF, iM_ltF, iM_leT, iM_ltT, iM_add, iM_add0, natLeF, natLeT, natLtF, natLtT, natEqF, natEqT, if_true, if_false, ite_true, ite_false, false_or, or_false, or_self, Option.bind_some, ↓reduceIte])
    (fun n' v hv => by
      show f_B_take_19 _ _ _ _ (n' + 1) _ _ = f_B_take_19 _ _ _ _ n' _ _
      have lb := l_B_bitAt (i := t + v) (by omega) hN hn hr
      rw [f_B_take_19, nJ_add, lb]
      simp (disch := omega) only [n0, n1, n2, n3, n4, n5, n6, n7, n8, n10, n16, n40, n128, n255, n256, n1024, n2000, n2048, nJ_add, nJ_mul, nJ_sub, nJ_leT, nJ_leF, nJ_ltT, nJ_ltF, nJ_eqT, nJ_eqF, nJ_clamp, nJ_div, nM, iM_eqF, iM_eqF2, iM_leF, iM_ltF, iM_leT, iM_ltT, iM_add, iM_add0, natLeF, natLeT, natLtF, natLtT, natEqF, natEqT, if_true, if_false, ite_true, ite_false, false_or, or_false, or_self, Option.bind_some, ↓reduceIte, tk])
    FU 0 (Nat.zero_le _) (fu (by omega))
  have key : f_B_take_19 (nI k) (nI t) n f FU 0 0 = _ := key
  rw [if_pos c, key]
  simp (disch := omega) only [n0, n1, n2, n3, n4, n5, n6, n7, n8, n10, n16, n40, n128, n255, n256, n1024, n2000, n2048, nJ_add, nJ_mul, nJ_sub, nJ_leT, nJ_leF, nJ_ltT, nJ_ltF, nJ_eqT, nJ_eqF, nJ_clamp, nJ_div, nM, iM_eqF, iM_eqF2, iM_leF, iM_ltF, iM_leT, iM_ltT, iM_add, iM_add0, natLeF, natLeT, natLtF, natLtT, natEqF, natEqT, if_true, if_false, ite_true, ite_false, false_or, or_false, or_self, Option.bind_some, ↓reduceIte]
theorem l_B_take_F {t k : Nat} (hk : k ≤ 10) (ht : ¬ t + k ≤ 8 * N) (ht2 : t ≤ 8 * N) (hN : N ≤ n) (hn : n ≤ 2000) : f_B_take (nI k) (nI (8 * N)) (nI t) n f = some (iM, nI t) := by
  unfold f_B_take
  have c : ¬ nI k ≤ nI (8 * N) - nI t := by rw [nJ_sub (by omega), nJ_leF (by omega) (by omega)]; exact not_false
  rw [if_neg c]
  rfl
/-- the reference: reading when nothing is amiss, and bits are enough -/
theorem l_M_take_T {t k : Nat} (hk : k ≤ 10) (ht : t + k ≤ 8 * N) (hN : N ≤ n) (hn : n ≤ 2000) (hr : fRep f g N) : f_M_take (nI k) (nI N) (nI t) iM n f = some (nI (tk g t k), nI (t + k), iM) := by
  unfold f_M_take
  have key := lp_up (L := fun n' (a : Nat × Nat) v => f_M_take_4 (nI k) (nI N) iM n f n' (nI a.1) (nI v) (nI a.2)) (st := fun v => (tk g t v, t + v)) (b := k) (fin := .inr (nI (tk g t k), nI k, nI (t + k)))
    (fun n' => by
      show f_M_take_4 _ _ _ _ _ (n' + 1) _ _ _ = _
      rw [f_M_take_4]
      simp (disch := omega) only [n0, n1, n2, n3, n4, n5, n6, n7, n8, n10, n16, n40, n128, n255, n256, n1024, n2000, n2048, nJ_add, nJ_mul, nJ_sub, nJ_leT, nJ_leF, nJ_ltT, nJ_ltF, nJ_eqT, nJ_eqF, nJ_clamp, nJ_div, nM, iM_eqF, iM_eqF2, iM_leF, iM_ltF, iM_leT, iM_ltT, iM_add, iM_add0, natLeF, natLeT, natLtF, natLtT, natEqF, natEqT, if_true, if_false, ite_true, ite_false, false_or, or_false, or_self, Option.bind_some, ↓reduceIte])
    (fun n' v hv => by
      show f_M_take_4 _ _ _ _ _ (n' + 1) _ _ _ = f_M_take_4 _ _ _ _ _ n' _ _ _
      have lb := l_M_bitAt (i := t + v) (by omega) hN hn hr
      rw [f_M_take_4, lb]
      simp (disch := omega) only [n0, n1, n2, n3, n4, n5, n6, n7, n8, n10, n16, n40, n128, n255, n256, n1024, n2000, n2048, nJ_add, nJ_mul, nJ_sub, nJ_leT, nJ_leF, nJ_ltT, nJ_ltF, nJ_eqT, nJ_eqF, nJ_clamp, nJ_div, nM, iM_eqF, iM_eqF2, iM_leF, iM_ltF, iM_leT, iM_ltT, iM_add, iM_add0, natLeF, natLeT, natLtF, natLtT, natEqF, natEqT, if_true, if_false, ite_true, ite_false, false_or, or_false, or_self, Option.bind_some, ↓reduceIte, tk]
      rw [show t + v + 1 = t + (v + 1) by omega])
    FU 0 (Nat.zero_le _) (fu (by omega))
  have key : f_M_take_4 (nI k) (nI N) iM n f FU 0 0 (nI t) = _ := key
  rw [key]
  rfl
/-- the reference: reading when bits lack -/
theorem l_M_take_F {t k : Nat} (hk : k ≤ 10) (ht : ¬ t + k ≤ 8 * N) (ht2 : t ≤ 8 * N) (hN : N ≤ n) (hn : n ≤ 2000) (hr : fRep f g N) : f_M_take (nI k) (nI N) (nI t) iM n f = some (0, nI (8 * N), 3) := by
  unfold f_M_take
  obtain ⟨b, hb⟩ : ∃ b, t + b = 8 * N := ⟨8 * N - t, by omega⟩
  have key := lp_up (L := fun n' (a : Nat × Nat) v => f_M_take_4 (nI k) (nI N) iM n f n' (nI a.1) (nI v) (nI a.2)) (st := fun v => (tk g t v, t + v)) (b := b) (fin := .inl (nI (tk g t b), nI b, nI (8 * N)))
    (fun n' => by
      show f_M_take_4 _ _ _ _ _ (n' + 1) _ _ _ = _
      rw [f_M_take_4]
      simp (disch := omega) only [n0, n1, n2, n3, n4, n5, n6, n7, n8, n10, n16, n40, n128, n255, n256, n1024, n2000, n2048, nJ_add, nJ_mul, nJ_sub, nJ_leT, nJ_leF, nJ_ltT, nJ_ltF, nJ_eqT, nJ_eqF, nJ_clamp, nJ_div, nM, iM_eqF, iM_eqF2, iM_leF, iM_ltF, iM_leT, iM_ltT, iM_add, iM_add0, natLeF, natLeT, natLtF, natLtT, natEqF, natEqT, if_true, if_false, ite_true, ite_false, false_or, or_false, or_self, Option.bind_some, ↓reduceIte, hb])
    (fun n' v hv => by
      show f_M_take_4 _ _ _ _ _ (n' + 1) _ _ _ = f_M_take_4 _ _ _ _ _ n' _ _ _
      have lb := l_M_bitAt (i := t + v) (by omega) hN hn hr
      rw [f_M_take_4, lb]
      simp (disch := omega) only [n0, n1, n2, n3, n4, n5, n6, n7, n8, n10, n16, n40, n128, n255, n256, n1024, n2000, n2048, nJ_add, nJ_mul, nJ_sub, nJ_leT, nJ_leF, nJ_ltT, nJ_ltF, nJ_eqT, nJ_eqF, nJ_clamp, nJ_div, nM, iM_eqF, iM_eqF2, iM_leF, iM_ltF, iM_leT, iM_ltT, iM_add, iM_add0, natLeF, natLeT, natLtF, natLtT, natEqF, natEqT, if_true, if_false, ite_true, ite_false, false_or, or_false, or_self, Option.bind_some, ↓reduceIte, tk]
      rw [show t + v + 1 = t + (v + 1) by omega])
    FU 0 (Nat.zero_le _) (fu (by omega))
  have key : f_M_take_4 (nI k) (nI N) iM n f FU 0 0 (nI t) = _ := key
  rw [key]
  rfl
/-- the reference: reading when something is amiss -/
theorem l_M_take_X {k e : Nat} {t : Int32} (he : e ≤ 4) (hk : k ≤ 10) : f_M_take (nI k) (nI N) t (nI e) n f = some (0, t, nI e) := by
  unfold f_M_take
  rw [show FU = 1048575 + 1 from rfl, f_M_take_4]
  have c : (0 : Int32) ≤ nI e := by rw [n0, nJ_leT (by omega) (by omega)]; exact trivial
  rw [if_pos c]
  by_cases c2 : nI k ≤ 0
  · rw [if_pos c2]; rfl
  · rw [if_neg c2]; rfl
/-- no bit of n from place v is set -/
def allz (g : Nat → Nat) (v n : Nat) : Prop := ∀ i, i < n → bt g (v + i) = 0
theorem allz_succ {v m : Nat} : allz g v (m + 1) ↔ bt g v = 0 ∧ allz g (v + 1) m := by
  constructor
  · intro h
    refine ⟨h 0 (by omega), fun i hi => ?_⟩
    have := h (i + 1) (by omega)
    rwa [show v + (i + 1) = v + 1 + i by omega] at this
  · rintro ⟨h1, h2⟩ i hi
    match i, hi with
    | 0, _ => exact h1
    | i + 1, hi =>
      have := h2 i (by omega)
      rwa [show v + (i + 1) = v + 1 + i by omega]
theorem l_B_rest {T : Nat} (hT : T = 8 * N) (hN : N ≤ n) (hn : n ≤ 2000) (hr : fRep f g N) : ∀ m v F, m < F → v + m = T → (allz g v m → ∃ a, f_B_restIsFilling_21 (nI T) n f F (nI v) = some (.inr a)) ∧ (¬ allz g v m → ∃ a, f_B_restIsFilling_21 (nI T) n f F (nI v) = some (.inl a)) := by
  intro m
  induction m with
  | zero =>
    intro v F hF hv
    match F, hF with
    | F + 1, _ =>
      refine ⟨fun _ => ⟨nI v, ?_⟩, fun h => absurd (fun i hi => absurd hi (by omega)) h⟩
      rw [f_B_restIsFilling_21]
      simp (disch := omega) only [n0, n1, n2, n3, n4, n5, n6, n7, n8, n10, n16, n40, n128, n255, n256, n1024, n2000, n2048, nJ_add, nJ_mul, nJ_sub, nJ_leT, nJ_leF, nJ_ltT, nJ_ltF, nJ_eqT, nJ_eqF, nJ_clamp, nJ_div, nM, iM_eqF, iM_eqF2, iM_leF, iM_ltF, iM_leT, iM_ltT, iM_add, iM_add0, natLeF, natLeT, natLtF, natLtT, natEqF, natEqT, if_true, if_false, ite_true, ite_false, false_or, or_false, or_self, Option.bind_some, ↓reduceIte]
  | succ m ih =>
    intro v F hF hv
    match F, hF with
    | F + 1, hF =>
      have lb := l_B_bitAt (i := v) (by omega) hN hn hr
      have lt := bt_lt g v
      have i1 := ih (v + 1) F (by omega) (by omega)
      have g1 : ¬ nI T ≤ nI v := by rw [nJ_leF (by omega) (by omega)]; exact not_false
      rw [f_B_restIsFilling_21, if_neg g1, lb, Option.bind_some, n1, nJ_add]
      by_cases c : bt g v = 0
      · have c2 : nI (bt g v) = 0 := by rw [c]; rfl
        rw [if_pos c2]
        refine ⟨fun h => i1.1 (allz_succ.mp h).2, fun h => i1.2 (fun h2 => h (allz_succ.mpr ⟨c, h2⟩))⟩
      · have c2 : ¬ nI (bt g v) = 0 := by rw [n0, nJ_eqF c (by omega) (by omega)]; exact not_false
        rw [if_neg c2]
        exact ⟨fun h => absurd (allz_succ.mp h).1 c, fun _ => ⟨_, rfl⟩⟩
theorem l_M_rest {T : Nat} {p1 p2 : Int32} (hT : T = 8 * N) (hN : N ≤ n) (hn : n ≤ 2000) (hr : fRep f g N) : ∀ m v F s, m < F → v + m = T → s < 2 → ∃ s' z, f_M_read_220 p1 p2 (nI N) iM n f F (nI s) (nI v) = some (nI s', z) ∧ s' < 2 ∧ (s' = 0 ↔ s = 0 ∧ allz g v m) := by
  intro m
  induction m with
  | zero =>
    intro v F s hF hv hs
    match F, hF with
    | F + 1, _ =>
      refine ⟨s, nI v, ?_, hs, ⟨fun h => ⟨h, fun i hi => absurd hi (by omega)⟩, fun h => h.1⟩⟩
      rw [f_M_read_220]
      simp (disch := omega) only [n0, n1, n2, n3, n4, n5, n6, n7, n8, n10, n16, n40, n128, n255, n256, n1024, n2000, n2048, nJ_add, nJ_mul, nJ_sub, nJ_leT, nJ_leF, nJ_ltT, nJ_ltF, nJ_eqT, nJ_eqF, nJ_clamp, nJ_div, nM, iM_eqF, iM_eqF2, iM_leF, iM_ltF, iM_leT, iM_ltT, iM_add, iM_add0, natLeF, natLeT, natLtF, natLtT, natEqF, natEqT, if_true, if_false, ite_true, ite_false, false_or, or_false, or_self, Option.bind_some, ↓reduceIte]
  | succ m ih =>
    intro v F s hF hv hs
    match F, hF with
    | F + 1, hF =>
      have lb := l_M_bitAt (i := v) (by omega) hN hn hr
      have lt := bt_lt g v
      have g1 : ¬ 8 * nI N ≤ nI v := by rw [n8, nJ_mul, nJ_leF (by omega) (by omega)]; exact not_false
      have g2 : ¬ (0 : Int32) ≤ iM := by decide
      have e1 : nI v + 1 = nI (v + 1) := by rw [n1, nJ_add]
      rw [f_M_read_220, if_neg g1, if_neg g2, lb, Option.bind_some, e1]
      by_cases c0 : s = 0
      · have c2 : nI s = 0 := by rw [c0]; rfl
        rw [if_pos c2]
        by_cases c : bt g v = 1
        · have c3 : nI (bt g v) = 1 := by rw [c]; rfl
          rw [if_pos c3]
          obtain ⟨s', z, i1, i2, i3⟩ := ih (v + 1) F 1 (by omega) (by omega) (by omega)
          refine ⟨s', z, i1, i2, ⟨fun h => absurd (i3.mp h).1 (by omega), fun h => ?_⟩⟩
          have := (allz_succ.mp h.2).1
          omega
        · have c3 : ¬ nI (bt g v) = 1 := by rw [n1, nJ_eqF c (by omega) (by omega)]; exact not_false
          rw [if_neg c3]
          obtain ⟨s', z, i1, i2, i3⟩ := ih (v + 1) F 0 (by omega) (by omega) (by omega)
          refine ⟨s', z, i1, i2, ⟨fun h => ⟨c0, allz_succ.mpr ⟨by omega, (i3.mp h).2⟩⟩, fun h => i3.mpr ⟨rfl, (allz_succ.mp h.2).2⟩⟩⟩
      · have c2 : ¬ nI s = 0 := by rw [n0, nJ_eqF c0 (by omega) (by omega)]; exact not_false
        rw [if_neg c2]
        obtain ⟨s', z, i1, i2, i3⟩ := ih (v + 1) F 1 (by omega) (by omega) (by omega)
        exact ⟨s', z, i1, i2, ⟨fun h => absurd (i3.mp h).1 (by omega), fun h => absurd h.1 c0⟩⟩
end
