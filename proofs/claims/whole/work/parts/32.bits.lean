/-! rows of bits -/
/-- the byte i after bit b is put at place m -/
def apB (e : Nat → Nat) (m b : Nat) : Nat → Nat := fun i => if i = m / 8 then (if m % 8 = 0 then 0 else e i) + b * 2 ^ (7 - m % 8) else e i
/-- a number of w bits put at place m, the highest first -/
def apN (num : Nat) : Nat → (Nat → Nat) → Nat → (Nat → Nat)
  | 0, e, _ => e
  | w + 1, e, m => apN num w (apB e m (num / 2 ^ w % 2)) (m + 1)
/-- bytes, and nothing behind the last bit -/
def bGood (e : Nat → Nat) (m : Nat) : Prop := (∀ i, i < (m + 7) / 8 → e i ≤ 255) ∧ (m % 8 ≠ 0 → e (m / 8) % 2 ^ (8 - m % 8) = 0)
def bRep (f : Nat → Int32) (e : Nat → Nat) (m : Nat) : Prop := ∀ i, i < (m + 7) / 8 → f i = nI (e i)
theorem or_bits : ∀ x, x < 256 → ∀ k, k < 8 → ∀ b, b < 2 → x % 2 ^ (k + 1) = 0 → (nI x ||| (nI b <<< (nI k &&& 31))) = nI (x + b * 2 ^ k) := by decide +kernel
theorem shl_bits : ∀ k, k < 8 → ∀ b, b < 2 → (nI b <<< (nI k &&& 31)) = nI (b * 2 ^ k) := by decide +kernel
theorem eight {k : Nat} (h : k < 8) : k = 0 ∨ k = 1 ∨ k = 2 ∨ k = 3 ∨ k = 4 ∨ k = 5 ∨ k = 6 ∨ k = 7 := by omega
theorem byte_room {x k b : Nat} (hx : x ≤ 255) (hk : k < 8) (hb : b < 2) (hz : x % 2 ^ (k + 1) = 0) : x + b * 2 ^ k ≤ 255 ∧ (x + b * 2 ^ k) % 2 ^ k = 0 := by
  have hb' : b = 0 ∨ b = 1 := by omega
  rcases eight hk with rfl | rfl | rfl | rfl | rfl | rfl | rfl | rfl <;> rcases hb' with rfl | rfl <;> simp at hz ⊢ <;> omega
theorem apB_good {e : Nat → Nat} {m b : Nat} (hg : bGood e m) (hb : b < 2) : bGood (apB e m b) (m + 1) := by
  obtain ⟨h1, h2⟩ := hg
  have base : (if m % 8 = 0 then 0 else e (m / 8)) ≤ 255 ∧ (if m % 8 = 0 then 0 else e (m / 8)) % 2 ^ (7 - m % 8 + 1) = 0 := by
    split
    · exact ⟨by omega, by simp⟩
    · rename_i c
      refine ⟨h1 _ (by omega), ?_⟩
      rw [show 7 - m % 8 + 1 = 8 - m % 8 by omega]; exact h2 c
  have br := byte_room base.1 (show 7 - m % 8 < 8 by omega) hb base.2
  refine ⟨fun i hi => ?_, fun hm => ?_⟩
  · unfold apB
    by_cases c : i = m / 8
    · subst c; rw [if_pos rfl]; exact br.1
    · rw [if_neg c]; exact h1 i (by omega)
  · unfold apB
    rw [if_pos (by omega), show (m + 1) / 8 = m / 8 by omega, show 8 - (m + 1) % 8 = 7 - m % 8 by omega]
    exact br.2
theorem apB_rep {f : Nat → Int32} {e : Nat → Nat} {m b : Nat} (h : bRep f e m) : bRep (upd f (m / 8) (nI ((if m % 8 = 0 then 0 else e (m / 8)) + b * 2 ^ (7 - m % 8)))) (apB e m b) (m + 1) := by
  intro i hi
  unfold apB
  by_cases c : i = m / 8
  · subst c; rw [upd_eq, if_pos rfl]
  · rw [upd_ne _ _ _ c, if_neg c]; exact h i (by omega)
theorem l_B_appendBit {f : Nat → Int32} {e : Nat → Nat} {m b n : Nat} (hr : bRep f e m) (hg : bGood e m) (hb : b < 2) (hm : m < 8 * n) (hn : n ≤ 2000) :
    f_B_appendBit (nI b) (nI m) n f = some (nI (m + 1), upd f (m / 8) (nI ((if m % 8 = 0 then 0 else e (m / 8)) + b * 2 ^ (7 - m % 8)))) := by
  unfold f_B_appendBit
  have em : m - m / 8 * 8 = m % 8 := modSub m 8
  by_cases c : m % 8 = 0
  · have ob := or_bits 0 (by omega) (7 - m % 8) (by omega) b hb (by simp)
    simp (disch := omega) only [n0, n1, n2, n3, n4, n5, n6, n7, n8, n10, n16, n40, n128, n255, n256, n1024, n2000, n2048, nJ_add, nJ_mul, nJ_sub, nJ_leT, nJ_leF, nJ_ltT, nJ_ltF, nJ_eqT, nJ_eqF, nJ_clamp, nJ_div, nM, iM_eqF, iM_eqF2, iM_leF, iM_ltF, iM_leT, iM_ltT, iM_add, iM_add0, natLeF, natLeT, natLtF, natLtT, natEqF, natEqT, if_true, if_false, ite_true, ite_false, false_or, or_false, or_self, Option.bind_some, ↓reduceIte, em]
    have e31 : (31 : Int32) = nI 31 := rfl
    rw [c] at ob ⊢
    rw [← ob]
  · have h1 := hg.1 (m / 8) (by omega)
    have h2 := hr (m / 8) (by omega)
    have ob := or_bits (e (m / 8)) (by omega) (7 - m % 8) (by omega) b hb (by rw [show 7 - m % 8 + 1 = 8 - m % 8 by omega]; exact hg.2 c)
    simp (disch := omega) only [n0, n1, n2, n3, n4, n5, n6, n7, n8, n10, n16, n40, n128, n255, n256, n1024, n2000, n2048, nJ_add, nJ_mul, nJ_sub, nJ_leT, nJ_leF, nJ_ltT, nJ_ltF, nJ_eqT, nJ_eqF, nJ_clamp, nJ_div, nM, iM_eqF, iM_eqF2, iM_leF, iM_ltF, iM_leT, iM_ltT, iM_add, iM_add0, natLeF, natLeT, natLtF, natLtT, natEqF, natEqT, if_true, if_false, ite_true, ite_false, false_or, or_false, or_self, Option.bind_some, ↓reduceIte, em, h2]
    rw [← ob]
theorem shr_bits : ∀ p, p < 10 → ∀ a, a < 1024 → ((nI a >>> (nI p &&& 31)) &&& nI 1) = nI (a / 2 ^ p % 2) := by decide +kernel
theorem apN_good {num : Nat} : ∀ (w : Nat) (e : Nat → Nat) (m : Nat), bGood e m → bGood (apN num w e m) (m + w) := by
  intro w
  induction w with
  | zero => intro e m h; exact h
  | succ w ih =>
    intro e m h
    rw [apN, show m + (w + 1) = m + 1 + w by omega]
    exact ih _ _ (apB_good h (by omega))
/-- the place of the next bit, of w that are left -/
def plc : Nat → Int32
  | 0 => iM
  | w + 1 => nI w
theorem l_B_append_4 {num n : Nat} {p2 : Int32} (hnum : num < 1024) (hn : n ≤ 2000) : ∀ (w : Nat), w ≤ 10 → ∀ (N : Nat) (f : Nat → Int32) (e : Nat → Nat) (m : Nat), w < N → bRep f e m → bGood e m → m + w ≤ 8 * n →
    ∃ f', f_B_append_4 (nI num) p2 n N (plc w) (nI m) f = some (iM, nI (m + w), f') ∧ bRep f' (apN num w e m) (m + w) := by
  intro w
  induction w with
  | zero =>
    intro _ N f e m hN hr hg hm
    match N, hN with
    | N + 1, _ =>
      refine ⟨f, ?_, hr⟩
      show f_B_append_4 (nI num) p2 n (N + 1) iM (nI m) f = _
      rw [f_B_append_4]
      simp (disch := omega) only [n0, n1, n2, n3, n4, n5, n6, n7, n8, n10, n16, n40, n128, n255, n256, n1024, n2000, n2048, nJ_add, nJ_mul, nJ_sub, nJ_leT, nJ_leF, nJ_ltT, nJ_ltF, nJ_eqT, nJ_eqF, nJ_clamp, nJ_div, nM, iM_eqF, iM_eqF2, iM_leF, iM_ltF, iM_leT, iM_ltT, iM_add, iM_add0, natLeF, natLeT, natLtF, natLtT, natEqF, natEqT, if_true, if_false, ite_true, ite_false, false_or, or_false, or_self, Option.bind_some, ↓reduceIte]
      rfl
  | succ w ih =>
    intro hw N f e m hN hr hg hm
    match N, hN with
    | N + 1, hN =>
      have hb : num / 2 ^ w % 2 < 2 := by omega
      have a1 := l_B_appendBit (n := n) hr hg hb (by omega) hn
      obtain ⟨f', h1, h2⟩ := ih (by omega) N _ _ (m + 1) (by omega) (apB_rep (b := num / 2 ^ w % 2) hr) (apB_good hg hb) (by omega)
      refine ⟨f', ?_, ?_⟩
      · show f_B_append_4 (nI num) p2 n (N + 1) (nI w) (nI m) f = _
        rw [f_B_append_4]
        have sb := shr_bits w (by omega) num hnum
        have e0 : (1 : Int32) = nI 1 := rfl
        rw [e0, sb, a1]
        have pl : nI w + -nI 1 = plc w := by
          rw [nM]
          match w with
          | 0 => exact iM_add0
          | w + 1 => exact iM_add (by omega)
        have ng : ¬ nI w < 0 := by rw [n0, nJ_ltF (by omega) (by omega)]; exact not_false
        rw [if_neg ng]
        simp only [Option.bind_some]
        rw [pl, h1, show m + (w + 1) = m + 1 + w by omega]
      · rw [apN, show m + (w + 1) = m + 1 + w by omega]; exact h2
theorem l_B_append {num n w m : Nat} {f : Nat → Int32} {e : Nat → Nat} (hnum : num < 1024) (hn : n ≤ 2000) (hw : w ≤ 10) (hr : bRep f e m) (hg : bGood e m) (hm : m + w ≤ 8 * n) :
    ∃ f', f_B_append (nI num) (nI w) (nI m) n f = some (nI (m + w), f') ∧ bRep f' (apN num w e m) (m + w) := by
  obtain ⟨f', h1, h2⟩ := l_B_append_4 (p2 := nI w) hnum hn w hw FU f e m (fu (by omega)) hr hg hm
  refine ⟨f', ?_, h2⟩
  unfold f_B_append
  have pl : nI w - 1 = plc w := by
    match w with
    | 0 => rfl
    | w + 1 => rw [n1, nJ_sub (by omega)]; rfl
  rw [pl, h1]
  rfl
theorem l_M_tell_5 {w : Nat} {p1 : Int32} (hw : w ≤ 10) : ∃ z, f_M_tell_5 p1 (nI w) FU 1 1 = some (nI (2 ^ (w - 1)), z) := by
  by_cases c : w = 0
  · subst c
    refine ⟨nI 1, ?_⟩
    rw [show FU = 1048575 + 1 from rfl, f_M_tell_5]
    simp (disch := omega) only [n0, n1, n2, n3, n4, n5, n6, n7, n8, n10, n16, n40, n128, n255, n256, n1024, n2000, n2048, nJ_add, nJ_mul, nJ_sub, nJ_leT, nJ_leF, nJ_ltT, nJ_ltF, nJ_eqT, nJ_eqF, nJ_clamp, nJ_div, nM, iM_eqF, iM_eqF2, iM_leF, iM_ltF, iM_leT, iM_ltT, iM_add, iM_add0, natLeF, natLeT, natLtF, natLtT, natEqF, natEqT, if_true, if_false, ite_true, ite_false, false_or, or_false, or_self, Option.bind_some, ↓reduceIte]
  · have key := lp_up (L := fun n' (a : Nat) v => f_M_tell_5 p1 (nI w) n' (nI a) (nI (v + 1))) (st := fun v => 2 ^ v) (b := w - 1) (fin := (nI (2 ^ (w - 1)), nI (w - 1 + 1)))
      (fun n' => by
        show f_M_tell_5 _ _ (n' + 1) _ _ = _
        rw [f_M_tell_5]
        simp (disch := omega) only [n0, n1, n2, n3, n4, n5, n6, n7, n8, n10, n16, n40, n128, n255, n256, n1024, n2000, n2048, nJ_add, nJ_mul, nJ_sub, nJ_leT, nJ_leF, nJ_ltT, nJ_ltF, nJ_eqT, nJ_eqF, nJ_clamp, nJ_div, nM, iM_eqF, iM_eqF2, iM_leF, iM_ltF, iM_leT, iM_ltT, iM_add, iM_add0, natLeF, natLeT, natLtF, natLtT, natEqF, natEqT, if_true, if_false, ite_true, ite_false, false_or, or_false, or_self, Option.bind_some, ↓reduceIte])
      (fun n' v hv => by
        show f_M_tell_5 _ _ (n' + 1) _ _ = f_M_tell_5 _ _ n' _ _
        rw [f_M_tell_5]
        have e : 2 ^ (v + 1) = 2 * 2 ^ v := by rw [Nat.pow_succ, Nat.mul_comm]
        rw [e]
        simp (disch := omega) only [n0, n1, n2, n3, n4, n5, n6, n7, n8, n10, n16, n40, n128, n255, n256, n1024, n2000, n2048, nJ_add, nJ_mul, nJ_sub, nJ_leT, nJ_leF, nJ_ltT, nJ_ltF, nJ_eqT, nJ_eqF, nJ_clamp, nJ_div, nM, iM_eqF, iM_eqF2, iM_leF, iM_ltF, iM_leT, iM_ltT, iM_add, iM_add0, natLeF, natLeT, natLtF, natLtT, natEqF, natEqT, if_true, if_false, ite_true, ite_false, false_or, or_false, or_self, Option.bind_some, ↓reduceIte])
      FU 0 (by omega) (fu (by omega))
    exact ⟨_, key⟩
theorem l_M_tell_24 {num n w : Nat} (hnum : num < 1024) (hn : n ≤ 2000) (hw : w ≤ 10) : ∀ (r : Nat), r ≤ w → ∀ (N : Nat) (f : Nat → Int32) (e : Nat → Nat) (m : Nat), r < N → bRep f e m → bGood e m → m + r ≤ 8 * n →
    ∃ f' z, f_M_tell_24 (nI num) (nI w) n N (nI (2 ^ (r - 1))) (nI (w - r)) (nI m) f = some (z, nI w, nI (m + r), f') ∧ bRep f' (apN num r e m) (m + r) := by
  intro r
  induction r with
  | zero =>
    intro _ N f e m hN hr hg hm
    match N, hN with
    | N + 1, _ =>
      refine ⟨f, nI (2 ^ (0 - 1)), ?_, hr⟩
      rw [f_M_tell_24]
      simp (disch := omega) only [n0, n1, n2, n3, n4, n5, n6, n7, n8, n10, n16, n40, n128, n255, n256, n1024, n2000, n2048, nJ_add, nJ_mul, nJ_sub, nJ_leT, nJ_leF, nJ_ltT, nJ_ltF, nJ_eqT, nJ_eqF, nJ_clamp, nJ_div, nM, iM_eqF, iM_eqF2, iM_leF, iM_ltF, iM_leT, iM_ltT, iM_add, iM_add0, natLeF, natLeT, natLtF, natLtT, natEqF, natEqT, if_true, if_false, ite_true, ite_false, false_or, or_false, or_self, Option.bind_some, ↓reduceIte, Nat.sub_zero]
      rfl
  | succ r ih =>
    intro hrw N f e m hN hr hg hm
    match N, hN with
    | N + 1, hN =>
      have hb : num / 2 ^ r % 2 < 2 := by omega
      have h2r : 2 ^ r ≤ 2 ^ 9 := Nat.pow_le_pow_right (by omega) (by omega)
      have h2p : 0 < 2 ^ r := Nat.pow_pos (by omega)
      have hdv : num / 2 ^ r ≤ num := Nat.div_le_self _ _
      have em : m - m / 8 * 8 = m % 8 := modSub m 8
      have ed : num / 2 ^ r - num / 2 ^ r / 2 * 2 = num / 2 ^ r % 2 := modSub _ 2
      have sb := shl_bits (7 - m % 8) (by omega) _ hb
      have e31 : (31 : Int32) = nI 31 := rfl
      have hby : nI (2 ^ r) / 2 = nI (2 ^ (r - 1)) ∨ r = 0 := by
        by_cases c : r = 0
        · exact Or.inr c
        · left
          rw [n2, nJ_div (by omega) (by omega)]
          congr 1
          rw [show r = (r - 1) + 1 by omega, Nat.pow_succ, Nat.mul_div_cancel _ (by omega)]; simp
      have step : ∀ g : Nat → Int32, g = upd f (m / 8) (nI ((if m % 8 = 0 then 0 else e (m / 8)) + num / 2 ^ r % 2 * 2 ^ (7 - m % 8))) → ∃ f' z, f_M_tell_24 (nI num) (nI w) n N (nI (2 ^ r) / 2) (nI (w - (r + 1)) + 1) (nI m + 1) g = some (z, nI w, nI (m + (r + 1)), f') ∧ bRep f' (apN num (r + 1) e m) (m + (r + 1)) := by
        intro g hgg
        subst hgg
        have hr' := apB_rep (b := num / 2 ^ r % 2) hr
        have hg' := apB_good hg hb
        rw [n1, nJ_add, nJ_add, show w - (r + 1) + 1 = w - r by omega, show m + (r + 1) = m + 1 + r by omega]
        rcases hby with hby | c
        · rw [hby]
          obtain ⟨f', z, i1, i2⟩ := ih (by omega) N _ _ (m + 1) (by omega) hr' hg' (by omega)
          exact ⟨f', z, i1, i2⟩
        · subst c
          match N, hN with
          | N + 1, hN =>
            refine ⟨_, nI (2 ^ 0) / 2, ?_, hr'⟩
            rw [f_M_tell_24]
            simp (disch := omega) only [n0, n1, n2, n3, n4, n5, n6, n7, n8, n10, n16, n40, n128, n255, n256, n1024, n2000, n2048, nJ_add, nJ_mul, nJ_sub, nJ_leT, nJ_leF, nJ_ltT, nJ_ltF, nJ_eqT, nJ_eqF, nJ_clamp, nJ_div, nM, iM_eqF, iM_eqF2, iM_leF, iM_ltF, iM_leT, iM_ltT, iM_add, iM_add0, natLeF, natLeT, natLtF, natLtT, natEqF, natEqT, if_true, if_false, ite_true, ite_false, false_or, or_false, or_self, Option.bind_some, ↓reduceIte, Nat.sub_zero]
      rw [show r + 1 - 1 = r by omega]
      rw [f_M_tell_24]
      by_cases c : m % 8 = 0
      · have fin := step (upd f (m / 8) (nI ((if m % 8 = 0 then 0 else e (m / 8)) + num / 2 ^ r % 2 * 2 ^ (7 - m % 8)))) rfl
        have c1 : nI m / 8 = nI (m / 8) := by rw [n8, nJ_div (by omega) (by omega)]
        have c2 : nI m - nI (m / 8) * 8 = nI (m % 8) := by rw [n8, nJ_mul, nJ_sub (by omega), em]
        have c3 : nI num / nI (2 ^ r) = nI (num / 2 ^ r) := nJ_div (by omega) (by omega)
        have c4 : nI (num / 2 ^ r) - nI (num / 2 ^ r) / 2 * 2 = nI (num / 2 ^ r % 2) := by rw [n2, nJ_div (by omega) (by omega), nJ_mul, nJ_sub (by omega), ed]
        have c5 : (7 : Int32) - nI (m % 8) = nI (7 - m % 8) := by rw [n7, nJ_sub (by omega)]
        rw [c1, c2, c3, c4, c5, sb]
        have c6 : upd (upd f (nI (m / 8)).toNatClampNeg 0) (nI (m / 8)).toNatClampNeg (upd f (nI (m / 8)).toNatClampNeg 0 (nI (m / 8)).toNatClampNeg + nI (num / 2 ^ r % 2 * 2 ^ (7 - m % 8))) = upd f (m / 8) (nI ((if m % 8 = 0 then 0 else e (m / 8)) + num / 2 ^ r % 2 * 2 ^ (7 - m % 8))) := by
          rw [nJ_clamp (by omega), upd_eq, if_pos c, n0, nJ_add]
          funext j
          unfold upd
          split <;> rfl
        have c7 : ¬ nI w ≤ nI (w - (r + 1)) := by rw [nJ_leF (by omega) (by omega)]; exact not_false
        have c8 : ¬ (nI (m / 8) < 0 ∨ n ≤ (nI (m / 8)).toNatClampNeg) := by
          rw [n0, nJ_ltF (by omega) (by omega), nJ_clamp (by omega), false_or]; omega
        have c9 : ¬ nI (2 ^ r) = 0 := by rw [n0, nJ_eqF (by omega) (by omega) (by omega)]; exact not_false
        have c10 : nI (m % 8) = 0 := by rw [c]; rfl
        rw [if_neg c7, if_pos c10, if_neg c8, if_neg c8, if_neg c9, if_neg c8, c6]
        exact fin
      · have fin := step (upd f (m / 8) (nI ((if m % 8 = 0 then 0 else e (m / 8)) + num / 2 ^ r % 2 * 2 ^ (7 - m % 8)))) rfl
        have hrm := hr (m / 8) (by omega)
        have c1 : nI m / 8 = nI (m / 8) := by rw [n8, nJ_div (by omega) (by omega)]
        have c2 : nI m - nI (m / 8) * 8 = nI (m % 8) := by rw [n8, nJ_mul, nJ_sub (by omega), em]
        have c3 : nI num / nI (2 ^ r) = nI (num / 2 ^ r) := nJ_div (by omega) (by omega)
        have c4 : nI (num / 2 ^ r) - nI (num / 2 ^ r) / 2 * 2 = nI (num / 2 ^ r % 2) := by rw [n2, nJ_div (by omega) (by omega), nJ_mul, nJ_sub (by omega), ed]
        have c5 : (7 : Int32) - nI (m % 8) = nI (7 - m % 8) := by rw [n7, nJ_sub (by omega)]
        rw [c1, c2, c3, c4, c5, sb]
        have c6 : upd (upd f (nI (m / 8)).toNatClampNeg (f (nI (m / 8)).toNatClampNeg)) (nI (m / 8)).toNatClampNeg (upd f (nI (m / 8)).toNatClampNeg (f (nI (m / 8)).toNatClampNeg) (nI (m / 8)).toNatClampNeg + nI (num / 2 ^ r % 2 * 2 ^ (7 - m % 8))) = upd f (m / 8) (nI ((if m % 8 = 0 then 0 else e (m / 8)) + num / 2 ^ r % 2 * 2 ^ (7 - m % 8))) := by
          rw [nJ_clamp (by omega), upd_eq, if_neg c, hrm, nJ_add]
          funext j
          unfold upd
          split <;> rfl
        have c7 : ¬ nI w ≤ nI (w - (r + 1)) := by rw [nJ_leF (by omega) (by omega)]; exact not_false
        have c8 : ¬ (nI (m / 8) < 0 ∨ n ≤ (nI (m / 8)).toNatClampNeg) := by
          rw [n0, nJ_ltF (by omega) (by omega), nJ_clamp (by omega), false_or]; omega
        have c9 : ¬ nI (2 ^ r) = 0 := by rw [n0, nJ_eqF (by omega) (by omega) (by omega)]; exact not_false
        have c10 : ¬ nI (m % 8) = 0 := by rw [n0, nJ_eqF (by omega) (by omega) (by omega)]; exact not_false
        rw [if_neg c7, if_neg c10, if_neg c8, if_neg c8, if_neg c8, if_neg c9, if_neg c8, c6]
        exact fin
theorem l_M_tell {num n w m : Nat} {f : Nat → Int32} {e : Nat → Nat} (hnum : num < 1024) (hn : n ≤ 2000) (hw : w ≤ 10) (hr : bRep f e m) (hg : bGood e m) (hm : m + w ≤ 8 * n) :
    ∃ f', f_M_tell (nI num) (nI w) (nI m) n f = some (nI (m + w), f') ∧ bRep f' (apN num w e m) (m + w) := by
  obtain ⟨z, h0⟩ := l_M_tell_5 (p1 := nI num) hw
  obtain ⟨f', z', h1, h2⟩ := l_M_tell_24 hnum hn hw w (Nat.le_refl _) FU f e m (fu (by omega)) hr hg hm
  rw [Nat.sub_self] at h1
  refine ⟨f', ?_, h2⟩
  unfold f_M_tell
  rw [h0]
  simp only [Option.bind_some]
  have h1 : f_M_tell_24 (nI num) (nI w) n FU (nI (2 ^ (w - 1))) 0 (nI m) f = _ := h1
  rw [h1]
  rfl
