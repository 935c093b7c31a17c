/-! what no turn changes -/
theorem sQ_turn (G : Nat → Nat → Nat) (n t : Nat) (h8 : t < 8) : sQ (fun x y => G (srcX (n - 1) t x y) (srcY (n - 1) t x y)) n n = sQ G n n := by
  rcases turn8 h8 with rfl | rfl | rfl | rfl | rfl | rfl | rfl | rfl <;> simp only [srcX, srcY]
  · rw [sQ_swap (fun x y => G y (n - 1 - x))]
    exact sQ_revY (fun x y => G x y) n n
  · rw [sQ_revX (fun x y => G x (n - 1 - y))]
    exact sQ_revY G n n
  · rw [sQ_swap (fun x y => G (n - 1 - y) x)]
    exact sQ_revX G n n
  · exact sQ_revX G n n
  · rw [sQ_swap (fun x y => G (n - 1 - y) (n - 1 - x)), sQ_revX (fun x y => G x (n - 1 - y))]
    exact sQ_revY G n n
  · exact sQ_revY G n n
  · exact sQ_swap (fun x y => G y x) n n
/-- a sum over a turned domain -/
theorem dmn_sum (G : Nat → Nat) (q : Nat → Nat) (w h d t : Nat) (h8 : t < 8) : sN (fun k => G (dmn q w h d t k)) (2 * h * (2 * h)) = sQ (fun x y => G (q ((domT w h d + y) * w + domL w h d + x))) (2 * h) (2 * h) := by
  rw [sN_rows]
  rw [← sQ_turn (fun x y => G (q ((domT w h d + y) * w + domL w h d + x))) (2 * h) t h8]
  refine sQ_congr (fun x y hx hy => ?_)
  obtain ⟨e1, e2⟩ := rowOf (y := y) hx
  unfold dmn dcell
  rw [e1, e2]
theorem src_half {h t cx cy i j : Nat} (h8 : t < 8) (hc : cx ≤ 1) (hd : cy ≤ 1) (hi : i < h) (hj : j < h) :
    srcX (2 * h - 1) t (cx * h + i) (cy * h + j) = srcX 1 t cx cy * h + srcX (h - 1) t i j ∧ srcY (2 * h - 1) t (cx * h + i) (cy * h + j) = srcY 1 t cx cy * h + srcY (h - 1) t i j := by
  have hx : cx = 0 ∨ cx = 1 := by omega
  have hy : cy = 0 ∨ cy = 1 := by omega
  rcases turn8 h8 with rfl | rfl | rfl | rfl | rfl | rfl | rfl | rfl <;> rcases hx with rfl | rfl <;> rcases hy with rfl | rfl <;> simp only [srcX, srcY, Nat.zero_mul, Nat.one_mul, Nat.sub_self, Nat.sub_zero, Nat.zero_add] <;> refine ⟨?_, ?_⟩ <;> first | omega | trivial
/-- which quarter a turn brings to a quarter's place -/
def sqr (t c : Nat) : Nat := 2 * srcY 1 t (c % 2) (c / 2) + srcX 1 t (c % 2) (c / 2)
theorem four {c : Nat} (h : c < 4) : c = 0 ∨ c = 1 ∨ c = 2 ∨ c = 3 := by omega
theorem sqr_lt {t c : Nat} (h8 : t < 8) (hc : c < 4) : sqr t c < 4 := by
  have h1 := srcX_le (m := 1) (x := c % 2) (y := c / 2) h8 (by omega) (by omega)
  have h2 := srcY_le (m := 1) (x := c % 2) (y := c / 2) h8 (by omega) (by omega)
  unfold sqr; omega
theorem sqr_onto {t q : Nat} (h8 : t < 8) (hq : q < 4) : ∃ c, c < 4 ∧ sqr t c = q := by
  rcases turn8 h8 with rfl | rfl | rfl | rfl | rfl | rfl | rfl | rfl <;> rcases four hq with rfl | rfl | rfl | rfl <;>
  first
  | exact ⟨0, by decide, by decide⟩
  | exact ⟨1, by decide, by decide⟩
  | exact ⟨2, by decide, by decide⟩
  | exact ⟨3, by decide, by decide⟩
theorem sqr_some {c q : Nat} (hc : c < 4) (hq : q < 4) : ∃ t, t < 8 ∧ sqr t c = q := by
  rcases four hc with rfl | rfl | rfl | rfl <;> rcases four hq with rfl | rfl | rfl | rfl <;>
  first
  | exact ⟨0, by decide, by decide⟩
  | exact ⟨1, by decide, by decide⟩
  | exact ⟨2, by decide, by decide⟩
  | exact ⟨3, by decide, by decide⟩
theorem dmn_quarter {q : Nat → Nat} {w h d t c : Nat} (h8 : t < 8) (hc : c < 4) : qS (dmn q w h d t) (2 * h) 0 0 h c = qS q w (domL w h d) (domT w h d) h (sqr t c) := by
  have m := qmul (h := h) hc
  have e1 : sqr t c % 2 = srcX 1 t (c % 2) (c / 2) := by
    have h1 := srcX_le (m := 1) (x := c % 2) (y := c / 2) h8 (by omega) (by omega)
    unfold sqr; omega
  have e2 : sqr t c / 2 = srcY 1 t (c % 2) (c / 2) := by
    have h1 := srcX_le (m := 1) (x := c % 2) (y := c / 2) h8 (by omega) (by omega)
    unfold sqr; omega
  unfold qS sqS
  rw [e1, e2, ← sQ_turn (fun x y => q ((domT w h d + srcY 1 t (c % 2) (c / 2) * h + y) * w + (domL w h d + srcX 1 t (c % 2) (c / 2) * h + x))) h t h8]
  refine sQ_congr (fun i j hi hj => ?_)
  have hx : 0 + c % 2 * h + i < 2 * h := by omega
  obtain ⟨r1, r2⟩ := rowOf (y := 0 + c / 2 * h + j) hx
  unfold dmn
  rw [r1, r2]
  unfold dcell
  rw [Nat.zero_add, Nat.zero_add]
  obtain ⟨s1, s2⟩ := src_half (h := h) (t := t) (cx := c % 2) (cy := c / 2) (i := i) (j := j) h8 (by omega) (by omega) hi hj
  rw [s1, s2]
  congr 1
  rw [← Nat.add_assoc (domT w h d)]
  omega
theorem dmn_le {q : Nat → Nat} {w h d t k : Nat} (h1 : 0 < h) (h2 : 2 * h ≤ w) (hd : d < dac w h * dac w h) (h8 : t < 8) (hk : k < 2 * h * (2 * h)) (hq : ∀ k, k < w * w → q k ≤ 255) : dmn q w h d t k ≤ 255 := by
  obtain ⟨i1, i2⟩ := dom_in h1 h2 hd
  have hx := modLt hk
  have hy := divLt hk
  exact hq _ (dcell_lt h8 (by omega) (by omega) (by omega) (by omega))
theorem blk_le {p : Nat → Nat} {s x y size k : Nat} (hx : x + size ≤ s) (hy : y + size ≤ s) (hk : k < size * size) (hp : ∀ k, k < s * s → p k ≤ 255) : blk p s x y size k ≤ 255 := by
  unfold blk
  have hx' := modLt hk
  have hy' := divLt hk
  have := ix (x := x + k % size) (y := y + k / size) (s := s) (by omega) (by omega)
  exact hp _ (by omega)
/-- is quarter j the greatest -/
abbrev gd (Q : Nat → Nat) (j : Nat) : Prop := Q 0 ≤ Q j ∧ Q 1 ≤ Q j ∧ Q 2 ≤ Q j ∧ Q 3 ≤ Q j
def mxU (Q : Nat → Nat) : Nat → Nat
  | 0 => 0
  | v + 1 => if mxU Q v < Q v then Q v else mxU Q v
theorem mx_ge (Q : Nat → Nat) : ∀ v q, q < v → Q q ≤ mxU Q v := by
  intro v
  induction v with
  | zero => intro q h; omega
  | succ v ih =>
    intro q h
    rw [mxU]
    by_cases e : q = v
    · subst e; split <;> omega
    · have := ih q (by omega)
      split <;> omega
theorem mx_is (Q : Nat → Nat) : ∀ v, 0 < v → ∃ q, q < v ∧ mxU Q v = Q q := by
  intro v
  induction v with
  | zero => intro h; omega
  | succ v ih =>
    intro _
    rw [mxU]
    by_cases c : mxU Q v < Q v
    · rw [if_pos c]; exact ⟨v, by omega, rfl⟩
    · rw [if_neg c]
      by_cases e : v = 0
      · subst e
        refine ⟨0, by omega, ?_⟩
        have : mxU Q 0 = 0 := rfl
        omega
      · obtain ⟨q, h1, h2⟩ := ih (by omega)
        exact ⟨q, by omega, h2⟩
theorem gd_iff (Q : Nat → Nat) (j : Nat) (hj : j < 4) : gd Q j ↔ Q j = mxU Q 4 := by
  have g := mx_ge Q 4
  have g0 := g 0 (by omega)
  have g1 := g 1 (by omega)
  have g2 := g 2 (by omega)
  have g3 := g 3 (by omega)
  have gj := g j hj
  obtain ⟨q, h1, h2⟩ := mx_is Q 4 (by omega)
  show _ ∧ _ ∧ _ ∧ _ ↔ _
  constructor
  · intro h
    rcases four h1 with rfl | rfl | rfl | rfl <;> omega
  · intro h; omega
theorem mx_le {Q : Nat → Nat} {v b : Nat} (h : ∀ q, q < v → Q q ≤ b) : mxU Q v ≤ b := by
  by_cases e : v = 0
  · subst e; exact Nat.zero_le _
  · obtain ⟨q, h1, h2⟩ := mx_is Q v (by omega)
    rw [h2]; exact h q h1
