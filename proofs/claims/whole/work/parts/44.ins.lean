/-! blocks of a square lie in it, and apart -/
/-- blocks c to c' are added, good ones, of places R, apart -/
def ins (w : Nat) (F F' : Nat → Int) (c c' : Nat) (R : Nat → Nat → Nat → Prop) : Prop := c ≤ c' ∧ (∀ k, k < 8 * c → F' k = F k) ∧ (∀ i, c ≤ i → i < c' → okB w F' i ∧ R (bX F' i) (bY F' i) (bH F' i)) ∧ ∀ i j, c ≤ i → i < j → j < c' → apart F' i j
def sqR (X Y S : Nat) (x y h : Nat) : Prop := X ≤ x ∧ x + 2 * h ≤ X + S ∧ Y ≤ y ∧ y + 2 * h ≤ Y + S
theorem acc_eq {F F' : Nat → Int} {i : Nat} (h : ∀ k, 8 * i ≤ k → k < 8 * i + 8 → F' k = F k) : bX F' i = bX F i ∧ bY F' i = bY F i ∧ bH F' i = bH F i ∧ bD F' i = bD F i ∧ bT F' i = bT F i := by
  unfold bX bY bH bD bT
  rw [h _ (by omega) (by omega), h _ (by omega) (by omega), h _ (by omega) (by omega), h _ (by omega) (by omega), h _ (by omega) (by omega)]
  exact ⟨rfl, rfl, rfl, rfl, rfl⟩
theorem okB_eq {w : Nat} {F F' : Nat → Int} {i : Nat} (h : ∀ k, 8 * i ≤ k → k < 8 * i + 8 → F' k = F k) (hB : okB w F i) : okB w F' i := by
  obtain ⟨e1, e2, e3, e4, e5⟩ := acc_eq h
  unfold okB at hB ⊢
  rw [e1, e2, e3, e4, e5, h _ (by omega) (by omega), h _ (by omega) (by omega), h _ (by omega) (by omega), h _ (by omega) (by omega), h _ (by omega) (by omega), h _ (by omega) (by omega), h _ (by omega) (by omega)]
  exact hB
theorem apart_eq {F F' : Nat → Int} {i j : Nat} (h : ∀ k, 8 * i ≤ k → k < 8 * i + 8 → F' k = F k) (h2 : ∀ k, 8 * j ≤ k → k < 8 * j + 8 → F' k = F k) (ha : apart F i j) : apart F' i j := by
  obtain ⟨e1, e2, e3, _, _⟩ := acc_eq h
  obtain ⟨g1, g2, g3, _, _⟩ := acc_eq h2
  unfold apart at ha ⊢
  rw [e1, e2, e3, g1, g2, g3]
  exact ha
theorem ins_trans {w : Nat} {F F1 F2 : Nat → Int} {c c1 c2 : Nat} {R1 R2 : Nat → Nat → Nat → Prop} (a : ins w F F1 c c1 R1) (b : ins w F1 F2 c1 c2 R2)
    (hR : ∀ x y h x' y' h', R1 x y h → R2 x' y' h' → x + 2 * h ≤ x' ∨ x' + 2 * h' ≤ x ∨ y + 2 * h ≤ y' ∨ y' + 2 * h' ≤ y) : ins w F F2 c c2 (fun x y h => R1 x y h ∨ R2 x y h) := by
  obtain ⟨a1, a2, a3, a4⟩ := a
  obtain ⟨b1, b2, b3, b4⟩ := b
  have st : ∀ i, i < c1 → ∀ k, 8 * i ≤ k → k < 8 * i + 8 → F2 k = F1 k := fun i hi k _ hk => b2 k (by omega)
  refine ⟨by omega, fun k hk => (b2 k (by omega)).trans (a2 k hk), fun i h1 h2 => ?_, fun i j h1 h2 h3 => ?_⟩
  · by_cases hi : i < c1
    · obtain ⟨e1, e2, e3, _, _⟩ := acc_eq (st i hi)
      obtain ⟨q1, q2⟩ := a3 i h1 hi
      exact ⟨okB_eq (st i hi) q1, Or.inl (by rw [e1, e2, e3]; exact q2)⟩
    · obtain ⟨q1, q2⟩ := b3 i (by omega) h2
      exact ⟨q1, Or.inr q2⟩
  · by_cases hj : j < c1
    · exact apart_eq (st i (by omega)) (st j hj) (a4 i j h1 h2 hj)
    · by_cases hi : i < c1
      · obtain ⟨e1, e2, e3, _, _⟩ := acc_eq (st i hi)
        obtain ⟨_, q2⟩ := a3 i h1 hi
        obtain ⟨_, q4⟩ := b3 j (by omega) h3
        rw [← e1, ← e2, ← e3] at q2
        exact hR _ _ _ _ _ _ q2 q4
      · exact b4 i j (by omega) h2 h3
theorem ins_mono {w : Nat} {F F' : Nat → Int} {c c' : Nat} {R R' : Nat → Nat → Nat → Prop} (a : ins w F F' c c' R) (h : ∀ x y h, R x y h → R' x y h) : ins w F F' c c' R' := ⟨a.1, a.2.1, fun i h1 h2 => ⟨(a.2.2.1 i h1 h2).1, h _ _ _ (a.2.2.1 i h1 h2).2⟩, a.2.2.2⟩
theorem ins_four {w s : Nat} {F F1 F2 F3 F4 : Nat → Int} {c c1 c2 c3 c4 x y : Nat} (a1 : ins w F F1 c c1 (sqR x y s)) (a2 : ins w F1 F2 c1 c2 (sqR (x + s) y s)) (a3 : ins w F2 F3 c2 c3 (sqR x (y + s) s)) (a4 : ins w F3 F4 c3 c4 (sqR (x + s) (y + s) s)) : ins w F F4 c c4 (sqR x y (2 * s)) := by
  have b1 := ins_trans a1 a2 (fun x y h x' y' h' p q => by unfold sqR at p q; omega)
  have b2 := ins_trans b1 a3 (fun x y h x' y' h' p q => by unfold sqR at p q; omega)
  have b3 := ins_trans b2 a4 (fun x y h x' y' h' p q => by unfold sqR at p q; omega)
  exact ins_mono b3 (fun x y h p => by unfold sqR at p ⊢; omega)
theorem ins_leaf {w h c x y : Nat} {F : Nat → Int} {B : Fit5} (h1 : 0 < h) (h2 : 2 * h ≤ w) (hx : x + 2 * h ≤ 2 * w) (hy : y + 2 * h ≤ 2 * w) (hB1 : B.1 < dac w h * dac w h) (hB2 : B.2.1 < 8) (hB3 : -7 ≤ B.2.2.1) (hB4 : B.2.2.1 ≤ 7) (hB5 : -256 ≤ B.2.2.2.1) (hB6 : B.2.2.2.1 ≤ 767) :
    ins w F (addF F c x y (2 * h) B) c (c + 1) (sqR x y (2 * h)) := by
  have f0 : addF F c x y (2 * h) B (8 * c) = (x : Int) := by have := addF_new (F := F) (c := c) (x := x) (y := y) (s := 2 * h) (j := 0) (B := B); exact this
  have f1 : addF F c x y (2 * h) B (8 * c + 1) = (y : Int) := addF_new
  have f2 : addF F c x y (2 * h) B (8 * c + 2) = ((2 * h : Nat) : Int) := addF_new
  have f3 : addF F c x y (2 * h) B (8 * c + 3) = (B.1 : Int) := addF_new
  have f4 : addF F c x y (2 * h) B (8 * c + 4) = (B.2.1 : Int) := addF_new
  have f5 : addF F c x y (2 * h) B (8 * c + 5) = B.2.2.1 := addF_new
  have f6 : addF F c x y (2 * h) B (8 * c + 6) = B.2.2.2.1 := addF_new
  have e0 : bX (addF F c x y (2 * h) B) c = x := by unfold bX; rw [f0]; rfl
  have e1 : bY (addF F c x y (2 * h) B) c = y := by unfold bY; rw [f1]; rfl
  have e2 : bH (addF F c x y (2 * h) B) c = h := by unfold bH; rw [f2]; show 2 * h / 2 = h; omega
  have e3 : bD (addF F c x y (2 * h) B) c = B.1 := by unfold bD; rw [f3]; rfl
  have e4 : bT (addF F c x y (2 * h) B) c = B.2.1 := by unfold bT; rw [f4]; rfl
  refine ⟨by omega, fun k hk => addF_old hk, fun i q1 q2 => ?_, fun i j q1 q2 q3 => by omega⟩
  obtain rfl : i = c := by omega
  unfold okB sqR
  rw [e0, e1, e2, e3, e4, f0, f1, f2, f3, f4, f5, f6]
  exact ⟨⟨⟨rfl, rfl, rfl, rfl, rfl⟩, h1, h2, hx, hy, hB1, hB2, hB3, hB4, hB5, hB6⟩, by omega⟩
theorem eSq_ins {p : Nat → Nat} {w least bd : Nat} (hw : w ≤ 16) (hp : ∀ k, k < 2 * w * (2 * w) → p k ≤ 255) : ∀ (d x y : Nat) (e : ES), 2 * 2 ^ d ≤ w → x + 2 * 2 ^ d ≤ 2 * w → y + 2 * 2 ^ d ≤ 2 * w → ins w e.2.1 (eSq p w least bd d x y e).2.1 e.1 (eSq p w least bd d x y e).1 (sqR x y (2 * 2 ^ d)) := by
  have leaf : ∀ (h x y : Nat) (e : ES), 0 < h → 2 * h ≤ w → x + 2 * h ≤ 2 * w → y + 2 * h ≤ 2 * w → ins w e.2.1 (eLeaf w h x y (best p w h x y).1 e).2.1 e.1 (eLeaf w h x y (best p w h x y).1 e).1 (sqR x y (2 * h)) := by
    intro h x y e h1 h2 hx hy
    obtain ⟨⟨_, b1, b2, b3, b4, b5, b6⟩, _⟩ := best_val (p := p) (w := w) (h := h) (x := x) (y := y) h1 (by omega) h2 hx hy hp
    exact ins_leaf h1 h2 hx hy b1 b2 b3 b4 (by omega) (by omega)
  intro d
  induction d with
  | zero =>
    intro x y e hd hx hy
    rw [eSq]
    exact leaf (2 ^ 0) x y (eTr (best p w (2 ^ 0) x y).2 e) (by omega) hd hx hy
  | succ d ih =>
    intro x y e hd hx hy
    have t1 := two_pos' d
    have t2 := two_succ d
    rw [eSq]
    split
    · exact leaf (2 ^ (d + 1)) x y (eTr (best p w (2 ^ (d + 1)) x y).2 e) (by omega) hd hx hy
    · split
      · exact leaf (2 ^ (d + 1)) x y (eBit 0 (eTr (best p w (2 ^ (d + 1)) x y).2 e)) (by omega) hd hx hy
      · have i1 := ih x y (eBit 1 (eTr (best p w (2 ^ (d + 1)) x y).2 e)) (by omega) (by omega) (by omega)
        have i2 := ih (x + 2 * 2 ^ d) y (eSq p w least bd d x y (eBit 1 (eTr (best p w (2 ^ (d + 1)) x y).2 e))) (by omega) (by omega) (by omega)
        have i3 := ih x (y + 2 * 2 ^ d) (eSq p w least bd d (x + 2 * 2 ^ d) y (eSq p w least bd d x y (eBit 1 (eTr (best p w (2 ^ (d + 1)) x y).2 e)))) (by omega) (by omega) (by omega)
        have i4 := ih (x + 2 * 2 ^ d) (y + 2 * 2 ^ d) (eSq p w least bd d x (y + 2 * 2 ^ d) (eSq p w least bd d (x + 2 * 2 ^ d) y (eSq p w least bd d x y (eBit 1 (eTr (best p w (2 ^ (d + 1)) x y).2 e))))) (by omega) (by omega) (by omega)
        have := ins_four i1 i2 i3 i4
        rw [show 2 * (2 * 2 ^ d) = 2 * 2 ^ (d + 1) by rw [t2]] at this
        exact this
theorem ins_okF {w c : Nat} {F F' : Nat → Int} {R : Nat → Nat → Nat → Prop} (h : ins w F F' 0 c R) : okF w F' c := ⟨fun i hi => (h.2.2.1 i (Nat.zero_le _) hi).1, fun i j h1 h2 => h.2.2.2 i j (Nat.zero_le _) h1 h2⟩
theorem encOf_ok {p : Nat → Nat} {w d j bd : Nat} (hw : w ≤ 16) (hwd : w = 2 * 2 ^ d) (hp : ∀ k, k < 2 * w * (2 * w) → p k ≤ 255) : okF w (encOf p w d j bd).2.1 (encOf p w d j bd).1 := by
  have i1 := eSq_ins (least := 2 ^ j) (bd := bd) hw hp d 0 0 (0, fun _ => 0, 3, apN j 3 (fun _ => 0) 0, 0) (by omega) (by omega) (by omega)
  have i2 := eSq_ins (least := 2 ^ j) (bd := bd) hw hp d (0 + 2 * 2 ^ d) 0 (eSq p w (2 ^ j) bd d 0 0 (0, fun _ => 0, 3, apN j 3 (fun _ => 0) 0, 0)) (by omega) (by omega) (by omega)
  have i3 := eSq_ins (least := 2 ^ j) (bd := bd) hw hp d 0 (0 + 2 * 2 ^ d) (eSq p w (2 ^ j) bd d (0 + 2 * 2 ^ d) 0 (eSq p w (2 ^ j) bd d 0 0 (0, fun _ => 0, 3, apN j 3 (fun _ => 0) 0, 0))) (by omega) (by omega) (by omega)
  have i4 := eSq_ins (least := 2 ^ j) (bd := bd) hw hp d (0 + 2 * 2 ^ d) (0 + 2 * 2 ^ d) (eSq p w (2 ^ j) bd d 0 (0 + 2 * 2 ^ d) (eSq p w (2 ^ j) bd d (0 + 2 * 2 ^ d) 0 (eSq p w (2 ^ j) bd d 0 0 (0, fun _ => 0, 3, apN j 3 (fun _ => 0) 0, 0)))) (by omega) (by omega) (by omega)
  exact ins_okF (ins_four i1 i2 i3 i4)
/-! what is read -/
def rIns (w : Nat) (q : RS) (s : Nat ⊕ RS) (R : Nat → Nat → Nat → Prop) : Prop := ∀ q', s = .inr q' → ins w q.2.2 q'.2.2 q.2.1 q'.2.1 R
theorem rLeaf_ins {g : Nat → Nat} {T w h x y : Nat} {q : RS} (h1 : 0 < h) (h2 : 2 * h ≤ w) (hx : x + 2 * h ≤ 2 * w) (hy : y + 2 * h ≤ 2 * w) : rIns w q (rLeaf g T w h x y q) (sqR x y (2 * h)) := by
  intro q' e
  unfold rLeaf at e
  cases hb : rFit g T w h q.1 with
  | inl e2 => rw [hb] at e; cases e
  | inr b =>
    rw [hb] at e
    have e := Sum.inr.inj e
    subst e
    obtain ⟨_, b1, b2, b3, b4, b5, b6⟩ := rFit_le hb
    exact ins_leaf h1 h2 hx hy b1 b2 b3 b4 b5 b6
theorem rQ_ins {g : Nat → Nat} {T w least d x y : Nat} {q : RS} (ih : ∀ (x y : Nat) (q : RS), x + 2 * 2 ^ d ≤ 2 * w → y + 2 * 2 ^ d ≤ 2 * w → rIns w q (rSq g T w least d x y q) (sqR x y (2 * 2 ^ d))) (hx : x + 4 * 2 ^ d ≤ 2 * w) (hy : y + 4 * 2 ^ d ≤ 2 * w) : rIns w q (rQ g T w least d x y q) (sqR x y (2 * (2 * 2 ^ d))) := by
  intro q' e
  unfold rQ at e
  have i1 := ih x y q (by omega) (by omega)
  cases h1 : rSq g T w least d x y q with
  | inl e2 => rw [h1] at e; cases e
  | inr q1 =>
    rw [h1] at e
    have e : rBind (rSq g T w least d (x + 2 * 2 ^ d) y q1) _ = Sum.inr q' := e
    have i2 := ih (x + 2 * 2 ^ d) y q1 (by omega) (by omega)
    cases h2 : rSq g T w least d (x + 2 * 2 ^ d) y q1 with
    | inl e2 => rw [h2] at e; cases e
    | inr q2 =>
      rw [h2] at e
      have e : rBind (rSq g T w least d x (y + 2 * 2 ^ d) q2) _ = Sum.inr q' := e
      have i3 := ih x (y + 2 * 2 ^ d) q2 (by omega) (by omega)
      cases h3 : rSq g T w least d x (y + 2 * 2 ^ d) q2 with
      | inl e2 => rw [h3] at e; cases e
      | inr q3 =>
        rw [h3] at e
        have e : rSq g T w least d (x + 2 * 2 ^ d) (y + 2 * 2 ^ d) q3 = Sum.inr q' := e
        have i4 := ih (x + 2 * 2 ^ d) (y + 2 * 2 ^ d) q3 (by omega) (by omega)
        exact ins_four (i1 q1 h1) (i2 q2 h2) (i3 q3 h3) (i4 q' e)
theorem rSq_ins {g : Nat → Nat} {T w least : Nat} : ∀ d, 2 * 2 ^ d ≤ w → ∀ (x y : Nat) (q : RS), x + 2 * 2 ^ d ≤ 2 * w → y + 2 * 2 ^ d ≤ 2 * w → rIns w q (rSq g T w least d x y q) (sqR x y (2 * 2 ^ d)) := by
  intro d
  induction d with
  | zero => intro hd x y q hx hy; rw [rSq]; exact rLeaf_ins (by omega) hd hx hy
  | succ d ih =>
    intro hd x y q hx hy
    have t1 := two_pos' d
    have t2 := two_succ d
    rw [rSq]
    split
    · exact rLeaf_ins (by omega) hd hx hy
    · split
      · split
        · have := rQ_ins (q := (q.1 + 1, q.2)) (ih (by omega)) (x := x) (y := y) (by omega) (by omega)
          rw [show 2 * (2 * 2 ^ d) = 2 * 2 ^ (d + 1) by rw [t2]] at this
          exact this
        · exact rLeaf_ins (q := (q.1 + 1, q.2)) (by omega) hd hx hy
      · intro q' e; cases e
theorem rAll_ok {g : Nat → Nat} {N w d : Nat} {q : Nat × (Nat → Int)} (hwd : w = 2 * 2 ^ d) (e : rAll g N w d = .inr q) : okF w q.2 q.1 ∧ q.1 ≤ w * w := by
  have e4 : w * w = 4 * 4 ^ d := by rw [hwd]; exact four_two d
  unfold rAll at e
  by_cases c1 : 3 ≤ 8 * N
  · rw [if_pos c1] at e
    by_cases c2 : 1 ≤ tk g 0 3 ∧ tk g 0 3 ≤ 4 ∧ 2 ^ tk g 0 3 ≤ w
    · rw [if_pos c2] at e
      have i1 := rQ_ins (g := g) (T := 8 * N) (w := w) (least := 2 ^ tk g 0 3) (d := d) (x := 0) (y := 0) (q := (3, 0, fun _ => 0)) (rSq_ins d (by omega)) (by omega) (by omega)
      have l1 := rQ_le (g := g) (w := w) (d := d) (T := 8 * N) (least := 2 ^ tk g 0 3) (x := 0) (y := 0) (q := (3, 0, fun _ => 0))
      cases h : rQ g (8 * N) w (2 ^ tk g 0 3) d 0 0 (3, 0, fun _ => 0) with
      | inl e2 => rw [h] at e; cases e
      | inr q1 =>
        rw [h] at e
        have e : @ite _ (8 * N - q1.1 ≤ 7 ∧ allz g q1.1 (8 * N - q1.1)) (Classical.propDecidable _) (Sum.inr q1.2) (Sum.inl 4) = Sum.inr q := e
        by_cases c3 : 8 * N - q1.1 ≤ 7 ∧ allz g q1.1 (8 * N - q1.1)
        · rw [if_pos c3] at e
          have e := Sum.inr.inj e
          subst e
          have := (l1 q1 h).2
          dsimp only at this
          exact ⟨ins_okF (i1 q1 h), by omega⟩
        · rw [if_neg c3] at e; cases e
    · rw [if_neg c2] at e; cases e
  · rw [if_neg c1] at e; cases e
