/-! the reference reads: a pile of squares -/
abbrev Z7 := Int32 × Int32 × Int32 × Int32 × (Nat → Int32) × (Nat → Int32) × (Nat → Int32)
def rL (kn n : Nat) (f : Nat → Int32) (ln bn : Nat) (nu l S fm : Int32) (F : Nat) (z : Z7) : Option Z7 := f_M_read_86 nu l S fm kn n f ln bn F z.1 z.2.1 z.2.2.1 z.2.2.2.1 z.2.2.2.2.1 z.2.2.2.2.2.1 z.2.2.2.2.2.2
def mRel (q : RS) (k : Nat) (z : Z7) : Prop := z.1 = nI q.2.1 ∧ z.2.1 = nI q.1 ∧ z.2.2.1 = iM ∧ z.2.2.2.1 = nI k ∧ kRep 2048 z.2.2.2.2.1 q.2.2 q.2.1
def mOk (s : Nat ⊕ RS) (k : Nat) (z r : Z7) : Prop := (∀ j, j < 2048 → r.2.2.2.2.1 j = z.2.2.2.2.1 j) ∧ Sum.elim (fun e => r.2.2.1 = nI e ∧ e ≤ 4) (fun q => mRel q k r ∧ ∀ j, j < 3 * k → r.2.2.2.2.2.1 j = z.2.2.2.2.2.1 j) s
section
variable {kn N n ln bn : Nat} {f : Nat → Int32} {g : Nat → Nat} {w least : Nat} {nu : Int32}
theorem rL_pop {h x y k F : Nat} {q : RS} {z : Z7} {l S fm : Int32} (hk : 3 * (k + 1) ≤ ln) (hln : ln ≤ 96) (hz : mRel q (k + 1) z) (hp : pl z.2.2.2.2.2.1 k x y (2 * h)) :
    rL kn n f ln bn nu l S fm (F + 1) z = if nI (2 * h) ≤ l then ((f_M_readBlock (nI x) (nI y) (nI (2 * h)) S (nI q.2.1) fm (nI q.1) iM kn z.2.2.2.2.1 n f bn z.2.2.2.2.2.2).bind (fun r => rL kn n f ln bn nu l S fm F (r.1, r.2.1, r.2.2.1, nI k, r.2.2.2.1, z.2.2.2.2.2.1, r.2.2.2.2)))
      else ((f_M_take 1 fm (nI q.1) iM n f).bind (fun u => if u.1 = 1 then ((f_M_pileQuarters (nI x) (nI y) (nI (2 * h)) (nI k) ln z.2.2.2.2.2.1).bind (fun v => rL kn n f ln bn nu l S fm F (nI q.2.1, u.2.1, u.2.2, v.1, z.2.2.2.2.1, v.2, z.2.2.2.2.2.2)))
        else ((f_M_readBlock (nI x) (nI y) (nI (2 * h)) S (nI q.2.1) fm u.2.1 u.2.2 kn z.2.2.2.2.1 n f bn z.2.2.2.2.2.2).bind (fun r => rL kn n f ln bn nu l S fm F (r.1, r.2.1, r.2.2.1, nI k, r.2.2.2.1, z.2.2.2.2.2.1, r.2.2.2.2))))) := by
  obtain ⟨z1, z2, z3, z4, _⟩ := hz
  obtain ⟨p1, p2, p3⟩ := hp
  have i0 : ¬ nI (k + 1) ≤ 0 := by rw [n0, nJ_leF (by omega) (by omega)]; exact not_false
  have ek : nI (k + 1) - 1 = nI k := by rw [n1, nJ_sub (by omega)]; rfl
  have c0 : (3 : Int32) * nI k = nI (3 * k) := by rw [n3, nJ_mul]
  have c1 : nI (3 * k) + 1 = nI (3 * k + 1) := by rw [n1, nJ_add]
  have c2 : nI (3 * k) + 2 = nI (3 * k + 2) := by rw [n2, nJ_add]
  have k0 : (nI (3 * k)).toNatClampNeg = 3 * k := nJ_clamp (by omega)
  have k1 : (nI (3 * k + 1)).toNatClampNeg = 3 * k + 1 := nJ_clamp (by omega)
  have k2 : (nI (3 * k + 2)).toNatClampNeg = 3 * k + 2 := nJ_clamp (by omega)
  have d0 : ¬ (nI (3 * k) < 0 ∨ ln ≤ 3 * k) := by rw [n0, nJ_ltF (by omega) (by omega), false_or]; omega
  have d1 : ¬ (nI (3 * k + 1) < 0 ∨ ln ≤ 3 * k + 1) := by rw [n0, nJ_ltF (by omega) (by omega), false_or]; omega
  have d2 : ¬ (nI (3 * k + 2) < 0 ∨ ln ≤ 3 * k + 2) := by rw [n0, nJ_ltF (by omega) (by omega), false_or]; omega
  unfold rL
  rw [f_M_read_86, z4, if_neg i0, z3, if_neg i0M, ek, c0, c1, c2, k0, k1, k2, if_neg d0, if_neg d1, if_neg d2, p1, p2, p3, z1, z2]
/-- a square on the pile is read rightly -/
def RdOkM (kn N n : Nat) (f : Nat → Int32) (ln bn : Nat) (nu : Int32) (g : Nat → Nat) (w least d : Nat) : Prop := ∀ (x y k : Nat) (q : RS) (z : Z7), x + 2 * 2 ^ d ≤ 2 * w → y + 2 * 2 ^ d ≤ 2 * w → q.1 ≤ 8 * N → mRel q (k + 1) z → pl z.2.2.2.2.2.1 k x y (2 * 2 ^ d) → q.2.1 + 4 ^ d ≤ w * w → 3 * (k + 1 + 3 * d) ≤ ln →
  ∃ c r, c + 1 ≤ 2 * 4 ^ d ∧ (∀ F, rL kn n f ln bn nu (nI least) (nI (2 * w)) (nI N) (F + c) z = rL kn n f ln bn nu (nI least) (nI (2 * w)) (nI N) F r) ∧ mOk (rSq g (8 * N) w least d x y q) k z r
theorem l_rQ {d : Nat} (hw : w ≤ 16) (ih : RdOkM kn N n f ln bn nu g w least d) {x y k : Nat} {q : RS} {z : Z7} (hx : x + 4 * 2 ^ d ≤ 2 * w) (hy : y + 4 * 2 ^ d ≤ 2 * w) (hq : q.1 ≤ 8 * N) (hz : mRel q (k + 4) z)
    (q0 : pl z.2.2.2.2.2.1 k (x + 2 * 2 ^ d) (y + 2 * 2 ^ d) (2 * 2 ^ d)) (q1 : pl z.2.2.2.2.2.1 (k + 1) x (y + 2 * 2 ^ d) (2 * 2 ^ d)) (q2 : pl z.2.2.2.2.2.1 (k + 2) (x + 2 * 2 ^ d) y (2 * 2 ^ d)) (q3 : pl z.2.2.2.2.2.1 (k + 3) x y (2 * 2 ^ d))
    (hc : q.2.1 + 4 * 4 ^ d ≤ w * w) (hl : 3 * (k + 4 + 3 * d) ≤ ln) :
    ∃ c r, c + 4 ≤ 8 * 4 ^ d ∧ (∀ F, rL kn n f ln bn nu (nI least) (nI (2 * w)) (nI N) (F + c) z = rL kn n f ln bn nu (nI least) (nI (2 * w)) (nI N) F r) ∧ mOk (rQ g (8 * N) w least d x y q) k z r := by
  have f1 := four_pos d
  have t1 := two_pos' d
  unfold rQ
  obtain ⟨c1, r1, s1, a1, e1, b1⟩ := ih x y (k + 3) q z (by omega) (by omega) hq hz q3 (by omega) (by omega)
  have l1 := rSq_le (g := g) (T := 8 * N) (w := w) (least := least) d x y q
  cases h1 : rSq g (8 * N) w least d x y q with
  | inl e =>
    rw [h1] at b1
    exact ⟨c1, r1, by omega, a1, e1, b1⟩
  | inr u1 =>
    rw [h1] at b1 l1
    obtain ⟨b1, p1⟩ := b1
    obtain ⟨v1, v2⟩ := l1 u1 rfl
    obtain ⟨c2, r2, s2, a2, e2, b2⟩ := ih (x + 2 * 2 ^ d) y (k + 2) u1 r1 (by omega) (by omega) v1 b1 (pl_of q2 (fun j hj => p1 j (by omega))) (by omega) (by omega)
    have l2 := rSq_le (g := g) (T := 8 * N) (w := w) (least := least) d (x + 2 * 2 ^ d) y u1
    show ∃ c r, _ ∧ _ ∧ mOk (rBind (rSq g (8 * N) w least d (x + 2 * 2 ^ d) y u1) _) k z r
    cases h2 : rSq g (8 * N) w least d (x + 2 * 2 ^ d) y u1 with
    | inl e =>
      rw [h2] at b2
      refine ⟨c2 + c1, r2, by omega, fun F => ?_, fun j hj => (e2 j hj).trans (e1 j hj), b2⟩
      rw [show F + (c2 + c1) = F + c2 + c1 by omega, a1, a2]
    | inr u2 =>
      rw [h2] at b2 l2
      obtain ⟨b2, p2⟩ := b2
      obtain ⟨v3, v4⟩ := l2 u2 rfl
      obtain ⟨c3, r3, s3, a3, e3, b3⟩ := ih x (y + 2 * 2 ^ d) (k + 1) u2 r2 (by omega) (by omega) v3 b2 (pl_of q1 (fun j hj => (p2 j (by omega)).trans (p1 j (by omega)))) (by omega) (by omega)
      have l3 := rSq_le (g := g) (T := 8 * N) (w := w) (least := least) d x (y + 2 * 2 ^ d) u2
      show ∃ c r, _ ∧ _ ∧ mOk (rBind (rSq g (8 * N) w least d x (y + 2 * 2 ^ d) u2) _) k z r
      cases h3 : rSq g (8 * N) w least d x (y + 2 * 2 ^ d) u2 with
      | inl e =>
        rw [h3] at b3
        refine ⟨c3 + c2 + c1, r3, by omega, fun F => ?_, fun j hj => (e3 j hj).trans ((e2 j hj).trans (e1 j hj)), b3⟩
        rw [show F + (c3 + c2 + c1) = F + c3 + c2 + c1 by omega, a1, a2, a3]
      | inr u3 =>
        rw [h3] at b3 l3
        obtain ⟨b3, p3⟩ := b3
        obtain ⟨v5, v6⟩ := l3 u3 rfl
        obtain ⟨c4, r4, s4, a4, e4, b4⟩ := ih (x + 2 * 2 ^ d) (y + 2 * 2 ^ d) k u3 r3 (by omega) (by omega) v5 b3 (pl_of q0 (fun j hj => (p3 j (by omega)).trans ((p2 j (by omega)).trans (p1 j (by omega))))) (by omega) (by omega)
        refine ⟨c4 + c3 + c2 + c1, r4, by omega, fun F => ?_, fun j hj => (e4 j hj).trans ((e3 j hj).trans ((e2 j hj).trans (e1 j hj))), ?_⟩
        · rw [show F + (c4 + c3 + c2 + c1) = F + c4 + c3 + c2 + c1 by omega, a1, a2, a3, a4]
        · show Sum.elim _ _ (rSq g (8 * N) w least d (x + 2 * 2 ^ d) (y + 2 * 2 ^ d) u3)
          cases h4 : rSq g (8 * N) w least d (x + 2 * 2 ^ d) (y + 2 * 2 ^ d) u3 with
          | inl e => rw [h4] at b4; exact b4
          | inr u4 =>
            rw [h4] at b4
            exact ⟨b4.1, fun j hj => (b4.2 j hj).trans ((p3 j (by omega)).trans ((p2 j (by omega)).trans (p1 j (by omega))))⟩
/-- a leaf of the reference -/
theorem l_rLeaf {h x y k : Nat} {q : RS} {z : Z7} {wy : Int32} (hw : w ≤ 16) (h1 : 0 < h) (h2 : 2 * h ≤ w) (hN : N ≤ n) (hn : n ≤ 2000) (hr : fRep f g N) (hkn : kn = 4096) (hb : 4 ≤ bn) (hq : q.1 ≤ 8 * N) (hk : kRep 2048 z.2.2.2.2.1 q.2.2 q.2.1) (hc : q.2.1 + 1 ≤ w * w) (hwy : wy = iM) :
    ∃ r, f_M_readBlock (nI x) (nI y) (nI (2 * h)) (nI (2 * w)) (nI q.2.1) (nI N) (nI q.1) wy kn z.2.2.2.2.1 n f bn z.2.2.2.2.2.2 = some r ∧ mOk (rLeaf g (8 * N) w h x y q) k z (r.1, r.2.1, r.2.2.1, nI k, r.2.2.2.1, z.2.2.2.2.2.1, r.2.2.2.2) := by
  subst hwy
  have hww : w * w ≤ 16 * 16 := Nat.mul_le_mul hw hw
  obtain ⟨r, a1, a2⟩ := l_M_readBlock (x := x) (y := y) (w := w) (h := h) (t := q.1) (c := q.2.1) (F := q.2.2) (K := z.2.2.2.2.1) (bf := z.2.2.2.2.2.2) (kn := kn) (bn := bn) hw h1 h2 hq hN hn hr (by omega) hkn hb hk
  refine ⟨r, a1, ?_⟩
  unfold rLeaf
  cases hf : rFit g (8 * N) w h q.1 with
  | inl e =>
    rw [hf] at a2
    exact ⟨a2.2.2, a2.1, a2.2.1⟩
  | inr b =>
    rw [hf] at a2
    obtain ⟨c1, c2, c3, c4, c5⟩ := a2
    exact ⟨c5, ⟨c1, c2, c3, rfl, c4⟩, fun _ _ => rfl⟩
theorem l_rL (hw : w ≤ 16) (hl2 : 2 ≤ least) (hl : least ≤ 16) (hN : N ≤ n) (hn : n ≤ 2000) (hr : fRep f g N) (hkn : kn = 4096) (hb : 4 ≤ bn) (hln : ln ≤ 96) :
    ∀ d, 2 * 2 ^ d ≤ w → RdOkM kn N n f ln bn nu g w least d := by
  intro d
  induction d with
  | zero =>
    intro hd x y k q z hx hy hq hz hp hc hk
    have e4 : 4 ^ 0 = 1 := rfl
    rw [e4] at hc ⊢
    rw [rSq]
    have g1 : nI (2 * 2 ^ 0) ≤ nI least := by rw [nJ_leT (by omega) (by omega)]; exact trivial
    obtain ⟨r, a1, a2⟩ := l_rLeaf (x := x) (y := y) (k := k) (z := z) (wy := iM) hw (show 0 < 2 ^ 0 by omega) hd hN hn hr hkn hb hq hz.2.2.2.2 hc rfl
    refine ⟨1, _, by omega, fun F => ?_, a2⟩
    rw [rL_pop (by omega) hln hz hp, if_pos g1, a1, Option.bind_some]
  | succ d ih =>
    intro hd x y k q z hx hy hq hz hp hc hk
    have f1 := four_pos d
    have f2 := four_succ d
    have t1 := two_pos' d
    have t2 := two_succ d
    rw [rSq]
    by_cases g0 : 2 * 2 ^ (d + 1) ≤ least
    · rw [if_pos g0]
      have g1 : nI (2 * 2 ^ (d + 1)) ≤ nI least := by rw [nJ_leT (by omega) (by omega)]; exact trivial
      obtain ⟨r, a1, a2⟩ := l_rLeaf (x := x) (y := y) (k := k) (z := z) (wy := iM) hw (show 0 < 2 ^ (d + 1) by omega) hd hN hn hr hkn hb hq hz.2.2.2.2 (by omega) rfl
      refine ⟨1, _, by omega, fun F => ?_, a2⟩
      rw [rL_pop (by omega) hln hz hp, if_pos g1, a1, Option.bind_some]
    · rw [if_neg g0]
      have g1 : ¬ nI (2 * 2 ^ (d + 1)) ≤ nI least := by rw [nJ_leF (by omega) (by omega)]; exact not_false
      by_cases c1 : q.1 + 1 ≤ 8 * N
      · rw [if_pos c1]
        have tt := l_M_take_T (k := 1) (by omega) c1 hN hn hr
        have eb : tk g q.1 1 = bt g q.1 := by
          show 2 * 0 + bt g (q.1 + 0) = _
          rw [Nat.add_zero]; omega
        rw [eb] at tt
        have lt := bt_lt g q.1
        have tt : f_M_take 1 (nI N) (nI q.1) iM n f = some (nI (bt g q.1), nI (q.1 + 1), iM) := tt
        by_cases c2 : bt g q.1 = 1
        · rw [if_pos c2]
          obtain ⟨P', y1, y2, y3, y4, y5, y6⟩ := l_pileQ (k := k) (n := ln) (x := x) (y := y) (h := 2 * 2 ^ d) (f := z.2.2.2.2.2.1) (by omega) hln (by omega)
          have hz2 : mRel (q.1 + 1, q.2) (k + 4) (nI q.2.1, nI (q.1 + 1), iM, nI (k + 4), z.2.2.2.2.1, P', z.2.2.2.2.2.2) := ⟨rfl, rfl, rfl, rfl, hz.2.2.2.2⟩
          obtain ⟨c, r, k0, k1, k2, k3⟩ := l_rQ hw (ih (by omega)) (x := x) (y := y) (k := k) (by omega) (by omega) c1 hz2 y2 y3 y4 y5 (show q.2.1 + 4 * 4 ^ d ≤ w * w by omega) (by omega)
          refine ⟨c + 1, r, by omega, fun F => ?_, k2, ?_⟩
          · have y1' : f_M_pileQuarters (nI x) (nI y) (nI (2 * 2 ^ (d + 1))) (nI k) ln z.2.2.2.2.2.1 = some (nI (k + 4), P') := by rw [t2]; exact y1
            rw [show F + (c + 1) = F + c + 1 by omega, rL_pop (by omega) hln hz hp, if_neg g1, tt, Option.bind_some, if_pos (by rw [c2]; rfl), y1', Option.bind_some]
            exact k1 F
          · show Sum.elim _ _ (rQ g (8 * N) w least d x y (q.1 + 1, q.2))
            cases h4 : rQ g (8 * N) w least d x y (q.1 + 1, q.2) with
            | inl e => rw [h4] at k3; exact k3
            | inr u4 => rw [h4] at k3; exact ⟨k3.1, fun j hj => (k3.2 j hj).trans (y6 j hj)⟩
        · rw [if_neg c2]
          obtain ⟨r, a1, a2⟩ := l_rLeaf (q := (q.1 + 1, q.2)) (x := x) (y := y) (k := k) (z := z) (wy := iM) hw (show 0 < 2 ^ (d + 1) by omega) hd hN hn hr hkn hb c1 hz.2.2.2.2 (show q.2.1 + 1 ≤ w * w by omega) rfl
          refine ⟨1, _, by omega, fun F => ?_, a2⟩
          rw [rL_pop (by omega) hln hz hp, if_neg g1, tt, Option.bind_some, if_neg (by rw [n1, nJ_eqF c2 (by omega) (by omega)]; exact not_false)]
          dsimp only at a1 ⊢
          rw [a1, Option.bind_some]
      · rw [if_neg c1]
        have tt := l_M_take_F (k := 1) (by omega) c1 hq hN hn hr
        have tt : f_M_take 1 (nI N) (nI q.1) iM n f = some (0, nI (8 * N), 3) := tt
        obtain ⟨bf', xx⟩ := rb_X (w := w) (h := 2 ^ (d + 1)) (N := N) (n := n) (f := f) (kn := kn) (bn := bn) (p1 := nI x) (p2 := nI y) (fo := nI q.2.1) (K := z.2.2.2.2.1) (bf := z.2.2.2.2.2.2) (e := 3) (ra := nI (8 * N)) hw (by omega) hd (by omega) hb
        have xx : f_M_readBlock (nI x) (nI y) (nI (2 * 2 ^ (d + 1))) (nI (2 * w)) (nI q.2.1) (nI N) (nI (8 * N)) 3 kn z.2.2.2.2.1 n f bn z.2.2.2.2.2.2 = _ := xx
        refine ⟨1, (nI q.2.1, nI (8 * N), nI 3, nI k, z.2.2.2.2.1, z.2.2.2.2.2.1, bf'), by omega, fun F => ?_, fun _ _ => rfl, rfl, by omega⟩
        rw [rL_pop (by omega) hln hz hp, if_neg g1, tt, Option.bind_some, if_neg (show ¬ (0 : Int32) = 1 by decide)]
        dsimp only
        rw [xx, Option.bind_some]
end
/-! reading as a whole -/
/-- what waits, read: why not, or the blocks and their facts -/
noncomputable def rAll (g : Nat → Nat) (N w d : Nat) : Nat ⊕ (Nat × (Nat → Int)) :=
  if 3 ≤ 8 * N then
    (if 1 ≤ tk g 0 3 ∧ tk g 0 3 ≤ 4 ∧ 2 ^ tk g 0 3 ≤ w then
      Sum.elim (fun e => .inl e) (fun q => @ite _ (8 * N - q.1 ≤ 7 ∧ allz g q.1 (8 * N - q.1)) (Classical.propDecidable _) (.inr q.2) (.inl 4)) (rQ g (8 * N) w (2 ^ tk g 0 3) d 0 0 (3, 0, fun _ => 0))
    else .inl 0)
  else .inl 3
section
variable {kn N n ln bn : Nat} {f : Nat → Int32} {g : Nat → Nat} {w d : Nat}
theorem rQ_le {T least : Nat} {x y : Nat} {q : RS} : rLe T (4 * 4 ^ d) q (rQ g T w least d x y q) := by
  have := rBind_le (rSq_le (g := g) (T := T) (w := w) (least := least) d x y q) (fun q1 _ => rBind_le (rSq_le (g := g) (T := T) (w := w) (least := least) d (x + 2 * 2 ^ d) y q1) (fun q2 _ => rBind_le (rSq_le (g := g) (T := T) (w := w) (least := least) d x (y + 2 * 2 ^ d) q2) (fun q3 _ => rSq_le (g := g) (T := T) (w := w) (least := least) d (x + 2 * 2 ^ d) (y + 2 * 2 ^ d) q3)))
  exact rLe_mono this (by omega)
def wOk (kp : Nat) (k0 : Int32) (K0 : Nat → Int32) (s : Nat ⊕ (Nat × (Nat → Int))) (r : Int32 × Z8) : Prop := Sum.elim (fun e => r.1 = nI e ∧ e ≤ 4 ∧ (kp = 0 → r.2.1 = k0 ∧ r.2.2.1 = K0)) (fun q => r.1 = iM ∧ (kp = 0 → r.2.1 = k0 ∧ r.2.2.1 = K0) ∧ (kp ≠ 0 → r.2.1 = nI q.1 ∧ kRep 0 r.2.2.1 q.2 q.1)) s
theorem l_F_readWaiting {kp : Nat} {k0 a1 a2 a3 a4 a5 tk0 : Int32} {K0 : Nat → Int32} (hwd : w = 2 * 2 ^ d) (hw : w ≤ 16) (hN : N ≤ n) (hn : n ≤ 2000) (hr : fRep f g N) (hkn : kn = 8 * (w * w)) (hkp : kp < 2) (hk0 : kp ≠ 0 → k0 = 0) :
    ∃ r, f_F_readWaiting (nI kp) (nI (2 * w)) k0 kn K0 a1 a2 a3 a4 a5 (nI (8 * N)) tk0 n f = some r ∧ wOk kp k0 K0 (rAll g N w d) r := by
  have e4 : w * w = 4 * 4 ^ d := by rw [hwd]; exact four_two d
  have f1 := four_pos d
  have hdd : d ≤ 5 := by
    by_cases c : d ≤ 5
    · exact c
    · have : 2 ^ 6 ≤ 2 ^ d := Nat.pow_le_pow_right (by omega) (by omega)
      omega
  have hv : nI (2 * w) / 2 = nI w := by rw [n2, nJ_div (by omega) (by omega)]; congr 1; omega
  unfold f_F_readWaiting f_B_rewind rAll
  rw [Option.bind_some]
  by_cases c1 : 3 ≤ 8 * N
  · rw [if_pos c1]
    have tt := l_B_take_T (t := 0) (k := 3) (by omega) (by omega) hN hn hr
    have tt : f_B_take 3 (nI (8 * N)) 0 n f = some (nI (tk g 0 3), nI 3) := tt
    have jl : tk g 0 3 < 2 ^ 3 := tk_lt g 0 3
    have jl : tk g 0 3 < 8 := jl
    have sb := shl_bits (tk g 0 3) jl 1 (by omega)
    rw [Nat.one_mul] at sb
    have sb : (1 : Int32) <<< (nI (tk g 0 3) &&& 31) = nI (2 ^ tk g 0 3) := sb
    have jb : 2 ^ tk g 0 3 ≤ 128 := (Nat.pow_le_pow_right (n := 2) (by omega) (by omega) : 2 ^ tk g 0 3 ≤ 2 ^ 7)
    rw [tt, Option.bind_some, if_neg (by rw [m1_iM]; dsimp only; rw [iM_eqF (by omega)]; exact not_false)]
    dsimp only
    rw [sb]
    generalize tk g 0 3 = j at jl jb ⊢
    rcases isSize_cases (nI (2 ^ j)) with ⟨h1, _, h2⟩ | ⟨j', p1, p2, p3, h1, _⟩
    · have nj : ¬ (1 ≤ j ∧ j ≤ 4 ∧ 2 ^ j ≤ w) := fun c => h2 j c.1 c.2.1 rfl
      rw [h1, Option.bind_some, if_pos rfl, if_neg nj]
      exact ⟨_, rfl, rfl, by omega, fun _ => ⟨rfl, rfl⟩⟩
    · have hs := size_le p2
      have p3 := nJ_inj p3 (by omega) (by omega)
      have ejj : j = j' := by
        rcases Nat.lt_trichotomy j j' with h | h | h
        · have := Nat.pow_lt_pow_right (a := 2) (by omega) h; omega
        · exact h
        · have := Nat.pow_lt_pow_right (a := 2) (by omega) h; omega
      subst ejj
      rw [h1, Option.bind_some, if_neg (by decide), hv]
      by_cases c2 : 2 ^ j ≤ w
      · rw [if_pos (show nI (2 ^ j) ≤ nI w by rw [nJ_leT c2 (by omega)]; exact trivial), if_pos ⟨p1, p2, c2⟩]
        have hRd := l_cRd (kn := kn) (N := N) (n := n) (f := f) (g := g) (w := w) (least := 2 ^ j) (kp := kp) (k0 := k0) (K0 := K0) hw (size_ge p1) hs hN hn hr hkn hkp d (by omega) 5 hdd
        have hz : zRel kp k0 K0 (3, 0, fun _ => 0) (k0, K0, a1, a2, a3, a4, a5, nI 3) := ⟨rfl, fun _ => ⟨rfl, rfl⟩, fun h => ⟨hk0 h, fun k hk => (Nat.not_lt_zero k hk).elim⟩⟩
        obtain ⟨r, k1, k2⟩ := l_cRq hw hRd (x := 0) (y := 0) (by omega) (by omega) (by omega) (show 3 ≤ 8 * N from c1) hz (show 0 + 4 * 4 ^ d ≤ w * w by omega)
        unfold cRq at k1
        rw [← hwd] at k1
        dsimp only at k1
        have k1 : f_F_readQuarters 6 0 0 (nI w) (nI (2 ^ j)) (nI kp) (nI (2 * w)) k0 kn K0 a1 a2 a3 a4 a5 (nI (8 * N)) (nI 3) n f = some r := k1
        rw [k1, Option.bind_some]
        have hle := rQ_le (g := g) (w := w) (d := d) (T := 8 * N) (least := 2 ^ j) (x := 0) (y := 0) (q := (3, 0, fun _ => 0))
        cases h3 : rQ g (8 * N) w (2 ^ j) d 0 0 (3, 0, fun _ => 0) with
        | inl e =>
          rw [h3] at k2
          obtain ⟨u1, u2, u3⟩ := k2
          rw [if_neg (by rw [u1]; exact nI_ne u2)]
          exact ⟨_, rfl, u1, u2, u3⟩
        | inr q =>
          rw [h3] at k2 hle
          obtain ⟨u1, z1, z2, z3⟩ := k2
          obtain ⟨v1, _⟩ := hle q rfl
          rw [m1_iM, if_pos u1, z1]
          show ∃ r_1, _ ∧ wOk kp k0 K0 (@ite _ (8 * N - q.1 ≤ 7 ∧ allz g q.1 (8 * N - q.1)) (Classical.propDecidable _) (.inr q.2) (.inl 4)) r_1
          unfold f_B_restIsFilling
          rw [nJ_sub v1]
          by_cases c3 : 8 * N - q.1 ≤ 7
          · rw [if_pos (show nI (8 * N - q.1) < 8 by rw [n8, nJ_ltT (by omega) (by omega)]; exact trivial)]
            have rest := l_B_rest (T := 8 * N) rfl hN hn hr (8 * N - q.1) q.1 FU (fu (by omega)) (by omega)
            by_cases c4 : allz g q.1 (8 * N - q.1)
            · obtain ⟨a, ha⟩ := rest.1 c4
              rw [ha, if_pos ⟨c3, c4⟩]
              exact ⟨_, rfl, rfl, z2, z3⟩
            · obtain ⟨a, ha⟩ := rest.2 c4
              rw [ha, if_neg (fun h => c4 h.2)]
              exact ⟨_, rfl, rfl, by omega, z2⟩
          · rw [if_neg (show ¬ nI (8 * N - q.1) < 8 by rw [n8, nJ_ltF (by omega) (by omega)]; exact not_false), if_neg (fun h => c3 h.1)]
            exact ⟨_, rfl, rfl, by omega, z2⟩
      · rw [if_neg (show ¬ nI (2 ^ j) ≤ nI w by rw [nJ_leF (by omega) (by omega)]; exact not_false), if_neg (fun c => c2 c.2.2)]
        exact ⟨_, rfl, rfl, by omega, fun _ => ⟨rfl, rfl⟩⟩
  · rw [if_neg c1]
    have tt := l_B_take_F (f := f) (t := 0) (k := 3) (by omega) (by omega) (by omega) hN hn
    have tt : f_B_take 3 (nI (8 * N)) 0 n f = some (iM, nI 0) := tt
    rw [tt, Option.bind_some, m1_iM, if_pos rfl]
    exact ⟨_, rfl, rfl, by omega, fun _ => ⟨rfl, rfl⟩⟩
/-- the answer of a reading -/
noncomputable def rAns (s : Nat ⊕ (Nat × (Nat → Int))) : Int32 := Sum.elim (fun e => iM - nI e) (fun q => nI q.1) s
theorem l_F_read {k0 a1 a2 a3 a4 a5 tk0 : Int32} {K0 : Nat → Int32} (hwd : w = 2 * 2 ^ d) (hw : w ≤ 16) (hN : N ≤ n) (hn : n ≤ 2000) (hr : fRep f g N) (hkn : kn = 8 * (w * w)) :
    ∃ r, f_F_read (nI (2 * w)) k0 kn K0 a1 a2 a3 a4 a5 (nI (8 * N)) tk0 n f = some r ∧ r.1 = rAns (rAll g N w d) ∧ r.2.2.2.2.2.2.2.2.1 = 0 ∧ Sum.elim (fun _ => r.2.1 = k0 ∧ r.2.2.1 = K0) (fun q => r.2.1 = nI q.1 ∧ kRep 0 r.2.2.1 q.2 q.1) (rAll g N w d) := by
  obtain ⟨r1, b1, b2⟩ := l_F_readWaiting (kp := 0) (k0 := k0) (K0 := K0) (a1 := a1) (a2 := a2) (a3 := a3) (a4 := a4) (a5 := a5) (tk0 := tk0) hwd hw hN hn hr hkn (by omega) (fun h => absurd rfl h)
  have b1 : f_F_readWaiting 0 (nI (2 * w)) k0 kn K0 a1 a2 a3 a4 a5 (nI (8 * N)) tk0 n f = some r1 := b1
  unfold f_F_read f_K_wipe f_B_wipe
  rw [b1, Option.bind_some, m1_iM]
  cases h3 : rAll g N w d with
  | inl e =>
    rw [h3] at b2
    obtain ⟨u1, u2, u3⟩ := b2
    rw [if_neg (by rw [u1]; exact nI_ne u2), Option.bind_some, if_neg (by rw [u1]; exact nI_ne u2), u1]
    exact ⟨_, rfl, rfl, rfl, u3 rfl⟩
  | inr q =>
    rw [h3] at b2
    obtain ⟨u1, u2, u3⟩ := b2
    obtain ⟨r2, c1, c2⟩ := l_F_readWaiting (kp := 1) (k0 := 0) (K0 := r1.2.2.1) (a1 := r1.2.2.2.1) (a2 := r1.2.2.2.2.1) (a3 := r1.2.2.2.2.2.1) (a4 := r1.2.2.2.2.2.2.1) (a5 := r1.2.2.2.2.2.2.2.1) (tk0 := r1.2.2.2.2.2.2.2.2) hwd hw hN hn hr hkn (by omega) (fun _ => rfl)
    have c1 : f_F_readWaiting 1 (nI (2 * w)) 0 kn r1.2.2.1 r1.2.2.2.1 r1.2.2.2.2.1 r1.2.2.2.2.2.1 r1.2.2.2.2.2.2.1 r1.2.2.2.2.2.2.2.1 (nI (8 * N)) r1.2.2.2.2.2.2.2.2 n f = some r2 := c1
    rw [h3] at c2
    obtain ⟨v1, _, v3⟩ := c2
    obtain ⟨v4, v5⟩ := v3 (by omega)
    rw [if_pos u1, Option.bind_some, c1, Option.bind_some, Option.bind_some, if_pos u1, v4]
    exact ⟨_, rfl, rfl, rfl, rfl, v5⟩
theorem mtail_X {e : Nat} {p1 p2 cd my fo ra wt s0 : Int32} {K P bf : Nat → Int32} (he : e ≤ 4) : f_M_read_J213 p1 p2 cd my fo (nI N) ra (nI e) wt kn K n f P bf s0 = some (iM - nI e, cd, my, fo, 0, ra, nI e, wt, K, P, bf) := by
  unfold f_M_read_J213
  have h : ∃ z, f_M_read_220 p1 p2 (nI N) (nI e) n f FU s0 ra = some z := by
    rw [show FU = 1048575 + 1 from rfl, f_M_read_220]
    by_cases c : 8 * nI N ≤ ra
    · rw [if_pos c]; exact ⟨_, rfl⟩
    · rw [if_neg c, if_pos (i0e he)]; exact ⟨_, rfl⟩
  obtain ⟨z, hz⟩ := h
  rw [hz, Option.bind_some, if_pos (i0e he), if_neg (by rw [n0, nJ_ltF (by omega) (by omega)]; exact not_false)]
  rfl
theorem rL_stop {F e : Nat} {nu l S fm : Int32} {z : Z7} (h : z.2.2.1 = nI e) (he : e ≤ 4) : rL kn n f ln bn nu l S fm (F + 1) z = some z := by
  unfold rL
  rw [f_M_read_86]
  by_cases c : z.2.2.2.1 ≤ 0
  · rw [if_pos c]
  · rw [if_neg c, if_pos (by rw [h]; exact i0e he)]
theorem rL_end {F : Nat} {nu l S fm : Int32} {z : Z7} (h : z.2.2.2.1 = nI 0) : rL kn n f ln bn nu l S fm (F + 1) z = some z := by
  unfold rL
  rw [f_M_read_86, if_pos (by rw [h]; decide)]
/-- what the reference's reading gives -/
def mRd (my : Int32) (K : Nat → Int32) (s : Nat ⊕ (Nat × (Nat → Int))) (r : Int32 × Int32 × Int32 × Int32 × Int32 × Int32 × Int32 × Int32 × (Nat → Int32) × (Nat → Int32) × (Nat → Int32)) : Prop :=
  r.2.1 = 0 ∧ r.2.2.2.2.1 = 0 ∧ Sum.elim (fun e => r.1 = iM - nI e ∧ r.2.2.1 = my ∧ ∀ k, k < 2048 → r.2.2.2.2.2.2.2.2.1 k = K k) (fun q => r.1 = nI q.1 ∧ r.2.2.1 = nI q.1 ∧ kRep 0 r.2.2.2.2.2.2.2.2.1 q.2 q.1) s
theorem mJ73_X {e : Nat} {nu l my ra wy : Int32} {K P bf : Nat → Int32} (he : e ≤ 4) (hwd : w = 2 * 2 ^ d) (hw : w ≤ 16) (hln : ln = 96) :
    ∃ r, f_M_read_J73 nu l 0 (nI (2 * w)) my 0 (nI N) ra wy 0 kn K n f ln P bn bf (nI e) = some r ∧ mRd my K (.inl e) r := by
  obtain ⟨P', y1, _⟩ := l_pileQ (k := 0) (n := ln) (x := 0) (y := 0) (h := 2 * 2 ^ d) (f := P) (by omega) (by omega) (by omega)
  have y1 : f_M_pileQuarters 0 0 (nI (2 * w)) 0 ln P = some (nI (0 + 4), P') := by rw [hwd]; exact y1
  have st := rL_stop (kn := kn) (n := n) (f := f) (ln := ln) (bn := bn) (nu := nu) (l := l) (S := nI (2 * w)) (fm := nI N) (F := 1048575) (z := (0, ra, nI e, nI (0 + 4), K, P', bf)) rfl he
  have st : f_M_read_86 nu l (nI (2 * w)) (nI N) kn n f ln bn FU 0 ra (nI e) (nI (0 + 4)) K P' bf = some (0, ra, nI e, nI (0 + 4), K, P', bf) := st
  unfold f_M_read_J73
  rw [y1, Option.bind_some]
  dsimp only
  rw [st, Option.bind_some]
  dsimp only
  by_cases c : 8 * nI N - ra ≤ 7
  · rw [if_pos c, mtail_X he]
    exact ⟨_, rfl, rfl, rfl, rfl, rfl, fun _ _ => rfl⟩
  · rw [if_neg c, mtail_X he]
    exact ⟨_, rfl, rfl, rfl, rfl, rfl, fun _ _ => rfl⟩
theorem l_M_read {my fo ra wy wt : Int32} {K P bf : Nat → Int32} (hwd : w = 2 * 2 ^ d) (hw : w ≤ 16) (hN : N ≤ n) (hn : n ≤ 2000) (hr : fRep f g N) (hkn : kn = 4096) (hb : 4 ≤ bn) (hln : ln = 96) :
    ∃ r, f_M_read (nI (2 * w)) my fo (nI N) ra wy wt kn K n f ln P bn bf = some r ∧ mRd my K (rAll g N w d) r := by
  have e4 : w * w = 4 * 4 ^ d := by rw [hwd]; exact four_two d
  have hww : w * w ≤ 16 * 16 := Nat.mul_le_mul hw hw
  have f1 := four_pos d
  have t1 := two_pos' d
  have hdd : d ≤ 3 := by
    by_cases c : d ≤ 3
    · exact c
    · have : 2 ^ 4 ≤ 2 ^ d := Nat.pow_le_pow_right (by omega) (by omega)
      omega
  unfold f_M_read rAll
  by_cases c1 : 3 ≤ 8 * N
  · rw [if_pos c1]
    have tt := l_M_take_T (t := 0) (k := 3) (by omega) (by omega) hN hn hr
    have tt : f_M_take 3 (nI N) 0 (-1) n f = some (nI (tk g 0 3), nI 3, iM) := tt
    have jl : tk g 0 3 < 2 ^ 3 := tk_lt g 0 3
    have jl : tk g 0 3 < 8 := jl
    have sb := shl_bits (tk g 0 3) jl 1 (by omega)
    rw [Nat.one_mul] at sb
    have sb : (1 : Int32) <<< (nI (tk g 0 3) &&& 31) = nI (2 ^ tk g 0 3) := sb
    have jb : 2 ^ tk g 0 3 ≤ 128 := (Nat.pow_le_pow_right (n := 2) (by omega) (by omega) : 2 ^ tk g 0 3 ≤ 2 ^ 7)
    rw [tt, Option.bind_some]
    dsimp only
    rw [if_neg i0M, sb]
    generalize tk g 0 3 = j at jl jb ⊢
    by_cases cj : 1 ≤ j ∧ j ≤ 4
    · have hin : f_M_in (nI j).toInt64 1 4 = some 1 := by
        have hj : j = 1 ∨ j = 2 ∨ j = 3 ∨ j = 4 := by omega
        rcases hj with rfl | rfl | rfl | rfl <;> decide
      rw [hin, Option.bind_some, if_neg (by decide)]
      by_cases c2 : 2 ^ j ≤ w
      · have gg : 2 * nI (2 ^ j) ≤ nI (2 * w) := by rw [n2, nJ_mul, nJ_leT (by omega) (by omega)]; exact trivial
        rw [if_pos gg, if_pos ⟨cj.1, cj.2, c2⟩]
        obtain ⟨P', y1, y2, y3, y4, y5, _⟩ := l_pileQ (k := 0) (n := ln) (x := 0) (y := 0) (h := 2 * 2 ^ d) (f := P) (by omega) (by omega) (by omega)
        have y1 : f_M_pileQuarters 0 0 (nI (2 * w)) 0 ln P = some (nI (0 + 4), P') := by rw [hwd]; exact y1
        have hRd := l_rL (kn := kn) (N := N) (n := n) (f := f) (ln := ln) (bn := bn) (g := g) (w := w) (least := 2 ^ j) (nu := nI j) hw (size_ge cj.1) (size_le cj.2) hN hn hr hkn hb (by omega) d (by omega)
        have hz : mRel (3, 0, fun _ => 0) (0 + 4) (0, nI 3, iM, nI (0 + 4), K, P', bf) := ⟨rfl, rfl, rfl, rfl, fun k hk => (Nat.not_lt_zero k hk).elim⟩
        obtain ⟨c, r, k0, k1, k2, k3⟩ := l_rQ hw hRd (x := 0) (y := 0) (k := 0) (by omega) (by omega) (show 3 ≤ 8 * N from c1) hz y2 y3 y4 y5 (show 0 + 4 * 4 ^ d ≤ w * w by omega) (by omega)
        have hFU : FU = (FU - c - 1) + 1 + c := by unfold FU; omega
        have hle := rQ_le (g := g) (w := w) (d := d) (T := 8 * N) (least := 2 ^ j) (x := 0) (y := 0) (q := (3, 0, fun _ => 0))
        unfold f_M_read_J73
        rw [y1, Option.bind_some]
        dsimp only
        cases h3 : rQ g (8 * N) w (2 ^ j) d 0 0 (3, 0, fun _ => 0) with
        | inl e =>
          rw [h3] at k3
          have k4 : rL kn n f ln bn (nI j) (nI (2 ^ j)) (nI (2 * w)) (nI N) FU (0, nI 3, iM, nI (0 + 4), K, P', bf) = some r := by
            rw [hFU, k1]; exact rL_stop k3.1 k3.2
          have k4 : f_M_read_86 (nI j) (nI (2 ^ j)) (nI (2 * w)) (nI N) kn n f ln bn FU 0 (nI 3) iM (nI (0 + 4)) K P' bf = some r := k4
          rw [k4, Option.bind_some, k3.1]
          by_cases cc : 8 * nI N - r.2.1 ≤ 7
          · rw [if_pos cc, mtail_X k3.2]
            exact ⟨_, rfl, rfl, rfl, rfl, rfl, k2⟩
          · rw [if_neg cc, mtail_X k3.2]
            exact ⟨_, rfl, rfl, rfl, rfl, rfl, k2⟩
        | inr q =>
          rw [h3] at k3 hle
          obtain ⟨⟨z1, z2, z3, z4, z5⟩, _⟩ := k3
          obtain ⟨v1, v2⟩ := hle q rfl
          have k4 : rL kn n f ln bn (nI j) (nI (2 ^ j)) (nI (2 * w)) (nI N) FU (0, nI 3, iM, nI (0 + 4), K, P', bf) = some r := by
            rw [hFU, k1]; exact rL_end z4
          have k4 : f_M_read_86 (nI j) (nI (2 ^ j)) (nI (2 * w)) (nI N) kn n f ln bn FU 0 (nI 3) iM (nI (0 + 4)) K P' bf = some r := k4
          have tf := l_M_takeFound (c := q.2.1) (n := kn) (f := r.2.2.2.2.1) (by dsimp only at v2; omega) hkn
          have kr : kRep 0 (wr r.2.2.2.2.1 (fun k => r.2.2.2.2.1 (2048 + k)) (8 * q.2.1)) q.2.2 q.2.1 := fun k hk => by
            rw [Nat.zero_add, wr_lt hk]; exact z5 k hk
          rw [k4, Option.bind_some, z1, z2, z3]
          have e8 : 8 * nI N - nI q.1 = nI (8 * N - q.1) := by rw [n8, nJ_mul, nJ_sub v1]
          rw [e8]
          show ∃ r_1, _ ∧ mRd my K (@ite _ (8 * N - q.1 ≤ 7 ∧ allz g q.1 (8 * N - q.1)) (Classical.propDecidable _) (.inr q.2) (.inl 4)) r_1
          have fin : ∀ s, s < 2 → (s = 0 ↔ 8 * N - q.1 ≤ 7) → ∃ r_1, f_M_read_J213 (nI j) (nI (2 ^ j)) 0 my (nI q.2.1) (nI N) (nI q.1) iM r.2.2.2.1 kn r.2.2.2.2.1 n f r.2.2.2.2.2.1 r.2.2.2.2.2.2 (nI s) = some r_1 ∧ mRd my K (@ite _ (8 * N - q.1 ≤ 7 ∧ allz g q.1 (8 * N - q.1)) (Classical.propDecidable _) (.inr q.2) (.inl 4)) r_1 := by
            intro s hs hs7
            obtain ⟨s', zz, w1, w2, w3⟩ := l_M_rest (T := 8 * N) (p1 := nI j) (p2 := nI (2 ^ j)) rfl hN hn hr (8 * N - q.1) q.1 FU s (fu (by omega)) (by omega) hs
            unfold f_M_read_J213
            rw [w1, Option.bind_some, if_neg i0M]
            by_cases c5 : s' = 0
            · have c6 := w3.mp c5
              rw [if_pos (by rw [c5]; rfl), if_pos (show iM < 0 by decide), tf, Option.bind_some, if_pos ⟨hs7.mp c6.1, c6.2⟩]
              exact ⟨_, rfl, rfl, rfl, rfl, rfl, kr⟩
            · rw [if_neg (by dsimp only; rw [n0, nJ_eqF c5 (by omega) (by omega)]; exact not_false), if_neg (show ¬ (4 : Int32) < 0 by decide), if_neg (fun h => c5 (w3.mpr ⟨hs7.mpr h.1, h.2⟩))]
              exact ⟨_, rfl, rfl, rfl, rfl, rfl, k2⟩
          by_cases c7 : 8 * N - q.1 ≤ 7
          · rw [if_pos (show nI (8 * N - q.1) ≤ 7 by rw [n7, nJ_leT c7 (by omega)]; exact trivial)]
            exact fin 0 (by omega) ⟨fun _ => c7, fun _ => rfl⟩
          · rw [if_neg (show ¬ nI (8 * N - q.1) ≤ 7 by rw [n7, nJ_leF (by omega) (by omega)]; exact not_false)]
            exact fin 1 (by omega) ⟨fun h => absurd h (by omega), fun h => absurd h c7⟩
      · have gg : ¬ 2 * nI (2 ^ j) ≤ nI (2 * w) := by rw [n2, nJ_mul, nJ_leF (by omega) (by omega)]; exact not_false
        rw [if_neg gg, if_neg (fun c => c2 c.2.2)]
        exact mJ73_X (e := 0) (by omega) hwd hw hln
    · have hin : f_M_in (nI j).toInt64 1 4 = some 0 := by
        have hj : j = 0 ∨ j = 5 ∨ j = 6 ∨ j = 7 := by omega
        rcases hj with rfl | rfl | rfl | rfl <;> decide
      rw [hin, Option.bind_some, if_pos rfl, if_neg (fun c => cj ⟨c.1, c.2.1⟩)]
      exact mJ73_X (e := 0) (by omega) hwd hw hln
  · rw [if_neg c1]
    have tt := l_M_take_F (t := 0) (k := 3) (by omega) (by omega) (by omega) hN hn hr
    have tt : f_M_take 3 (nI N) 0 (-1) n f = some (0, nI (8 * N), 3) := tt
    rw [tt, Option.bind_some, if_pos (show (0 : Int32) ≤ 3 by decide)]
    exact mJ73_X (e := 3) (by omega) hwd hw hln
end
