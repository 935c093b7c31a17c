/-! a block is put together: its samples by running number -/
def ad (a b : Nat) : Nat := if b ≤ a then a - b else b - a
def mx (a b : Nat) : Nat := if a < b then b else a
theorem ad_T {a b : Nat} (h : b ≤ a) : nI a - nI b = nI (ad a b) := by rw [nJ_sub h]; unfold ad; rw [if_pos h]
theorem ad_F {a b : Nat} (h : ¬ b ≤ a) : nI a - nI b = iI (-(ad a b : Int)) := by
  rw [nJ_iI, nJ_iI, iI_sub]; unfold ad; rw [if_neg h]; congr 1; omega
theorem ad_le {a b : Nat} (ha : a ≤ 255) (hb : b ≤ 255) : ad a b ≤ 255 := by unfold ad; split <;> omega
theorem ad_pos {a b : Nat} (h : ¬ b ≤ a) : 1 ≤ ad a b := by unfold ad; rw [if_neg h]; omega
theorem ad_C {a b : Nat} (ha : a ≤ 255) (hb : b ≤ 255) : (if (0 : Int32) ≤ nI a - nI b then nI a - nI b else 0 - (nI a - nI b)) = nI (ad a b) := by
  have l := ad_le ha hb
  by_cases h : b ≤ a
  · rw [ad_T h, if_pos (by rw [n0, nJ_leT (by omega) (by omega)]; exact trivial)]
  · have p := ad_pos h
    rw [ad_F h, show (0 : Int32) = iI 0 from rfl, if_neg (by rw [iI_leF (by omega) (by omega) (by omega)]; exact not_false), iI_sub, nJ_iI]
    congr 1; omega
theorem mx_C {a b : Nat} (ha : a ≤ 255) (hb : b ≤ 255) : (if nI a < nI b then nI b else nI a) = nI (mx a b) := by
  unfold mx
  by_cases h : a < b
  · rw [if_pos h, if_pos (by rw [nJ_ltT h (by omega)]; exact trivial)]
  · rw [if_neg h, if_neg (by rw [nJ_ltF (by omega) (by omega)]; exact not_false)]
theorem mxx_le {a b : Nat} (ha : a ≤ 255) (hb : b ≤ 255) : mx a b ≤ 255 := by unfold mx; split <;> omega
def tgt (s L T z i : Nat) : Nat := (T + i / z) * s + L + i % z
theorem tgt_coord {s L T z i L' T' z' i' : Nat} (h1 : L + z ≤ s) (h2 : L' + z' ≤ s) (hi : i < z * z) (hi' : i' < z' * z') (e : tgt s L T z i = tgt s L' T' z' i') : T + i / z = T' + i' / z' ∧ L + i % z = L' + i' % z' := by
  unfold tgt at e
  have a := modLt hi
  have b := modLt hi'
  generalize i % z = u at *
  generalize i' % z' = u' at *
  generalize T + i / z = r at *
  generalize T' + i' / z' = r' at *
  have hr : r = r' := by
    rcases Nat.lt_trichotomy r r' with h | h | h
    · have : (r + 1) * s ≤ r' * s := Nat.mul_le_mul_right s h
      rw [Nat.add_mul] at this; omega
    · exact h
    · have : (r' + 1) * s ≤ r * s := Nat.mul_le_mul_right s h
      rw [Nat.add_mul] at this; omega
  subst hr
  exact ⟨rfl, by omega⟩
theorem tgt_inj {s L T z i j : Nat} (h1 : L + z ≤ s) (hi : i < z * z) (hj : j < z * z) (e : tgt s L T z i = tgt s L T z j) : i = j := by
  obtain ⟨a, b⟩ := tgt_coord h1 h1 hi hj e
  have c := Nat.div_add_mod i z
  have d := Nat.div_add_mod j z
  have a' : i / z = j / z := by omega
  have b' : i % z = j % z := by omega
  rw [← c, ← d, a', b']
theorem tgt_lt {s L T z i : Nat} (h1 : L + z ≤ s) (h2 : T + z ≤ s) (hi : i < z * z) : tgt s L T z i < s * s := by
  have a := modLt hi
  have b := divLt hi
  have := ix (x := L + i % z) (y := T + i / z) (s := s) (by omega) (by omega)
  unfold tgt; omega
def pA (s L T z : Nat) (v : Nat → Nat) (f : Nat → Int32) : Nat → (Nat → Int32)
  | 0 => f
  | i + 1 => upd (pA s L T z v f i) (tgt s L T z i) (nI (v i))
def pN (s L T z : Nat) (v : Nat → Nat) (P : Nat → Nat) : Nat → (Nat → Nat)
  | 0 => P
  | i + 1 => fun j => if j = tgt s L T z i then v i else pN s L T z v P i j
def cG (s L T z : Nat) (v : Nat → Nat) (O : Nat → Nat) : Nat → Nat
  | 0 => 0
  | i + 1 => mx (cG s L T z v O i) (ad (v i) (O (tgt s L T z i)))
section
variable {s L T z : Nat} {v P O : Nat → Nat} {f : Nat → Int32}
theorem pA_rep {M : Nat} (h : ∀ j, j < M → f j = nI (P j)) (i j : Nat) (hj : j < M) : pA s L T z v f i j = nI (pN s L T z v P i j) := by
  induction i with
  | zero => exact h j hj
  | succ i ih =>
    rw [pA, pN]
    dsimp only
    by_cases e : j = tgt s L T z i
    · rw [if_pos e, updT e]
    · rw [if_neg e, updF e, ih]
theorem pN_out {k j : Nat} (h : ∀ i, i < k → j ≠ tgt s L T z i) : pN s L T z v P k j = P j := by
  induction k with
  | zero => rfl
  | succ k ih =>
    rw [pN]
    dsimp only
    rw [if_neg (h k (by omega)), ih (fun i hi => h i (by omega))]
theorem pN_at {k : Nat} (h1 : L + z ≤ s) (hk : k < z * z) : pN s L T z v P k (tgt s L T z k) = P (tgt s L T z k) :=
  pN_out (fun i hi e => by have := tgt_inj h1 (show i < z * z by omega) hk e.symm; omega)
theorem pN_le {k j : Nat} (hv : ∀ i, v i ≤ 255) (hP : ∀ j, P j ≤ 255) : pN s L T z v P k j ≤ 255 := by
  induction k with
  | zero => exact hP j
  | succ k ih =>
    rw [pN]
    dsimp only
    split
    · exact hv k
    · exact ih
theorem cG_le {k : Nat} (hv : ∀ i, v i ≤ 255) (hO : ∀ j, O j ≤ 255) : cG s L T z v O k ≤ 255 := by
  induction k with
  | zero => exact Nat.zero_le _
  | succ k ih => rw [cG]; exact mxx_le ih (ad_le (hv k) (hO _))
theorem cG_congr {k : Nat} (h : ∀ i, i < k → P (tgt s L T z i) = O (tgt s L T z i)) : cG s L T z v P k = cG s L T z v O k := by
  induction k with
  | zero => rfl
  | succ k ih => rw [cG, cG, ih (fun i hi => h i (by omega)), h k (by omega)]
end
/-- a sample of a block, from a half q -/
def vB (q : Nat → Nat) (w' dL dT z t : Nat) (con off : Int) (i : Nat) : Nat := (clampI 0 255 (dim con (q (dcell w' dL dT (z - 1) t (i % z) (i / z))) + off)).toNat
theorem vB_le {q : Nat → Nat} {w' dL dT z t : Nat} {con off : Int} (i : Nat) : vB q w' dL dT z t con off i ≤ 255 := by
  unfold vB
  have := clampI_in (lo := 0) (hi := 255) (z := dim con (q (dcell w' dL dT (z - 1) t (i % z) (i / z))) + off) (by omega)
  omega
theorem rowIdx {y x z : Nat} (hx : x < z) : (y * z + x) / z = y ∧ (y * z + x) % z = x := by
  constructor
  · rw [Nat.add_comm, Nat.add_mul_div_right _ _ (by omega), Nat.div_eq_of_lt hx, Nat.zero_add]
  · rw [Nat.add_comm, Nat.add_mul_mod_self_right, Nat.mod_eq_of_lt hx]
section
variable {s L T z w' dL dT t hn nn : Nat} {con off : Int} {q P : Nat → Nat} {f HA : Nat → Int32}
theorem l_C104 {y : Nat} {p1 p2 : Int32} (hs : s ≤ 64) (hw' : w' ≤ 64) (hz : 2 ≤ z) (h1 : L + z ≤ s) (h2 : T + z ≤ s) (hnn : s * s ≤ nn) (h8 : t < 8) (hdL : dL + z ≤ w') (hdT : dT + z ≤ w') (hHn : w' * w' ≤ hn) (hHn2 : hn < 2147483648)
    (hc1 : -7 ≤ con) (hc2 : con ≤ 7) (ho1 : -256 ≤ off) (ho2 : off ≤ 767) (hHA : ∀ k, k < w' * w' → HA k = nI (q k) ∧ q k ≤ 255) (hf : ∀ j, j < s * s → f j = nI (P j)) (hP : ∀ j, P j ≤ 255) (hy : y < z) :
    f_F_decodeBlock_104 p1 p2 (nI L) (nI T) (nI z) (iI con) (iI off) (nI y) (nI s) nn hn HA (nI (dcell w' dL dT (z - 1) t 0 0)) (nI (dcell w' dL dT (z - 1) t 1 0) - nI (dcell w' dL dT (z - 1) t 0 0)) (nI (dcell w' dL dT (z - 1) t 0 1) - nI (dcell w' dL dT (z - 1) t 0 0)) FU (nI (cG s L T z (vB q w' dL dT z t con off) P (y * z))) 0 (pA s L T z (vB q w' dL dT z t con off) f (y * z)) =
      some (nI (cG s L T z (vB q w' dL dT z t con off) P ((y + 1) * z)), nI z, pA s L T z (vB q w' dL dT z t con off) f ((y + 1) * z)) := by
  have key := lp_up (L := fun n' (a : Nat × (Nat → Int32)) v => f_F_decodeBlock_104 p1 p2 (nI L) (nI T) (nI z) (iI con) (iI off) (nI y) (nI s) nn hn HA (nI (dcell w' dL dT (z - 1) t 0 0)) (nI (dcell w' dL dT (z - 1) t 1 0) - nI (dcell w' dL dT (z - 1) t 0 0)) (nI (dcell w' dL dT (z - 1) t 0 1) - nI (dcell w' dL dT (z - 1) t 0 0)) n' (nI a.1) (nI v) a.2)
    (st := fun x => (cG s L T z (vB q w' dL dT z t con off) P (y * z + x), pA s L T z (vB q w' dL dT z t con off) f (y * z + x))) (b := z) (fin := (nI (cG s L T z (vB q w' dL dT z t con off) P (y * z + z)), nI z, pA s L T z (vB q w' dL dT z t con off) f (y * z + z)))
    (fun n' => by
      show f_F_decodeBlock_104 _ _ _ _ _ _ _ _ _ _ _ _ _ _ _ (n' + 1) _ _ _ = _
      rw [f_F_decodeBlock_104, if_pos (by rw [nJ_leT (Nat.le_refl _) (by omega)]; exact trivial)])
    (fun n' x hx => by
      show f_F_decodeBlock_104 _ _ _ _ _ _ _ _ _ _ _ _ _ _ _ (n' + 1) _ _ _ = f_F_decodeBlock_104 _ _ _ _ _ _ _ _ _ _ _ _ _ _ _ n' _ _ _
      obtain ⟨r1, r2⟩ := rowIdx (y := y) hx
      have hi : y * z + x < z * z := ix hx hy
      have hcell := dcell_lt (w := w') (left := dL) (top := dT) (m := z - 1) (turn := t) (x := x) (y := y) h8 (by omega) (by omega) (by omega) (by omega)
      obtain ⟨g1, g2⟩ := hHA _ hcell
      have hdim := dim_bound hc1 hc2 g2
      have hcl := clampI_in (lo := 0) (hi := 255) (z := dim con (q (dcell w' dL dT (z - 1) t x y)) + off) (by omega)
      have ev : vB q w' dL dT z t con off (y * z + x) = (clampI 0 255 (dim con (q (dcell w' dL dT (z - 1) t x y)) + off)).toNat := by unfold vB; rw [r1, r2]
      have et : tgt s L T z (y * z + x) = (T + y) * s + (L + x) := by unfold tgt; rw [r1, r2]; omega
      have s1 := l_V_sample (w := w') (left := dL) (top := dT) (size := z) (turn := t) (x := x) (y := y) (n := hn) (f := HA) hw' hz h8 hx hy hdL hdT hHn hHn2
      have s2 := l_F_dimmed hc1 hc2 g2
      have s3 := l_F_brought (a := dim con (q (dcell w' dL dT (z - 1) t x y)) + off) (lo := 0) (hi := 255) (by omega) (by omega) (by omega) (by omega) (by omega)
      have s3 : f_F_brought (lI (dim con (q (dcell w' dL dT (z - 1) t x y)) + off)) 0 255 = _ := s3
      have e5 : iI (clampI 0 255 (dim con (q (dcell w' dL dT (z - 1) t x y)) + off)) = nI (vB q w' dL dT z t con off (y * z + x)) := by rw [ev, nJ_iI, Int.toNat_of_nonneg hcl.1]
      have e6 : pA s L T z (vB q w' dL dT z t con off) f (y * z + x) ((T + y) * s + (L + x)) = nI (P ((T + y) * s + (L + x))) := by
        rw [← et, pA_rep hf _ _ (tgt_lt h1 h2 hi), pN_at h1 hi]
      have b1 := vB_le (q := q) (w' := w') (dL := dL) (dT := dT) (z := z) (t := t) (con := con) (off := off) (y * z + x)
      have b2 := hP ((T + y) * s + (L + x))
      have b3 := cG_le (s := s) (L := L) (T := T) (z := z) (v := vB q w' dL dT z t con off) (O := P) (k := y * z + x) (fun i => vB_le i) hP
      rw [f_F_decodeBlock_104, if_neg (by rw [nJ_leF hx (by omega)]; exact not_false)]
      dsimp only
      rw [s1, Option.bind_some, g1, s2, Option.bind_some, iI_add, iI_long (by omega) (by omega), s3, Option.bind_some, lI_int, e5, nJ_add, nJ_add, l_G_sample hs (show L + x < s by omega) (show T + y < s by omega) hnn, Option.bind_some, l_G_set hs (show L + x < s by omega) (show T + y < s by omega) hnn, Option.bind_some, e6, ad_C b1 b2, mx_C b3 (ad_le b1 b2), n1, nJ_add]
      rw [show y * z + (x + 1) = (y * z + x) + 1 by omega, cG, pA, et])
    FU 0 (Nat.zero_le _) (fu (by omega))
  have e : (y + 1) * z = y * z + z := by rw [Nat.add_mul, Nat.one_mul]
  rw [e]
  exact key
theorem l_C94 {p1 p2 : Int32} (hs : s ≤ 64) (hw' : w' ≤ 64) (hz : 2 ≤ z) (h1 : L + z ≤ s) (h2 : T + z ≤ s) (hnn : s * s ≤ nn) (h8 : t < 8) (hdL : dL + z ≤ w') (hdT : dT + z ≤ w') (hHn : w' * w' ≤ hn) (hHn2 : hn < 2147483648)
    (hc1 : -7 ≤ con) (hc2 : con ≤ 7) (ho1 : -256 ≤ off) (ho2 : off ≤ 767) (hHA : ∀ k, k < w' * w' → HA k = nI (q k) ∧ q k ≤ 255) (hf : ∀ j, j < s * s → f j = nI (P j)) (hP : ∀ j, P j ≤ 255) :
    f_F_decodeBlock_94 p1 p2 (nI L) (nI T) (nI z) (iI con) (iI off) (nI s) nn hn HA (nI (dcell w' dL dT (z - 1) t 0 0)) (nI (dcell w' dL dT (z - 1) t 1 0) - nI (dcell w' dL dT (z - 1) t 0 0)) (nI (dcell w' dL dT (z - 1) t 0 1) - nI (dcell w' dL dT (z - 1) t 0 0)) FU 0 0 f =
      some (nI (cG s L T z (vB q w' dL dT z t con off) P (z * z)), nI z, pA s L T z (vB q w' dL dT z t con off) f (z * z)) := by
  have key := lp_up (L := fun n' (a : Nat × (Nat → Int32)) v => f_F_decodeBlock_94 p1 p2 (nI L) (nI T) (nI z) (iI con) (iI off) (nI s) nn hn HA (nI (dcell w' dL dT (z - 1) t 0 0)) (nI (dcell w' dL dT (z - 1) t 1 0) - nI (dcell w' dL dT (z - 1) t 0 0)) (nI (dcell w' dL dT (z - 1) t 0 1) - nI (dcell w' dL dT (z - 1) t 0 0)) n' (nI a.1) (nI v) a.2)
    (st := fun y => (cG s L T z (vB q w' dL dT z t con off) P (y * z), pA s L T z (vB q w' dL dT z t con off) f (y * z))) (b := z) (fin := (nI (cG s L T z (vB q w' dL dT z t con off) P (z * z)), nI z, pA s L T z (vB q w' dL dT z t con off) f (z * z)))
    (fun n' => by
      show f_F_decodeBlock_94 _ _ _ _ _ _ _ _ _ _ _ _ _ _ (n' + 1) _ _ _ = _
      rw [f_F_decodeBlock_94, if_pos (by rw [nJ_leT (Nat.le_refl _) (by omega)]; exact trivial)])
    (fun n' y hy => by
      show f_F_decodeBlock_94 _ _ _ _ _ _ _ _ _ _ _ _ _ _ (n' + 1) _ _ _ = f_F_decodeBlock_94 _ _ _ _ _ _ _ _ _ _ _ _ _ _ n' _ _ _
      rw [f_F_decodeBlock_94, if_neg (by rw [nJ_leF hy (by omega)]; exact not_false)]
      dsimp only
      rw [l_C104 hs hw' hz h1 h2 hnn h8 hdL hdT hHn hHn2 hc1 hc2 ho1 ho2 hHA hf hP hy, Option.bind_some, n1, nJ_add])
    FU 0 (Nat.zero_le _) (fu (by omega))
  rw [Nat.zero_mul] at key
  exact key
theorem neg_iI (a : Nat) : -iI (-(a : Int)) = nI a := by rw [iI_neg, nJ_iI]; congr 1; omega
theorem l_M77 {k x y m kn on ohn : Nat} {K ol O' : Nat → Int32} {p3 p6 p7 : Int32} {O : Nat → Nat} (hs : s ≤ 64) (hz : 2 ≤ z) (h1 : x * m + z ≤ s) (h2 : y * m + z ≤ s) (hnn : s * s ≤ nn) (hon : s * s ≤ on) (h8 : t < 8) (hsw : s / 2 = w') (hdL : dL + z ≤ w') (hdT : dT + z ≤ w') (hHn : w' * w' ≤ hn)
    (hc1 : -7 ≤ con) (hc2 : con ≤ 7) (ho1 : -256 ≤ off) (ho2 : off ≤ 767) (hHA : ∀ k, k < w' * w' → HA k = nI (q k) ∧ q k ≤ 255) (hol : ∀ j, j < s * s → ol j = nI (O j)) (hO : ∀ j, O j ≤ 255)
    (hk : 8 * k + 7 < kn) (hkn : kn ≤ 4096) (k0 : K (8 * k) = nI x) (k1 : K (8 * k + 1) = nI y) (k4 : K (8 * k + 4) = nI t) (k5 : K (8 * k + 5) = iI con) (k6 : K (8 * k + 6) = iI off) :
    f_M_decodeBlock_77 (nI k) (nI m) p3 (nI z) (nI s) p6 p7 (nI dL) (nI dT) kn K nn on ol hn HA FU 0 0 f = some (nI (cG s (x * m) (y * m) z (vB q w' dL dT z t con off) O (z * z)), nI (z * z), pA s (x * m) (y * m) z (vB q w' dL dT z t con off) f (z * z)) := by
  have hz2 := sq64 (show z ≤ 64 by omega)
  have hs2 := sq64 hs
  have hmx : x * m ≤ 64 := by omega
  have hmy : y * m ≤ 64 := by omega
  have key := lp_up (L := fun n' (a : Nat × (Nat → Int32)) v => f_M_decodeBlock_77 (nI k) (nI m) p3 (nI z) (nI s) p6 p7 (nI dL) (nI dT) kn K nn on ol hn HA n' (nI a.1) (nI v) a.2)
    (st := fun i => (cG s (x * m) (y * m) z (vB q w' dL dT z t con off) O i, pA s (x * m) (y * m) z (vB q w' dL dT z t con off) f i)) (b := z * z) (fin := (nI (cG s (x * m) (y * m) z (vB q w' dL dT z t con off) O (z * z)), nI (z * z), pA s (x * m) (y * m) z (vB q w' dL dT z t con off) f (z * z)))
    (fun n' => by
      show f_M_decodeBlock_77 _ _ _ _ _ _ _ _ _ _ _ _ _ _ _ _ (n' + 1) _ _ _ = _
      rw [f_M_decodeBlock_77, nJ_mul, if_pos (by rw [nJ_leT (Nat.le_refl _) (by omega)]; exact trivial)])
    (fun n' i hi => by
      show f_M_decodeBlock_77 _ _ _ _ _ _ _ _ _ _ _ _ _ _ _ _ (n' + 1) _ _ _ = f_M_decodeBlock_77 _ _ _ _ _ _ _ _ _ _ _ _ _ _ _ _ n' _ _ _
      have hx := modLt hi
      have hy := divLt hi
      have hcell := dcell_lt (w := w') (left := dL) (top := dT) (m := z - 1) (turn := t) (x := i % z) (y := i / z) h8 (by omega) (by omega) (by omega) (by omega)
      obtain ⟨g1, g2⟩ := hHA _ hcell
      have hdim := dim_bound hc1 hc2 g2
      have hcl := clampI_in (lo := 0) (hi := 255) (z := dim con (q (dcell w' dL dT (z - 1) t (i % z) (i / z))) + off) (by omega)
      have s1 := l_M_turned (w := w') (left := dL) (top := dT) (size := z) (turn := t) (k := i) (n := hn) (f := HA) (by omega) hdL hdT hHn hi h8
      have s2 := l_M_mapped hc1 hc2 g2
      have s3 := l_M_brought (a := dim con (q (dcell w' dL dT (z - 1) t (i % z) (i / z))) + off) (lo := 0) (hi := 255) (by omega) (by omega) (by omega) (by omega) (by omega)
      have s3 : f_M_brought (lI (dim con (q (dcell w' dL dT (z - 1) t (i % z) (i / z))) + off)) 0 255 = _ := s3
      have e5 : iI (clampI 0 255 (dim con (q (dcell w' dL dT (z - 1) t (i % z) (i / z))) + off)) = nI (vB q w' dL dT z t con off i) := by
        rw [nJ_iI]; unfold vB; rw [Int.toNat_of_nonneg hcl.1]
      have b1 := vB_le (q := q) (w' := w') (dL := dL) (dT := dT) (z := z) (t := t) (con := con) (off := off) i
      have tl := tgt_lt (i := i) h1 h2 hi
      have b2 := hO (tgt s (x * m) (y * m) z i)
      have b3 := cG_le (s := s) (L := x * m) (T := y * m) (z := z) (v := vB q w' dL dT z t con off) (O := O) (k := i) (fun i => vB_le i) hO
      have em : i - i / z * z = i % z := modSub i z
      have ml : i / z * z ≤ i := Nat.div_mul_le_self i z
      have et : (((nI y * nI m + nI i / nI z) * nI s + nI x * nI m) + (nI i - nI i / nI z * nI z)) = nI (tgt s (x * m) (y * m) z i) := by
        rw [nJ_div (by omega) (by omega), nJ_mul, nJ_mul, nJ_mul, nJ_add, nJ_mul, nJ_sub ml, em, nJ_add, nJ_add]; rfl
      have cz : ¬ nI z = 0 := by rw [n0, nJ_eqF (by omega) (by omega) (by omega)]; exact not_false
      have cl : (nI (tgt s (x * m) (y * m) z i)).toNatClampNeg = tgt s (x * m) (y * m) z i := nJ_clamp (by omega)
      have i1 : ¬ (nI (tgt s (x * m) (y * m) z i) < 0 ∨ nn ≤ tgt s (x * m) (y * m) z i) := by rw [n0, nJ_ltF (by omega) (by omega), false_or]; omega
      have i2 : ¬ (nI (tgt s (x * m) (y * m) z i) < 0 ∨ on ≤ tgt s (x * m) (y * m) z i) := by rw [n0, nJ_ltF (by omega) (by omega), false_or]; omega
      have ix0 : ∀ u, u ≤ 7 → ¬ (nI (8 * k + u) < 0 ∨ kn ≤ 8 * k + u) := fun u hu => by rw [n0, nJ_ltF (by omega) (by omega), false_or]; omega
      have ixz : ¬ (nI (8 * k) < 0 ∨ kn ≤ 8 * k) := by rw [n0, nJ_ltF (by omega) (by omega), false_or]; omega
      have a0 : (8 : Int32) * nI k = nI (8 * k) := by rw [n8, nJ_mul]
      have a1 : nI (8 * k) + 1 = nI (8 * k + 1) := by rw [n1, nJ_add]
      have a4 : nI (8 * k) + 4 = nI (8 * k + 4) := by rw [n4, nJ_add]
      have a5 : nI (8 * k) + 5 = nI (8 * k + 5) := by rw [n5, nJ_add]
      have a6 : nI (8 * k) + 6 = nI (8 * k + 6) := by rw [n6, nJ_add]
      have c0 : (nI (8 * k)).toNatClampNeg = 8 * k := nJ_clamp (by omega)
      have c1 : (nI (8 * k + 1)).toNatClampNeg = 8 * k + 1 := nJ_clamp (by omega)
      have c4 : (nI (8 * k + 4)).toNatClampNeg = 8 * k + 4 := nJ_clamp (by omega)
      have c5 : (nI (8 * k + 5)).toNatClampNeg = 8 * k + 5 := nJ_clamp (by omega)
      have c6 : (nI (8 * k + 6)).toNatClampNeg = 8 * k + 6 := nJ_clamp (by omega)
      have hh : nI s / 2 = nI w' := by rw [n2, nJ_div (by omega) (by omega), hsw]
      have eO := hol _ tl
      rw [f_M_decodeBlock_77, nJ_mul, if_neg (by rw [nJ_leF hi (by omega)]; exact not_false), a0, a1, a4, a5, a6, c0, c1, c4, c5, c6, if_neg (ix0 5 (by omega)), if_neg (ix0 4 (by omega)), k4, k5, hh, s1, Option.bind_some, g1, s2, Option.bind_some, if_neg (ix0 6 (by omega)), if_neg (ix0 1 (by omega)), if_neg cz, if_neg ixz, if_neg cz, k0, k1, k6, iI_add, iI_long (by omega) (by omega), s3, Option.bind_some, e5, et, cl, if_neg i1, if_neg i1, if_neg i2, upd_eq, eO]
      have ee : nI i + 1 = nI (i + 1) := by rw [n1, nJ_add]
      rw [ee]
      show _ = f_M_decodeBlock_77 _ _ _ _ _ _ _ _ _ _ _ _ _ _ _ _ n' (nI (mx (cG s (x * m) (y * m) z (vB q w' dL dT z t con off) O i) (ad (vB q w' dL dT z t con off i) (O (tgt s (x * m) (y * m) z i))))) _ (upd (pA s (x * m) (y * m) z (vB q w' dL dT z t con off) f i) (tgt s (x * m) (y * m) z i) (nI (vB q w' dL dT z t con off i)))
      have l := ad_le b1 b2
      dsimp only
      by_cases h : O (tgt s (x * m) (y * m) z i) ≤ vB q w' dL dT z t con off i
      · rw [ad_T h, if_pos (by rw [n0, nJ_leT (by omega) (by omega)]; exact trivial)]
        unfold mx
        by_cases hc : cG s (x * m) (y * m) z (vB q w' dL dT z t con off) O i < ad (vB q w' dL dT z t con off i) (O (tgt s (x * m) (y * m) z i))
        · rw [if_pos hc, if_neg (by rw [nJ_leF hc (by omega)]; exact not_false)]
        · rw [if_neg hc, if_pos (by rw [nJ_leT (by omega) (by omega)]; exact trivial)]
      · have p := ad_pos h
        rw [ad_F h, if_neg (by rw [show (0 : Int32) = iI 0 from rfl, iI_leF (by omega) (by omega) (by omega)]; exact not_false), neg_iI]
        unfold mx
        by_cases hc : cG s (x * m) (y * m) z (vB q w' dL dT z t con off) O i < ad (vB q w' dL dT z t con off i) (O (tgt s (x * m) (y * m) z i))
        · rw [if_pos hc, if_neg (by rw [nJ_leF hc (by omega)]; exact not_false)]
        · rw [if_neg hc, if_pos (by rw [nJ_leT (by omega) (by omega)]; exact trivial)])
    FU 0 (Nat.zero_le _) (fu (by omega))
  exact key
end
