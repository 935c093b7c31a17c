/-! putting together: blocks, rounds -/
def bX (F : Nat → Int) (i : Nat) : Nat := (F (8 * i)).toNat
def bY (F : Nat → Int) (i : Nat) : Nat := (F (8 * i + 1)).toNat
def bH (F : Nat → Int) (i : Nat) : Nat := (F (8 * i + 2)).toNat / 2
def bD (F : Nat → Int) (i : Nat) : Nat := (F (8 * i + 3)).toNat
def bT (F : Nat → Int) (i : Nat) : Nat := (F (8 * i + 4)).toNat
/-- a block's facts are such as can be put together -/
def okB (w : Nat) (F : Nat → Int) (i : Nat) : Prop := (F (8 * i) = (bX F i : Int) ∧ F (8 * i + 1) = (bY F i : Int) ∧ F (8 * i + 2) = ((2 * bH F i : Nat) : Int) ∧ F (8 * i + 3) = (bD F i : Int) ∧ F (8 * i + 4) = (bT F i : Int)) ∧ 0 < bH F i ∧ 2 * bH F i ≤ w ∧ bX F i + 2 * bH F i ≤ 2 * w ∧ bY F i + 2 * bH F i ≤ 2 * w ∧ bD F i < dac w (bH F i) * dac w (bH F i) ∧ bT F i < 8 ∧ -7 ≤ F (8 * i + 5) ∧ F (8 * i + 5) ≤ 7 ∧ -256 ≤ F (8 * i + 6) ∧ F (8 * i + 6) ≤ 767
def apart (F : Nat → Int) (i j : Nat) : Prop := bX F i + 2 * bH F i ≤ bX F j ∨ bX F j + 2 * bH F j ≤ bX F i ∨ bY F i + 2 * bH F i ≤ bY F j ∨ bY F j + 2 * bH F j ≤ bY F i
def okF (w : Nat) (F : Nat → Int) (c : Nat) : Prop := (∀ i, i < c → okB w F i) ∧ ∀ i j, i < j → j < c → apart F i j
def vF (q : Nat → Nat) (w m : Nat) (F : Nat → Int) (i : Nat) : Nat → Nat := vB q (w * m) (domL (w * m) (bH F i * m) (bD F i)) (domT (w * m) (bH F i * m) (bD F i)) (2 * (bH F i * m)) (bT F i) (F (8 * i + 5)) (F (8 * i + 6))
def rP (w m : Nat) (F : Nat → Int) (O q : Nat → Nat) : Nat → (Nat → Nat)
  | 0 => O
  | k + 1 => pN (2 * (w * m)) (bX F k * m) (bY F k * m) (2 * (bH F k * m)) (vF q w m F k) (rP w m F O q k) (2 * (bH F k * m) * (2 * (bH F k * m)))
def rC (w m : Nat) (F : Nat → Int) (O q : Nat → Nat) : Nat → Nat
  | 0 => 0
  | k + 1 => mx (rC w m F O q k) (cG (2 * (w * m)) (bX F k * m) (bY F k * m) (2 * (bH F k * m)) (vF q w m F k) O (2 * (bH F k * m) * (2 * (bH F k * m))))
theorem dac_mul {w h m : Nat} (hm : 0 < m) : dac (w * m) (h * m) = dac w h := by
  unfold dac
  rw [Nat.mul_div_mul_right w h hm]
theorem m_le {a b m : Nat} (h : a ≤ b) : a * m ≤ b * m := Nat.mul_le_mul_right m h
theorem m_add (a b m : Nat) : (a + b) * m = a * m + b * m := Nat.add_mul a b m
theorem m_two (a m : Nat) : 2 * a * m = 2 * (a * m) := Nat.mul_assoc 2 a m
section
variable {w m : Nat} {F : Nat → Int} {O q : Nat → Nat} {c : Nat}
/-- the scaled square of a block lies in the picture -/
theorem okB_in {i : Nat} (hm : 0 < m) (h : okB w F i) : 2 ≤ 2 * (bH F i * m) ∧ bX F i * m + 2 * (bH F i * m) ≤ 2 * (w * m) ∧ bY F i * m + 2 * (bH F i * m) ≤ 2 * (w * m) ∧ 2 * (bH F i * m) ≤ w * m ∧ domL (w * m) (bH F i * m) (bD F i) + 2 * (bH F i * m) ≤ w * m ∧ domT (w * m) (bH F i * m) (bD F i) + 2 * (bH F i * m) ≤ w * m := by
  obtain ⟨_, h1, h2, h3, h4, h5, _⟩ := h
  have p : 0 < bH F i * m := Nat.mul_pos h1 hm
  have a2 := m_le (m := m) h2
  have a3 := m_le (m := m) h3
  have a4 := m_le (m := m) h4
  rw [m_add, m_two, m_two] at a3 a4
  rw [m_two] at a2
  have dd := dom_in (w := w * m) (h := bH F i * m) (d := bD F i) p a2 (by rw [dac_mul hm]; exact h5)
  exact ⟨by omega, a3, a4, a2, dd.1, dd.2⟩
theorem apart_tgt {i j u u' : Nat} (hm : 0 < m) (hi : okB w F i) (hj : okB w F j) (ha : apart F i j) (hu : u < 2 * (bH F i * m) * (2 * (bH F i * m))) (hu' : u' < 2 * (bH F j * m) * (2 * (bH F j * m))) :
    tgt (2 * (w * m)) (bX F j * m) (bY F j * m) (2 * (bH F j * m)) u' ≠ tgt (2 * (w * m)) (bX F i * m) (bY F i * m) (2 * (bH F i * m)) u := by
  intro e
  have a := okB_in hm hi
  have b := okB_in hm hj
  obtain ⟨e1, e2⟩ := tgt_coord b.2.1 a.2.1 hu' hu e
  have c1 := modLt hu
  have c2 := divLt hu
  have c3 := modLt hu'
  have c4 := divLt hu'
  generalize u / (2 * (bH F i * m)) = d1 at e1 c2
  generalize u' / (2 * (bH F j * m)) = d2 at e1 c4
  rcases ha with h | h | h | h
  · have := m_le (m := m) h
    rw [m_add, m_two] at this; omega
  · have := m_le (m := m) h
    rw [m_add, m_two] at this; omega
  · have := m_le (m := m) h
    rw [m_add, m_two] at this; omega
  · have := m_le (m := m) h
    rw [m_add, m_two] at this; omega
theorem rP_out {k j : Nat} (h : ∀ i, i < k → ∀ u, u < 2 * (bH F i * m) * (2 * (bH F i * m)) → j ≠ tgt (2 * (w * m)) (bX F i * m) (bY F i * m) (2 * (bH F i * m)) u) : rP w m F O q k j = O j := by
  induction k with
  | zero => rfl
  | succ k ih => rw [rP, pN_out (h k (by omega)), ih (fun i hi => h i (by omega))]
theorem rP_at {k u : Nat} (hm : 0 < m) (hF : okF w F c) (hk : k < c) (hu : u < 2 * (bH F k * m) * (2 * (bH F k * m))) :
    rP w m F O q k (tgt (2 * (w * m)) (bX F k * m) (bY F k * m) (2 * (bH F k * m)) u) = O (tgt (2 * (w * m)) (bX F k * m) (bY F k * m) (2 * (bH F k * m)) u) :=
  rP_out (fun i hi v hv => apart_tgt hm (hF.1 i (by omega)) (hF.1 k hk) (hF.2 i k hi hk) hv hu)
theorem vF_le (i j : Nat) : vF q w m F i j ≤ 255 := vB_le j
theorem rP_le (hO : ∀ j, O j ≤ 255) : ∀ k j, rP w m F O q k j ≤ 255 := by
  intro k
  induction k with
  | zero => exact hO
  | succ k ih => intro j; rw [rP]; exact pN_le (fun i => vF_le k i) ih
theorem rC_le (hO : ∀ j, O j ≤ 255) : ∀ k, rC w m F O q k ≤ 255 := by
  intro k
  induction k with
  | zero => exact Nat.zero_le _
  | succ k ih => rw [rC]; exact mxx_le ih (cG_le (fun i => vF_le k i) hO)
theorem l_K_fact {k j kn : Nat} {K : Nat → Int32} (hk : k < c) (hj : j < 8) (h : 8 * c ≤ kn) (hkn : kn ≤ 2048) : f_K_fact (nI k) (nI j) (nI c) kn K = some (K (8 * k + j)) := by
  unfold f_K_fact
  simp (disch := omega) only [n0, n1, n2, n3, n4, n5, n6, n7, n8, n10, n16, n40, n128, n255, n256, n1024, n2000, n2048, nJ_add, nJ_mul, nJ_sub, nJ_leT, nJ_leF, nJ_ltT, nJ_ltF, nJ_eqT, nJ_eqF, nJ_clamp, nJ_div, nM, iM_eqF, iM_eqF2, iM_leF, iM_ltF, iM_leT, iM_ltT, iM_add, iM_add0, natLeF, natLeT, natLtF, natLtT, natEqF, natEqT, if_true, if_false, ite_true, ite_false, false_or, or_false, or_self, Option.bind_some, ↓reduceIte]
theorem sh2 : ∀ sc, sc < 2 → ∀ a, a < 65 → nI a <<< (nI sc &&& 31) = nI (a * (sc + 1)) := by decide +kernel
/-- the facts of a block in an array -/
theorem kRep_at {o k : Nat} {K : Nat → Int32} (hr : kRep o K F c) (hk : k < c) (hB : okB w F k) : K (o + (8 * k)) = nI (bX F k) ∧ K (o + (8 * k + 1)) = nI (bY F k) ∧ K (o + (8 * k + 2)) = nI (2 * bH F k) ∧ K (o + (8 * k + 3)) = nI (bD F k) ∧ K (o + (8 * k + 4)) = nI (bT F k) ∧ K (o + (8 * k + 5)) = iI (F (8 * k + 5)) ∧ K (o + (8 * k + 6)) = iI (F (8 * k + 6)) := by
  obtain ⟨⟨e0, e1, e2, e3, e4⟩, _⟩ := hB
  refine ⟨?_, ?_, ?_, ?_, ?_, hr _ (by omega), hr _ (by omega)⟩
  · rw [hr _ (by omega), e0, nJ_iI]
  · rw [hr _ (by omega), e1, nJ_iI]
  · rw [hr _ (by omega), e2, nJ_iI]
  · rw [hr _ (by omega), e3, nJ_iI]
  · rw [hr _ (by omega), e4, nJ_iI]
theorem l_C_block {k sc kn nn hn : Nat} {K f HA : Nat → Int32} {P : Nat → Nat} {a1 a2 a3 a4 a5 : Int32} (hw : w ≤ 16) (hsc : sc < 2) (hm : m = sc + 1) (hB : okB w F k) (hk : k < c) (hr : kRep 0 K F c) (hc : 8 * c ≤ kn) (hkn : kn ≤ 2048) (hnn : 2 * (w * m) * (2 * (w * m)) ≤ nn) (hHn : w * m * (w * m) ≤ hn) (hHn2 : hn < 2147483648)
    (hHA : ∀ k, k < w * m * (w * m) → HA k = nI (q k) ∧ q k ≤ 255) (hf : ∀ j, j < 2 * (w * m) * (2 * (w * m)) → f j = nI (P j)) (hP : ∀ j, P j ≤ 255) :
    ∃ b1 b2 b3 b4 b5, f_F_decodeBlock (nI k) (nI sc) (nI (2 * (w * m))) nn f (nI (w * m)) hn HA a1 a2 a3 a4 a5 (nI c) kn K = some (nI (cG (2 * (w * m)) (bX F k * m) (bY F k * m) (2 * (bH F k * m)) (vF q w m F k) P (2 * (bH F k * m) * (2 * (bH F k * m)))), pA (2 * (w * m)) (bX F k * m) (bY F k * m) (2 * (bH F k * m)) (vF q w m F k) f (2 * (bH F k * m) * (2 * (bH F k * m))), b1, b2, b3, b4, b5) := by
  have hm0 : 0 < m := by omega
  have hin := okB_in hm0 hB
  obtain ⟨k0, k1, k2, k3, k4, k5, k6⟩ := kRep_at hr hk hB
  simp only [Nat.zero_add] at k0 k1 k2 k3 k4 k5 k6
  obtain ⟨_, g1, g2, g3, g4, g5, g6, g7, g8, g9, g10⟩ := hB
  have hwm : w * m ≤ 32 := by
    have : w * m ≤ 16 * 2 := Nat.mul_le_mul hw (by omega)
    omega
  have f0 : f_K_fact (nI k) 0 (nI c) kn K = some (nI (bX F k)) := by rw [← k0]; exact l_K_fact (j := 0) hk (by omega) hc hkn
  have f1 : f_K_fact (nI k) 1 (nI c) kn K = some (nI (bY F k)) := by rw [← k1]; exact l_K_fact (j := 1) hk (by omega) hc hkn
  have f2 : f_K_fact (nI k) 2 (nI c) kn K = some (nI (2 * bH F k)) := by rw [← k2]; exact l_K_fact (j := 2) hk (by omega) hc hkn
  have f3 : f_K_fact (nI k) 3 (nI c) kn K = some (nI (bD F k)) := by rw [← k3]; exact l_K_fact (j := 3) hk (by omega) hc hkn
  have f4 : f_K_fact (nI k) 4 (nI c) kn K = some (nI (bT F k)) := by rw [← k4]; exact l_K_fact (j := 4) hk (by omega) hc hkn
  have f5 : f_K_fact (nI k) 5 (nI c) kn K = some (iI (F (8 * k + 5))) := by rw [← k5]; exact l_K_fact (j := 5) hk (by omega) hc hkn
  have f6 : f_K_fact (nI k) 6 (nI c) kn K = some (iI (F (8 * k + 6))) := by rw [← k6]; exact l_K_fact (j := 6) hk (by omega) hc hkn
  have s0 := sh2 sc hsc (bX F k) (by omega)
  have s1 := sh2 sc hsc (bY F k) (by omega)
  have s2 := sh2 sc hsc (2 * bH F k) (by omega)
  rw [← hm] at s0 s1 s2
  rw [m_two] at s2
  have va := l_V_aim (w := w * m) (h := bH F k * m) (d := bD F k) (turn := bT F k) (a := a1) (b := a2) (c := a3) hwm (Nat.mul_pos g1 hm0) hin.2.2.2.1 (by rw [dac_mul hm0]; exact g5) g6
  have c94 := l_C94 (s := 2 * (w * m)) (L := bX F k * m) (T := bY F k * m) (z := 2 * (bH F k * m)) (w' := w * m) (dL := domL (w * m) (bH F k * m) (bD F k)) (dT := domT (w * m) (bH F k * m) (bD F k)) (t := bT F k) (hn := hn) (nn := nn) (con := F (8 * k + 5)) (off := F (8 * k + 6)) (q := q) (P := P) (f := f) (HA := HA) (p1 := nI k) (p2 := nI sc) (by omega) (by omega) hin.1 hin.2.1 hin.2.2.1 hnn g6 hin.2.2.2.2.1 hin.2.2.2.2.2 hHn hHn2 g7 g8 g9 g10 hHA hf hP
  unfold f_F_decodeBlock
  rw [f0, Option.bind_some, f1, Option.bind_some, f2, Option.bind_some, f5, Option.bind_some, f6, Option.bind_some, f3, Option.bind_some, f4, Option.bind_some, s0, s1, s2, va, Option.bind_some]
  dsimp only
  rw [c94, Option.bind_some]
  exact ⟨_, _, _, _, _, rfl⟩
theorem l_M_block {k kn nn on hn : Nat} {K f ol HA : Nat → Int32} (hw : w ≤ 16) (hm0 : 0 < m) (hm2 : m ≤ 2) (hB : okB w F k) (hk : k < c) (hr : kRep 0 K F c) (hc : c ≤ 256) (hkn : kn = 4096) (hnn : 2 * (w * m) * (2 * (w * m)) ≤ nn) (hon : 2 * (w * m) * (2 * (w * m)) ≤ on) (hHn : w * m * (w * m) ≤ hn)
    (hHA : ∀ k, k < w * m * (w * m) → HA k = nI (q k) ∧ q k ≤ 255) (hol : ∀ j, j < 2 * (w * m) * (2 * (w * m)) → ol j = nI (O j)) (hO : ∀ j, O j ≤ 255) :
    f_M_decodeBlock (nI k) (nI m) (nI (2 * w)) kn K nn f on ol hn HA = some (nI (cG (2 * (w * m)) (bX F k * m) (bY F k * m) (2 * (bH F k * m)) (vF q w m F k) O (2 * (bH F k * m) * (2 * (bH F k * m)))), pA (2 * (w * m)) (bX F k * m) (bY F k * m) (2 * (bH F k * m)) (vF q w m F k) f (2 * (bH F k * m) * (2 * (bH F k * m)))) := by
  subst hkn
  have hin := okB_in hm0 hB
  obtain ⟨k0, k1, k2, k3, k4, k5, k6⟩ := kRep_at hr hk hB
  simp only [Nat.zero_add] at k0 k1 k2 k3 k4 k5 k6
  obtain ⟨_, g1, g2, g3, g4, g5, g6, g7, g8, g9, g10⟩ := hB
  have hwm : w * m ≤ 32 := by
    have : w * m ≤ 16 * 2 := Nat.mul_le_mul hw (by omega)
    omega
  have hdom := l_M_domains (w := w) (h := bH F k) (by omega) g1 g2
  have hpos := dac_pos g1 g2
  have hda : dac w (bH F k) ≤ 16 := by
    have : w / bH F k ≤ w := Nat.div_le_self _ _
    unfold dac; omega
  have hdd : bD F k ≤ 256 := by
    have : dac w (bH F k) * dac w (bH F k) ≤ 16 * 16 := Nat.mul_le_mul hda hda
    omega
  have hx := modLt g5
  have hy := divLt g5
  have hle : bD F k / dac w (bH F k) * dac w (bH F k) ≤ bD F k := Nat.div_mul_le_self _ _
  have em := modSub (bD F k) (dac w (bH F k))
  have half : ∀ u, u * (2 * bH F k) * m / 2 = u * (bH F k * m) := fun u => by
    rw [show u * (2 * bH F k) * m = u * (bH F k * m) * 2 by rw [← Nat.mul_assoc u 2, Nat.mul_comm u 2, Nat.mul_assoc 2 u, Nat.mul_assoc 2 (u * bH F k), Nat.mul_assoc u, Nat.mul_comm 2], Nat.mul_div_cancel _ (by omega)]
  have bnd : ∀ u, u < dac w (bH F k) → u * (2 * bH F k) * m < 2147483648 := fun u hu => by
    have a1 : u * (2 * bH F k) ≤ 16 * 16 := Nat.mul_le_mul (by omega) (by omega)
    have a2 : u * (2 * bH F k) * m ≤ 256 * 2 := Nat.mul_le_mul a1 hm2
    omega
  have eL : ((nI (bD F k) - nI (bD F k) / nI (dac w (bH F k)) * nI (dac w (bH F k))) * nI (2 * bH F k)) * nI m / 2 = nI (domL (w * m) (bH F k * m) (bD F k)) := by
    rw [nJ_div (by omega) (by omega), nJ_mul, nJ_sub hle, em, nJ_mul, nJ_mul, n2, nJ_div (bnd _ hx) (by omega), half]
    unfold domL; rw [dac_mul hm0]
  have eT : (nI (bD F k) / nI (dac w (bH F k)) * nI (2 * bH F k)) * nI m / 2 = nI (domT (w * m) (bH F k * m) (bD F k)) := by
    rw [nJ_div (by omega) (by omega), nJ_mul, nJ_mul, n2, nJ_div (bnd _ hy) (by omega), half]
    unfold domT; rw [dac_mul hm0]
  have m77 := l_M77 (s := 2 * (w * m)) (z := 2 * (bH F k * m)) (w' := w * m) (dL := domL (w * m) (bH F k * m) (bD F k)) (dT := domT (w * m) (bH F k * m) (bD F k)) (t := bT F k) (hn := hn) (nn := nn) (con := F (8 * k + 5)) (off := F (8 * k + 6)) (q := q) (f := f) (HA := HA) (k := k) (x := bX F k) (y := bY F k) (m := m) (kn := 4096) (on := on) (ohn := 0) (K := K) (ol := ol) (O' := ol) (O := O) (p3 := nI (2 * bH F k)) (p6 := nI (dac w (bH F k))) (p7 := nI (bD F k)) (by omega) hin.1 hin.2.1 hin.2.2.1 hnn hon g6 (by omega) hin.2.2.2.2.1 hin.2.2.2.2.2 hHn g7 g8 g9 g10 hHA hol hO (by omega) (by omega) k0 k1 k4 k5 k6
  have i2 : ¬ (nI (8 * k + 2) < 0 ∨ 4096 ≤ 8 * k + 2) := by rw [n0, nJ_ltF (by omega) (by omega), false_or]; omega
  have i3 : ¬ (nI (8 * k + 3) < 0 ∨ 4096 ≤ 8 * k + 3) := by rw [n0, nJ_ltF (by omega) (by omega), false_or]; omega
  have a0 : (8 : Int32) * nI k = nI (8 * k) := by rw [n8, nJ_mul]
  have a2 : nI (8 * k) + 2 = nI (8 * k + 2) := by rw [n2, nJ_add]
  have a3 : nI (8 * k) + 3 = nI (8 * k + 3) := by rw [n3, nJ_add]
  have c2 : (nI (8 * k + 2)).toNatClampNeg = 8 * k + 2 := nJ_clamp (by omega)
  have c3 : (nI (8 * k + 3)).toNatClampNeg = 8 * k + 3 := nJ_clamp (by omega)
  have cz : ¬ nI (dac w (bH F k)) = 0 := by rw [n0, nJ_eqF (by omega) (by omega) (by omega)]; exact not_false
  have e1 : nI (2 * bH F k) * nI m = nI (2 * (bH F k * m)) := by rw [nJ_mul, m_two]
  have e2 : nI (2 * w) * nI m = nI (2 * (w * m)) := by rw [nJ_mul, m_two]
  unfold f_M_decodeBlock
  rw [a0, a2, a3, c2, c3, if_neg i2, k2, hdom, Option.bind_some, if_neg i3, if_neg cz, if_neg cz, k3, eL, eT, e1, e2, m77]
  rfl
end
