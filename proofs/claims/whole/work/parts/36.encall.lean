/-! an encoding as a whole -/
theorem isSize_cases (x : Int32) : (f_F_isSize x = some 0 ∧ f_M_isSize x = some 0 ∧ ∀ j, 1 ≤ j → j ≤ 4 → x ≠ nI (2 ^ j)) ∨ (∃ j, 1 ≤ j ∧ j ≤ 4 ∧ x = nI (2 ^ j) ∧ f_F_isSize x = some 1 ∧ f_M_isSize x = some 1) := by
  unfold f_F_isSize f_M_isSize
  by_cases h1 : x = 2
  · right; exact ⟨1, by omega, by omega, h1, by rw [if_pos h1], by rw [if_pos h1]⟩
  · by_cases h2 : x = 4
    · right; exact ⟨2, by omega, by omega, h2, by rw [if_neg h1, if_pos h2], by rw [if_neg h1, if_pos h2]⟩
    · by_cases h3 : x = 8
      · right; exact ⟨3, by omega, by omega, h3, by rw [if_neg h1, if_neg h2, if_pos h3], by rw [if_neg h1, if_neg h2, if_pos h3]⟩
      · by_cases h4 : x = 16
        · right; exact ⟨4, by omega, by omega, h4, by rw [if_neg h1, if_neg h2, if_neg h3, if_pos h4], by rw [if_neg h1, if_neg h2, if_neg h3, if_pos h4]⟩
        · left
          refine ⟨by rw [if_neg h1, if_neg h2, if_neg h3, if_neg h4], by rw [if_neg h1, if_neg h2, if_neg h3, if_neg h4], fun j a b e => ?_⟩
          have hj : j = 1 ∨ j = 2 ∨ j = 3 ∨ j = 4 := by omega
          rcases hj with rfl | rfl | rfl | rfl
          · exact h1 e
          · exact h2 e
          · exact h3 e
          · exact h4 e
theorem size_le {j : Nat} (h : j ≤ 4) : 2 ^ j ≤ 16 := Nat.pow_le_pow_right (by omega) h
theorem size_ge {j : Nat} (h : 1 ≤ j) : 2 ≤ 2 ^ j := Nat.pow_le_pow_right (n := 2) (by omega) h
theorem l_F_sizeNumber {j : Nat} (h1 : 1 ≤ j) (h4 : j ≤ 4) : f_F_sizeNumber (nI (2 ^ j)) = some (nI j) := by
  unfold f_F_sizeNumber
  have key := lp_up (L := fun n' (_ : Unit) v => f_F_sizeNumber_2 (nI (2 ^ j)) n' (nI v)) (st := fun _ => ()) (b := j) (fin := nI j)
    (fun n' => by
      show f_F_sizeNumber_2 _ (n' + 1) _ = _
      rw [f_F_sizeNumber_2]
      by_cases c : j = 4
      · subst c; rw [if_pos (by decide)]
      · have sb := shl_bits j (by omega) 1 (by omega)
        rw [Nat.one_mul] at sb
        have := size_le h4
        rw [n1, sb]
        simp (disch := omega) only [n0, n1, n2, n3, n4, n5, n6, n7, n8, n10, n16, n40, n128, n255, n256, n1024, n2000, n2048, nJ_add, nJ_mul, nJ_sub, nJ_leT, nJ_leF, nJ_ltT, nJ_ltF, nJ_eqT, nJ_eqF, nJ_clamp, nJ_div, nM, iM_eqF, iM_eqF2, iM_leF, iM_ltF, iM_leT, iM_ltT, iM_add, iM_add0, natLeF, natLeT, natLtF, natLtT, natEqF, natEqT, if_true, if_false, ite_true, ite_false, false_or, or_false, or_self, Option.bind_some, ↓reduceIte])
    (fun n' v hv => by
      show f_F_sizeNumber_2 _ (n' + 1) _ = f_F_sizeNumber_2 _ n' _
      rw [f_F_sizeNumber_2]
      have b1 : 2 ^ v < 2 ^ j := Nat.pow_lt_pow_right (by omega) hv
      have b2 := size_le h4
      have sb := shl_bits v (by omega) 1 (by omega)
      rw [Nat.one_mul] at sb
      rw [n1, sb]
      simp (disch := omega) only [n0, n1, n2, n3, n4, n5, n6, n7, n8, n10, n16, n40, n128, n255, n256, n1024, n2000, n2048, nJ_add, nJ_mul, nJ_sub, nJ_leT, nJ_leF, nJ_ltT, nJ_ltF, nJ_eqT, nJ_eqF, nJ_clamp, nJ_div, nM, iM_eqF, iM_eqF2, iM_leF, iM_ltF, iM_leT, iM_ltT, iM_add, iM_add0, natLeF, natLeT, natLtF, natLtT, natEqF, natEqT, if_true, if_false, ite_true, ite_false, false_or, or_false, or_self, Option.bind_some, ↓reduceIte])
    FU 1 h1 (fu (by omega))
  have key : f_F_sizeNumber_2 (nI (2 ^ j)) FU 1 = _ := key
  rw [key]
  rfl
theorem four_two (d : Nat) : 2 * 2 ^ d * (2 * 2 ^ d) = 4 * 4 ^ d := by
  have : 4 ^ d = 2 ^ d * 2 ^ d := by rw [show (4 : Nat) = 2 * 2 from rfl, Nat.mul_pow]
  rw [this, Nat.mul_mul_mul_comm]
/-- what an encoding comes to -/
def encOf (p : Nat → Nat) (w d j bd : Nat) : ES := eQ p w (2 ^ j) bd d 0 0 (0, fun _ => 0, 3, apN j 3 (fun _ => 0) 0, 0)
theorem encOf_le {p : Nat → Nat} {w d j bd : Nat} (hw : w ≤ 16) : (encOf p w d j bd).1 ≤ 4 * 4 ^ d ∧ (encOf p w d j bd).2.2.1 ≤ 3 + 26 * (4 * 4 ^ d) := by
  unfold encOf eQ
  have l1 := eSq_le (p := p) (w := w) (least := 2 ^ j) (bd := bd) hw d 0 0 (0, fun _ => 0, 3, apN j 3 (fun _ => 0) 0, 0)
  generalize eSq p w (2 ^ j) bd d 0 0 (0, fun _ => 0, 3, apN j 3 (fun _ => 0) 0, 0) = s1 at l1 ⊢
  have l2 := eSq_le (p := p) (w := w) (least := 2 ^ j) (bd := bd) hw d (0 + 2 * 2 ^ d) 0 s1
  generalize eSq p w (2 ^ j) bd d (0 + 2 * 2 ^ d) 0 s1 = s2 at l2 ⊢
  have l3 := eSq_le (p := p) (w := w) (least := 2 ^ j) (bd := bd) hw d 0 (0 + 2 * 2 ^ d) s2
  generalize eSq p w (2 ^ j) bd d 0 (0 + 2 * 2 ^ d) s2 = s3 at l3 ⊢
  have l4 := eSq_le (p := p) (w := w) (least := 2 ^ j) (bd := bd) hw d (0 + 2 * 2 ^ d) (0 + 2 * 2 ^ d) s3
  dsimp only at l1
  omega
theorem bGood0 (e : Nat → Nat) : bGood e 0 := ⟨fun i hi => absurd hi (by omega), fun h => absurd rfl h⟩
theorem bRep0 (f : Nat → Int32) (e : Nat → Nat) : bRep f e 0 := fun i hi => absurd hi (by omega)
section
variable {n : Nat} {f : Nat → Int32} {hn : Nat} {hf : Nat → Int32} {wn dn qn rn kn cn ln bn : Nat} {p : Nat → Nat} {w d j bd : Nat}
theorem l_F_encode_ok {hs a1 a2 a3 a4 a5 a6 a7 a8 a9 a10 a11 b1 b2 b3 b4 b5 kc cf : Int32} {W Df Q R K C : Nat → Int32} (hwd : w = 2 * 2 ^ d) (hw : w ≤ 16) (hj1 : 1 ≤ j) (hj4 : j ≤ 4) (hjw : 2 ^ j ≤ w) (hbd : bd < 2147483648)
    (hn1 : 2 * w * (2 * w) ≤ n) (hH : w * w ≤ hn) (hH2 : hn < 2147483648) (hwn : w * w ≤ wn) (hw2 : wn < 2147483648) (hdn : w * w ≤ dn) (hd2 : dn < 2147483648) (hqn : 4 ≤ qn) (hrn : 8 ≤ rn) (hkn : kn = 8 * (w * w)) (hcn : cn = 4 * (w * w))
    (hf1 : ∀ k, k < 2 * w * (2 * w) → f k = nI (p k)) (hp : ∀ k, k < 2 * w * (2 * w) → p k ≤ 255) :
    ∃ r, f_F_encode (nI (2 ^ j)) (nI bd) (nI (2 * w)) (nI (2 * w)) n f (nI (2 * w)) hs hn hf a1 a2 a3 a4 a5 a6 a7 a8 a9 a10 a11 wn W dn Df qn Q rn R b1 b2 b3 b4 b5 kc kn K cf cn C = some (.inr r) ∧ r.1 = nI (encOf p w d j bd).1 ∧ eRep 0 r.2.2.2.2.2.2.2.2.2.2.2.2.2.2.2.2.2.2.2.2.2.2.2.1 r.2.2.2.2.2.2.2.2.2.2.2.2.2.2.2.2.2.2.2.2.2.2.2.2.1 r.2.2.2.2.2.2.2.2.2.2.2.2.2.2.2.2.2.2.2.2.2.2.2.2.2.1 r.2.2.2.2.2.2.2.2.2.2.2.2.2.2.2.2.2.2.2.2.2.2.2.2.2.2.2 r.2.2.2.2.2.2.2.2.1 (encOf p w d j bd) := by
  have hww : w * w ≤ 16 * 16 := Nat.mul_le_mul hw hw
  have e4 : w * w = 4 * 4 ^ d := by rw [hwd]; exact four_two d
  have f1 := four_pos d
  have hdd : d ≤ 5 := by
    by_cases c : d ≤ 5
    · exact c
    · have : 2 ^ 6 ≤ 2 ^ d := Nat.pow_le_pow_right (by omega) (by omega)
      omega
  have hs2 := size_ge hj1
  have hs4 := size_le hj4
  have h0 : f_F_isSize (nI (2 ^ j)) = some 1 := by
    rcases isSize_cases (nI (2 ^ j)) with ⟨_, _, h⟩ | ⟨_, _, _, _, h, _⟩
    · exact absurd rfl (h j hj1 hj4)
    · exact h
  have hv : nI (2 * w) / 2 = nI w := by rw [n2, nJ_div (by omega) (by omega)]; congr 1; omega
  have g1 : nI (2 ^ j) ≤ nI w := by rw [nJ_leT hjw (by omega)]; exact trivial
  have g2 : (0 : Int32) ≤ nI bd := by rw [n0, nJ_leT (by omega) hbd]; exact trivial
  have hhalf := l_G_half (s := 2 * w) (w := w) (m := hn) (n := n) (q := 2 * w) (f := f) (g := hf) (p := p) (G := hs) (by omega) (by omega) hn1 hH (by omega) (by omega) hf1 hp
  obtain ⟨C1, x1, x2⟩ := l_B_append (num := j) (w := 3) (n := cn) (m := 0) (f := C) (e := fun _ => 0) (by omega) (by omega) (by omega) (bRep0 _ _) (bGood0 _) (by omega)
  have hSq := l_cSq (n := n) (f := f) (hn := hn) (hf := wr hf (fun k => nI (hlf p (2 * w) k)) (w * w)) (wn := wn) (dn := dn) (qn := qn) (rn := rn) (kn := kn) (cn := cn) (p := p) (w := w) (least := 2 ^ j) (bd := bd) hw hs2 hs4 hbd hn1 hH hH2 hwn hw2 hdn hd2 hqn hrn hkn hcn hf1 hp (fun k hk => wr_lt hk) d (by omega) 5 hdd
  have hz : zRep (a1, a2, a3, a4, a5, 0, a7, a8, a9, a10, a11, W, Df, Q, R, b1, b2, b3, b4, b5, 0, K, nI (0 + 3), C1) (0, fun _ => 0, 3, apN j 3 (fun _ => 0) 0, 0) := ⟨rfl, fun k hk => absurd hk (by omega), rfl, x2, apN_good 3 _ 0 (bGood0 _), rfl⟩
  obtain ⟨r, k1, k2⟩ := l_cQt hw hSq (x := 0) (y := 0) (by omega) (by omega) (by omega) hz (show 0 + 4 * 4 ^ d ≤ w * w by omega) (show 3 + 26 * (4 * 4 ^ d) ≤ 32 * (w * w) + 4 by omega)
  have k3 : r.2.2.2.2.2.2.2.2.2.2.2.2.2.2.2.2.2.2.2.2.1 = nI (encOf p w d j bd).1 := k2.1
  refine ⟨(r.2.2.2.2.2.2.2.2.2.2.2.2.2.2.2.2.2.2.2.2.1, nI w, wr hf (fun k => nI (hlf p (2 * w) k)) (w * w), r.1, r.2.1, r.2.2.1, r.2.2.2.1, r.2.2.2.2.1, r.2.2.2.2.2.1, r.2.2.2.2.2.2.1, r.2.2.2.2.2.2.2.1, r.2.2.2.2.2.2.2.2.1, r.2.2.2.2.2.2.2.2.2.1, r.2.2.2.2.2.2.2.2.2.2.1, r.2.2.2.2.2.2.2.2.2.2.2.1, r.2.2.2.2.2.2.2.2.2.2.2.2.1, r.2.2.2.2.2.2.2.2.2.2.2.2.2.1, r.2.2.2.2.2.2.2.2.2.2.2.2.2.2.1, r.2.2.2.2.2.2.2.2.2.2.2.2.2.2.2.1, r.2.2.2.2.2.2.2.2.2.2.2.2.2.2.2.2.1, r.2.2.2.2.2.2.2.2.2.2.2.2.2.2.2.2.2.1, r.2.2.2.2.2.2.2.2.2.2.2.2.2.2.2.2.2.2.1, r.2.2.2.2.2.2.2.2.2.2.2.2.2.2.2.2.2.2.2.1, r.2.2.2.2.2.2.2.2.2.2.2.2.2.2.2.2.2.2.2.2.1, r.2.2.2.2.2.2.2.2.2.2.2.2.2.2.2.2.2.2.2.2.2.1, r.2.2.2.2.2.2.2.2.2.2.2.2.2.2.2.2.2.2.2.2.2.2.1, 0, r.2.2.2.2.2.2.2.2.2.2.2.2.2.2.2.2.2.2.2.2.2.2.2), ?_, k3, k2⟩
  unfold cQt at k1
  rw [← hwd] at k1
  dsimp only at k1
  unfold f_F_encode
  rw [h0, Option.bind_some, if_neg (by decide), hv, if_pos g1, if_pos g2]
  unfold f_K_wipe f_B_wipe f_S_start
  rw [hhalf]
  simp only [Option.bind_some]
  rw [l_F_sizeNumber hj1 hj4, Option.bind_some]
  have x1' : f_B_append (nI j) 3 0 cn C = some (nI (0 + 3), C1) := x1
  rw [x1', Option.bind_some]
  have k1' := k1
  rw [← n0] at k1'
  dsimp only
  rw [k1']
  rfl
theorem l_F_encode_bad {hs a1 a2 a3 a4 a5 a6 a7 a8 a9 a10 a11 b1 b2 b3 b4 b5 kc cf hm u v : Int32} {W Df Q R K C : Nat → Int32} (hw : w ≤ 16) (hb : ¬ ∃ j bd : Nat, 1 ≤ j ∧ j ≤ 4 ∧ 2 ^ j ≤ w ∧ bd < 2147483648 ∧ u = nI (2 ^ j) ∧ v = nI bd) :
    f_F_encode u v (nI (2 * w)) (nI (2 * w)) n f hm hs hn hf a1 a2 a3 a4 a5 a6 a7 a8 a9 a10 a11 wn W dn Df qn Q rn R b1 b2 b3 b4 b5 kc kn K cf cn C = some (.inl 2) := by
  have hv : nI (2 * w) / 2 = nI w := by rw [n2, nJ_div (by omega) (by omega)]; congr 1; omega
  unfold f_F_encode
  rcases isSize_cases u with ⟨h, _, _⟩ | ⟨j, j1, j4, hu, h, _⟩
  · rw [h, Option.bind_some, if_pos rfl]
  · have := size_le j4
    rw [h, Option.bind_some, if_neg (by decide), hv, hu]
    by_cases c : 2 ^ j ≤ w
    · have g1 : nI (2 ^ j) ≤ nI w := by rw [nJ_leT c (by omega)]; exact trivial
      rw [if_pos g1]
      rcases nJ_case v with c2 | ⟨b, b1, b2⟩
      · have : ¬ (0 : Int32) ≤ v := Int32.not_le.mpr c2
        rw [if_neg this]
      · exact absurd ⟨j, b, j1, j4, c, b1, hu, b2⟩ hb
    · have g1 : ¬ nI (2 ^ j) ≤ nI w := by rw [nJ_leF (by omega) (by omega)]; exact not_false
      rw [if_neg g1]
theorem mL_end {N : Nat} {l b S : Int32} {z : Z11} (h : z.2.2.2.1 = nI 0) : mL n f hn hf kn cn ln dn rn bn l b S (N + 1) z = some z := by
  unfold mL
  rw [f_M_encode_118, h, if_pos (by decide)]
  rw [← h]
theorem l_M_takeFound {c n : Nat} {f : Nat → Int32} (hc : c ≤ 256) (hn : n = 4096) : f_M_takeFound (nI c) n f = some (nI c, wr f (fun k => f (2048 + k)) (8 * c)) := by
  subst hn
  unfold f_M_takeFound
  have key := lp_up (L := fun n' (g : Nat → Int32) v => f_M_takeFound_2 (nI c) 4096 n' (nI v) g) (st := fun v => wr f (fun k => f (2048 + k)) v) (b := 8 * c) (fin := (nI (8 * c), wr f (fun k => f (2048 + k)) (8 * c)))
    (fun n' => by
      show f_M_takeFound_2 _ _ (n' + 1) _ _ = _
      rw [f_M_takeFound_2]
      simp (disch := omega) only [n0, n1, n2, n3, n4, n5, n6, n7, n8, n10, n16, n40, n128, n255, n256, n1024, n2000, n2048, nJ_add, nJ_mul, nJ_sub, nJ_leT, nJ_leF, nJ_ltT, nJ_ltF, nJ_eqT, nJ_eqF, nJ_clamp, nJ_div, nM, iM_eqF, iM_eqF2, iM_leF, iM_ltF, iM_leT, iM_ltT, iM_add, iM_add0, natLeF, natLeT, natLtF, natLtT, natEqF, natEqT, if_true, if_false, ite_true, ite_false, false_or, or_false, or_self, Option.bind_some, ↓reduceIte])
    (fun n' v hv => by
      show f_M_takeFound_2 _ _ (n' + 1) _ _ = f_M_takeFound_2 _ _ n' _ _
      rw [f_M_takeFound_2]
      simp (disch := omega) only [n0, n1, n2, n3, n4, n5, n6, n7, n8, n10, n16, n40, n128, n255, n256, n1024, n2000, n2048, nJ_add, nJ_mul, nJ_sub, nJ_leT, nJ_leF, nJ_ltT, nJ_ltF, nJ_eqT, nJ_eqF, nJ_clamp, nJ_div, nM, iM_eqF, iM_eqF2, iM_leF, iM_ltF, iM_leT, iM_ltT, iM_add, iM_add0, natLeF, natLeT, natLtF, natLtT, natEqF, natEqT, if_true, if_false, ite_true, ite_false, false_or, or_false, or_self, Option.bind_some, ↓reduceIte]
      rw [wr_ge (show v ≤ 2048 + v by omega), wrS])
    FU 0 (Nat.zero_le _) (fu (by omega))
  have key : f_M_takeFound_2 (nI c) 4096 FU 0 (wr f (fun k => f (2048 + k)) 0) = _ := key
  rw [wr0] at key
  rw [key]
  rfl
theorem l_M_encode_ok {cd my fo eb tr wt : Int32} {be : Int64} {K C P Ds Rs bf : Nat → Int32} (hwd : w = 2 * 2 ^ d) (hw : w ≤ 16) (hj1 : 1 ≤ j) (hj4 : j ≤ 4) (hjw : 2 ^ j ≤ w) (hbd : bd < 2147483648)
    (hn1 : 2 * w * (2 * w) ≤ n) (hH : w * w ≤ hn) (hdn : 256 ≤ dn) (hrn : 256 ≤ rn) (hbn : 4 ≤ bn) (hkn : kn = 4096) (hcn : cn = 2000) (hln : ln = 96)
    (hf1 : ∀ k, k < 2 * w * (2 * w) → f k = nI (p k)) (hp : ∀ k, k < 2 * w * (2 * w) → p k ≤ 255) :
    ∃ r, f_M_encode (nI (2 ^ j)) (nI bd) cd (nI (2 * w)) my fo eb tr wt be n f hn hf kn K cn C ln P dn Ds rn Rs bn bf = some r ∧ r.1 = nI (encOf p w d j bd).1 ∧ r.2.1 = 0 ∧ eRep 0 r.2.2.1 r.2.2.2.2.2.2.2.2.2.1 r.2.2.2.2.1 r.2.2.2.2.2.2.2.2.2.2.1 r.2.2.2.2.2.1 (encOf p w d j bd) := by
  have hww : w * w ≤ 16 * 16 := Nat.mul_le_mul hw hw
  have e4 : w * w = 4 * 4 ^ d := by rw [hwd]; exact four_two d
  have f1 := four_pos d
  have t1 := two_pos' d
  have hdd : d ≤ 3 := by
    by_cases c : d ≤ 3
    · exact c
    · have : 2 ^ 4 ≤ 2 ^ d := Nat.pow_le_pow_right (by omega) (by omega)
      omega
  have hs2 := size_ge hj1
  have hs4 := size_le hj4
  have h0 : f_M_isSize (nI (2 ^ j)) = some 1 := by
    rcases isSize_cases (nI (2 ^ j)) with ⟨_, _, h⟩ | ⟨_, _, _, _, _, h⟩
    · exact absurd rfl (h j hj1 hj4)
    · exact h
  have g1 : ¬ nI (2 * w) < 2 * nI (2 ^ j) := by rw [n2, nJ_mul, nJ_ltF (by omega) (by omega)]; exact not_false
  have g2 : ¬ nI bd < 0 := by rw [n0, nJ_ltF (by omega) (by omega)]; exact not_false
  have hhalf := l_M_halve (s := 2 * w) (w := w) (m := hn) (n := n) (f := f) (g := hf) (p := p) (by omega) (by omega) hn1 hH hf1 hp
  obtain ⟨C1, x1, x2⟩ := l_M_tell (num := j) (w := 3) (n := cn) (m := 0) (f := C) (e := fun _ => 0) (by omega) (by omega) (by omega) (bRep0 _ _) (bGood0 _) (by omega)
  obtain ⟨P', y1, y2, y3, y4, y5, _⟩ := l_pileQ (k := 0) (n := ln) (x := 0) (y := 0) (h := 2 * 2 ^ d) (f := P) (by omega) (by omega) (by omega)
  have hSq := l_mL (n := n) (f := f) (hn := hn) (hf := wr hf (fun k => nI (hlf p (2 * w) k)) (w * w)) (kn := kn) (cn := cn) (ln := ln) (dn := dn) (rn := rn) (bn := bn) (p := p) (w := w) (least := 2 ^ j) (bd := bd) hw hs2 hs4 hbd hn1 hH hdn hrn hbn hkn hcn (by omega) hf1 hp (fun k hk => wr_lt hk) d (by omega)
  have hz : mRep (0, nI (0 + 3), 0, nI (0 + 4), be, K, C1, P', Ds, Rs, bf) (0, fun _ => 0, 3, apN j 3 (fun _ => 0) 0, 0) (0 + 4) := ⟨⟨rfl, fun k hk => absurd hk (by omega), rfl, x2, apN_good 3 _ 0 (bGood0 _), rfl⟩, rfl⟩
  obtain ⟨c, r, k0, k1, k2, _⟩ := l_mQ hw hSq (x := 0) (y := 0) (k := 0) (by omega) (by omega) hz y2 y3 y4 y5 (show 0 + 4 * 4 ^ d ≤ w * w by omega) (show 3 + 26 * (4 * 4 ^ d) ≤ 15904 by omega) (by omega)
  have hFU : FU = (FU - c - 1) + 1 + c := by unfold FU; omega
  have k4 : mL n f hn (wr hf (fun k => nI (hlf p (2 * w) k)) (w * w)) kn cn ln dn rn bn (nI (2 ^ j)) (nI bd) (nI (2 * w)) FU (0, nI (0 + 3), 0, nI (0 + 4), be, K, C1, P', Ds, Rs, bf) = some r := by
    rw [hFU, k1]; exact mL_end k2.2
  have hle := encOf_le (p := p) (d := d) (j := j) (bd := bd) hw
  obtain ⟨⟨r1, r2, r3, r4, r5, r6⟩, r7⟩ := k2
  have hq : (encOf p w d j bd) = eQ p w (2 ^ j) bd d 0 0 (0, fun _ => 0, 3, apN j 3 (fun _ => 0) 0, 0) := rfl
  rw [← hq] at r1 r2 r3 r4 r5 r6
  have tf := l_M_takeFound (c := (encOf p w d j bd).1) (n := kn) (f := r.2.2.2.2.2.1) (by omega) hkn
  refine ⟨(nI (encOf p w d j bd).1, 0, nI (encOf p w d j bd).1, r.1, r.2.1, r.2.2.1, r.2.2.2.1, r.2.2.2.2.1, wr hf (fun k => nI (hlf p (2 * w) k)) (w * w), wr r.2.2.2.2.2.1 (fun k => r.2.2.2.2.2.1 (2048 + k)) (8 * (encOf p w d j bd).1), r.2.2.2.2.2.2.1, r.2.2.2.2.2.2.2.1, r.2.2.2.2.2.2.2.2.1, r.2.2.2.2.2.2.2.2.2.1, r.2.2.2.2.2.2.2.2.2.2), ?_, rfl, rfl, rfl, ?_, r3, r4, r5, r6⟩
  · have y1' : f_M_pileQuarters 0 0 (nI (2 * w)) 0 ln P = some (nI (0 + 4), P') := by rw [hwd]; exact y1
    have x1' : f_M_tell (nI j) 3 0 cn C = some (nI (0 + 3), C1) := x1
    unfold mL at k4
    dsimp only at k4
    have J : f_M_encode_J104 (nI (2 ^ j)) (nI bd) 0 (nI (2 * w)) my 0 0 0 0 be n f hn (wr hf (fun k => nI (hlf p (2 * w) k)) (w * w)) kn K cn C ln P dn Ds rn Rs bn bf (nI j) = some (nI (encOf p w d j bd).1, 0, nI (encOf p w d j bd).1, r.1, r.2.1, r.2.2.1, r.2.2.2.1, r.2.2.2.2.1, wr hf (fun k => nI (hlf p (2 * w) k)) (w * w), wr r.2.2.2.2.2.1 (fun k => r.2.2.2.2.2.1 (2048 + k)) (8 * (encOf p w d j bd).1), r.2.2.2.2.2.2.1, r.2.2.2.2.2.2.2.1, r.2.2.2.2.2.2.2.2.1, r.2.2.2.2.2.2.2.2.2.1, r.2.2.2.2.2.2.2.2.2.2) := by
      unfold f_M_encode_J104
      rw [x1', Option.bind_some, y1', Option.bind_some]
      dsimp only
      rw [k4, Option.bind_some, r1, tf]
      rfl
    unfold f_M_encode
    rw [h0, Option.bind_some, if_neg (by decide), if_neg g1, if_neg g2]
    unfold f_M_encode_J27
    rw [if_pos (by decide), hhalf, Option.bind_some]
    have hj : j = 1 ∨ j = 2 ∨ j = 3 ∨ j = 4 := by omega
    rcases hj with rfl | rfl | rfl | rfl
    · rw [if_pos (by decide)]; exact J
    · rw [if_neg (by decide), if_pos (by decide)]; exact J
    · rw [if_neg (by decide), if_neg (by decide), if_pos (by decide)]; exact J
    · rw [if_neg (by decide), if_neg (by decide), if_neg (by decide)]; exact J
  · intro k hk
    dsimp only
    rw [Nat.zero_add, wr_lt hk]
    exact r2 k hk
theorem l_M_encode_bad {cd my fo eb tr wt u v : Int32} {be : Int64} {K C P Ds Rs bf : Nat → Int32} (hw : w ≤ 16) (hb : ¬ ∃ j bd : Nat, 1 ≤ j ∧ j ≤ 4 ∧ 2 ^ j ≤ w ∧ bd < 2147483648 ∧ u = nI (2 ^ j) ∧ v = nI bd) :
    f_M_encode u v cd (nI (2 * w)) my fo eb tr wt be n f hn hf kn K cn C ln P dn Ds rn Rs bn bf = some (0, 1, my, fo, eb, tr, wt, be, hf, K, C, P, Ds, Rs, bf) := by
  have J : f_M_encode_J27 u v cd (nI (2 * w)) my fo eb tr wt be n f hn hf kn K cn C ln P dn Ds rn Rs bn bf 1 = some (0, 1, my, fo, eb, tr, wt, be, hf, K, C, P, Ds, Rs, bf) := by
    unfold f_M_encode_J27
    rw [if_neg (by decide)]
  unfold f_M_encode
  rcases isSize_cases u with ⟨_, h, _⟩ | ⟨j, j1, j4, hu, _, h⟩
  · rw [h, Option.bind_some, if_pos rfl]; exact J
  · have := size_le j4
    rw [h, Option.bind_some, if_neg (by decide)]
    by_cases c : 2 ^ j ≤ w
    · have g1 : ¬ nI (2 * w) < 2 * u := by rw [hu, n2, nJ_mul, nJ_ltF (by omega) (by omega)]; exact not_false
      rw [if_neg g1]
      rcases nJ_case v with c2 | ⟨b, b1, b2⟩
      · rw [if_pos c2]; exact J
      · exact absurd ⟨j, b, j1, j4, c, b1, hu, b2⟩ hb
    · have g1 : nI (2 * w) < 2 * u := by rw [hu, n2, nJ_mul, nJ_ltT (by omega) (by omega)]; exact trivial
      rw [if_pos g1]; exact J
end
