/-! rounds of putting together, and all of it -/
theorem l_in {x : Int32} {a b : Int} (ha1 : -2147483648 ≤ a) (ha2 : a < 2147483648) (hb1 : -2147483648 ≤ b) (hb2 : b < 2147483648) : f_M_in x.toInt64 (lI a) (lI b) = some (if a ≤ x.toInt ∧ x.toInt ≤ b then 1 else 0) := by
  have e : ∀ z : Int, -2147483648 ≤ z → z < 2147483648 → (lI z).toInt = z := fun z h1 h2 => lI_toInt (by omega) (by omega)
  unfold f_M_in
  simp only [cmp_lt0, cmp_gt0]
  have i1 : x.toInt64 < lI a ↔ x.toInt < a := by rw [Int64.lt_iff_toInt_lt, Int32.toInt_toInt64, e a ha1 ha2]
  have i2 : lI b < x.toInt64 ↔ b < x.toInt := by rw [Int64.lt_iff_toInt_lt, Int32.toInt_toInt64, e b hb1 hb2]
  by_cases h1 : x.toInt < a
  · rw [if_pos (i1.mpr h1), if_neg (by omega)]
  · rw [if_neg (fun h => h1 (i1.mp h))]
    by_cases h2 : b < x.toInt
    · rw [if_pos (i2.mpr h2), if_neg (by omega)]
    · rw [if_neg (fun h => h2 (i2.mp h)), if_pos (by omega)]
section
variable {w m c : Nat} {F : Nat → Int}
def dec (w m : Nat) (F : Nat → Int) (c : Nat) : Nat → (Nat → Nat) × Nat
  | 0 => (fun _ => 128, 0)
  | r + 1 => (rP w m F (dec w m F c r).1 (hlf (dec w m F c r).1 (2 * (w * m))) c, rC w m F (dec w m F c r).1 (hlf (dec w m F c r).1 (2 * (w * m))) c)
theorem dec_le : ∀ r j, (dec w m F c r).1 j ≤ 255 := by
  intro r
  induction r with
  | zero => intro j; show (128 : Nat) ≤ 255; omega
  | succ r ih => intro j; exact rP_le ih c j
theorem wm_sq (hw : w ≤ 16) (hm2 : m ≤ 2) : w * m ≤ 32 := by
  have : w * m ≤ 16 * 2 := Nat.mul_le_mul hw hm2
  omega
theorem l_C_round {sc kn nn hn : Nat} {K f HA : Nat → Int32} {O : Nat → Nat} {hs a1 a2 a3 a4 a5 : Int32} (hw : w ≤ 16) (hsc : sc < 2) (hm : m = sc + 1) (hF : okF w F c) (hr : kRep 0 K F c) (hc : 8 * c ≤ kn) (hkn : kn ≤ 2048) (hnn : 2 * (w * m) * (2 * (w * m)) ≤ nn) (hHn : w * m * (w * m) ≤ hn) (hHn2 : hn < 2147483648)
    (hf : ∀ j, j < 2 * (w * m) * (2 * (w * m)) → f j = nI (O j)) (hO : ∀ j, O j ≤ 255) :
    ∃ r, f_F_decodeRound (nI sc) (nI (2 * (w * m))) nn f (nI (2 * w)) hs hn HA a1 a2 a3 a4 a5 (nI c) kn K = some r ∧ r.1 = nI (rC w m F O (hlf O (2 * (w * m))) c) ∧ ∀ j, j < 2 * (w * m) * (2 * (w * m)) → r.2.1 j = nI (rP w m F O (hlf O (2 * (w * m))) c j) := by
  have hwm := wm_sq hw (show m ≤ 2 by omega)
  have hm0 : 0 < m := by omega
  have hwm2 : w * m ≤ 2 * w := by
    have : w * m ≤ w * 2 := Nat.mul_le_mul_left w (by omega)
    omega
  have hhalf := l_G_half (s := 2 * (w * m)) (w := w * m) (m := hn) (n := nn) (q := 2 * w) (f := f) (g := HA) (p := O) (G := hs) (by omega) (by omega) hnn hHn hwm2 (by omega) hf (fun k _ => hO k)
  have hHA : ∀ k, k < w * m * (w * m) → wr HA (fun k => nI (hlf O (2 * (w * m)) k)) (w * m * (w * m)) k = nI (hlf O (2 * (w * m)) k) ∧ hlf O (2 * (w * m)) k ≤ 255 := fun k hk => ⟨wr_lt hk, hlf_le (fun k _ => hO k) hk⟩
  have key := lp_inv (L := fun n' (a : Int32 × (Nat → Int32) × Int32 × Int32 × Int32 × Int32 × Int32) v => f_F_decodeRound_15 (nI sc) (nI (2 * (w * m))) nn (nI (w * m)) hn (wr HA (fun k => nI (hlf O (2 * (w * m)) k)) (w * m * (w * m))) (nI c) kn K n' a.1 (nI v) a.2.1 a.2.2.1 a.2.2.2.1 a.2.2.2.2.1 a.2.2.2.2.2.1 a.2.2.2.2.2.2)
    (I := fun v a => a.1 = nI (rC w m F O (hlf O (2 * (w * m))) v) ∧ ∀ j, j < 2 * (w * m) * (2 * (w * m)) → a.2.1 j = nI (rP w m F O (hlf O (2 * (w * m))) v j))
    (F := fun r => r.1 = nI (rC w m F O (hlf O (2 * (w * m))) c) ∧ ∀ j, j < 2 * (w * m) * (2 * (w * m)) → r.2.2.1 j = nI (rP w m F O (hlf O (2 * (w * m))) c j)) (b := c)
    (fun n' a ha => by
      refine ⟨(a.1, nI c, a.2.1, a.2.2.1, a.2.2.2.1, a.2.2.2.2.1, a.2.2.2.2.2.1, a.2.2.2.2.2.2), ?_, ha⟩
      show f_F_decodeRound_15 _ _ _ _ _ _ _ _ _ (n' + 1) _ _ _ _ _ _ _ _ = _
      rw [f_F_decodeRound_15, if_pos (by rw [nJ_leT (Nat.le_refl _) (by omega)]; exact trivial)])
    (fun n' a v hv ha => by
      have hB := hF.1 v hv
      obtain ⟨b1, b2, b3, b4, b5, e⟩ := l_C_block (q := hlf O (2 * (w * m))) (P := rP w m F O (hlf O (2 * (w * m))) v) (f := a.2.1) (a1 := a.2.2.1) (a2 := a.2.2.2.1) (a3 := a.2.2.2.2.1) (a4 := a.2.2.2.2.2.1) (a5 := a.2.2.2.2.2.2) hw hsc hm hB hv hr hc hkn hnn hHn hHn2 hHA ha.2 (rP_le hO v)
      rw [cG_congr (O := O) (fun i hi => rP_at hm0 hF hv hi)] at e
      have l1 := rC_le (w := w) (m := m) (F := F) (q := hlf O (2 * (w * m))) hO v
      have l2 := cG_le (s := 2 * (w * m)) (L := bX F v * m) (T := bY F v * m) (z := 2 * (bH F v * m)) (v := vF (hlf O (2 * (w * m))) w m F v) (O := O) (k := 2 * (bH F v * m) * (2 * (bH F v * m))) (fun i => vF_le v i) hO
      refine ⟨(nI (rC w m F O (hlf O (2 * (w * m))) (v + 1)), pA (2 * (w * m)) (bX F v * m) (bY F v * m) (2 * (bH F v * m)) (vF (hlf O (2 * (w * m))) w m F v) a.2.1 (2 * (bH F v * m) * (2 * (bH F v * m))), b1, b2, b3, b4, b5), ?_, rfl, ?_⟩
      · show f_F_decodeRound_15 _ _ _ _ _ _ _ _ _ (n' + 1) _ _ _ _ _ _ _ _ = f_F_decodeRound_15 _ _ _ _ _ _ _ _ _ n' _ _ _ _ _ _ _ _
        rw [f_F_decodeRound_15, if_neg (by rw [nJ_leF hv (by omega)]; exact not_false)]
        rw [e, Option.bind_some, ha.1, n1, nJ_add]
        dsimp only
        rw [mx_C l1 l2, rC]
      · intro j hj
        exact pA_rep ha.2 _ j hj)
    FU 0 (0, f, a1, a2, a3, a4, a5) (Nat.zero_le _) (fu (by omega)) ⟨rfl, hf⟩
  obtain ⟨r, e, h1, h2⟩ := key
  have e : f_F_decodeRound_15 (nI sc) (nI (2 * (w * m))) nn (nI (w * m)) hn (wr HA (fun k => nI (hlf O (2 * (w * m)) k)) (w * m * (w * m))) (nI c) kn K FU 0 0 f a1 a2 a3 a4 a5 = some r := e
  unfold f_F_decodeRound
  rw [hhalf, Option.bind_some]
  dsimp only
  rw [e, Option.bind_some]
  exact ⟨_, rfl, h1, h2⟩
theorem l_JA_fill {nn : Nat} {x : Int32} {f : Nat → Int32} (hn : nn ≤ 4096) : f_JA_fill x nn f = some (wr f (fun _ => x) nn) := by
  unfold f_JA_fill
  have key := lp_up (L := fun n' (a : Nat → Int32) v => f_JA_fill_5 x (nI nn) nn n' (nI v) a) (st := fun v => wr f (fun _ => x) v) (b := nn) (fin := (nI nn, wr f (fun _ => x) nn))
    (fun n' => by
      show f_JA_fill_5 _ _ _ (n' + 1) _ _ = _
      rw [f_JA_fill_5]
      simp (disch := omega) only [n0, n1, n2, n3, n4, n5, n6, n7, n8, n10, n16, n40, n128, n255, n256, n1024, n2000, n2048, nJ_add, nJ_mul, nJ_sub, nJ_leT, nJ_leF, nJ_ltT, nJ_ltF, nJ_eqT, nJ_eqF, nJ_clamp, nJ_div, nM, iM_eqF, iM_eqF2, iM_leF, iM_ltF, iM_leT, iM_ltT, iM_add, iM_add0, natLeF, natLeT, natLtF, natLtT, natEqF, natEqT, if_true, if_false, ite_true, ite_false, false_or, or_false, or_self, Option.bind_some, ↓reduceIte])
    (fun n' v hv => by
      show f_JA_fill_5 _ _ _ (n' + 1) _ _ = f_JA_fill_5 _ _ _ n' _ _
      rw [f_JA_fill_5]
      simp (disch := omega) only [n0, n1, n2, n3, n4, n5, n6, n7, n8, n10, n16, n40, n128, n255, n256, n1024, n2000, n2048, nJ_add, nJ_mul, nJ_sub, nJ_leT, nJ_leF, nJ_ltT, nJ_ltF, nJ_eqT, nJ_eqF, nJ_clamp, nJ_div, nM, iM_eqF, iM_eqF2, iM_leF, iM_ltF, iM_leT, iM_ltT, iM_add, iM_add0, natLeF, natLeT, natLtF, natLtT, natEqF, natEqT, if_true, if_false, ite_true, ite_false, false_or, or_false, or_self, Option.bind_some, ↓reduceIte]
      have := wrS f (fun _ => x) v
      rw [this])
    FU 0 (Nat.zero_le _) (fu (by omega))
  have key : f_JA_fill_5 x (nI nn) nn FU 0 (wr f (fun _ => x) 0) = _ := key
  rw [wr0] at key
  rw [key]
  rfl
theorem l_G_become {nn s q : Nat} {x : Int32} {f : Nat → Int32} (hn : nn ≤ 4096) (hs : s ≤ q) (hq : q ≤ 64) : f_G_become (nI s) x (nI q) nn f = some (nI s, wr f (fun _ => x) nn) := by
  unfold f_G_become
  rw [l_JA_fill hn, Option.bind_some, if_neg (show ¬ nI q < nI s by rw [nJ_ltF hs (by omega)]; exact not_false)]
  by_cases h : s = 0
  · subst h; rw [if_neg (by decide)]; rfl
  · rw [if_pos (by rw [n0, nJ_ltT (by omega) (by omega)]; exact trivial)]
theorem l_F_decode_ok {R sc kn nn hn : Nat} {K f HA : Nat → Int32} {ns hs a1 a2 a3 a4 a5 : Int32} (hw : w ≤ 16) (hsc : sc < 2) (hm : m = sc + 1) (hR1 : 1 ≤ R) (hR : R ≤ 40) (hF : okF w F c) (hr : kRep 0 K F c) (hc0 : c ≠ 0) (hc : 8 * c ≤ kn) (hkn : kn ≤ 2048) (hnn : 2 * (w * m) * (2 * (w * m)) ≤ nn) (hnn2 : nn ≤ 4096) (hHn : w * m * (w * m) ≤ hn) (hHn2 : hn < 2147483648) :
    ∃ r, f_F_decode (nI R) (nI sc) (nI (2 * w)) (nI (4 * w)) ns nn f (nI (2 * w)) hs hn HA a1 a2 a3 a4 a5 (nI c) kn K = some (.inr r) ∧ r.1 = nI (dec w m F c R).2 ∧ r.2.1 = nI (2 * (w * m)) ∧ ∀ j, j < 2 * (w * m) * (2 * (w * m)) → r.2.2.1 j = nI ((dec w m F c R).1 j) := by
  have hwm := wm_sq hw (show m ≤ 2 by omega)
  have hwm2 : w * m ≤ 2 * w := by
    have : w * m ≤ w * 2 := Nat.mul_le_mul_left w (by omega)
    omega
  have s0 := sh2 sc hsc (2 * w) (by omega)
  rw [← hm, m_two] at s0
  have bc := l_G_become (nn := nn) (s := 2 * (w * m)) (q := 4 * w) (x := 128) (f := f) hnn2 (by omega) (by omega)
  have key := lp_inv (L := fun n' (a : Int32 × (Nat → Int32) × Int32 × (Nat → Int32) × Int32 × Int32 × Int32 × Int32 × Int32) v => f_F_decode_81 (nI R) (nI sc) (nI (2 * (w * m))) nn (nI (2 * w)) hn (nI c) kn K n' a.1 (nI v) a.2.1 a.2.2.1 a.2.2.2.1 a.2.2.2.2.1 a.2.2.2.2.2.1 a.2.2.2.2.2.2.1 a.2.2.2.2.2.2.2.1 a.2.2.2.2.2.2.2.2)
    (I := fun v a => a.1 = nI (dec w m F c v).2 ∧ ∀ j, j < 2 * (w * m) * (2 * (w * m)) → a.2.1 j = nI ((dec w m F c v).1 j))
    (F := fun r => r.1 = nI (dec w m F c R).2 ∧ ∀ j, j < 2 * (w * m) * (2 * (w * m)) → r.2.2.1 j = nI ((dec w m F c R).1 j)) (b := R)
    (fun n' a ha => by
      refine ⟨(a.1, nI R, a.2.1, a.2.2.1, a.2.2.2.1, a.2.2.2.2.1, a.2.2.2.2.2.1, a.2.2.2.2.2.2.1, a.2.2.2.2.2.2.2.1, a.2.2.2.2.2.2.2.2), ?_, ha⟩
      show f_F_decode_81 _ _ _ _ _ _ _ _ _ (n' + 1) _ _ _ _ _ _ _ _ _ _ = _
      rw [f_F_decode_81, if_pos (by rw [nJ_leT (Nat.le_refl _) (by omega)]; exact trivial)])
    (fun n' a v hv ha => by
      obtain ⟨r, e, h1, h2⟩ := l_C_round (O := (dec w m F c v).1) (f := a.2.1) (hs := a.2.2.1) (HA := a.2.2.2.1) (a1 := a.2.2.2.2.1) (a2 := a.2.2.2.2.2.1) (a3 := a.2.2.2.2.2.2.1) (a4 := a.2.2.2.2.2.2.2.1) (a5 := a.2.2.2.2.2.2.2.2) hw hsc hm hF hr hc hkn hnn hHn hHn2 ha.2 (dec_le v)
      refine ⟨r, ?_, h1, h2⟩
      show f_F_decode_81 _ _ _ _ _ _ _ _ _ (n' + 1) _ _ _ _ _ _ _ _ _ _ = f_F_decode_81 _ _ _ _ _ _ _ _ _ n' _ _ _ _ _ _ _ _ _ _
      rw [f_F_decode_81, if_neg (by rw [nJ_leF hv (by omega)]; exact not_false)]
      rw [e, Option.bind_some, n1, nJ_add])
    FU 0 (0, wr f (fun _ => 128) nn, hs, HA, a1, a2, a3, a4, a5) (Nat.zero_le _) (fu (by omega)) ⟨rfl, fun j hj => by dsimp only; rw [wr_lt (by omega)]; rfl⟩
  obtain ⟨r, e, h1, h2⟩ := key
  have e : f_F_decode_81 (nI R) (nI sc) (nI (2 * (w * m))) nn (nI (2 * w)) hn (nI c) kn K FU 0 0 (wr f (fun _ => 128) nn) hs HA a1 a2 a3 a4 a5 = some r := e
  unfold f_F_decode
  rw [if_neg (show ¬ nI R < 1 by rw [n1, nJ_ltF (by omega) (by omega)]; exact not_false), if_pos (show nI R ≤ 40 by rw [n40, nJ_leT (by omega) (by omega)]; exact trivial), if_neg (show ¬ nI sc < 0 by rw [n0, nJ_ltF (by omega) (by omega)]; exact not_false), if_pos (show nI sc ≤ 1 by rw [n1, nJ_leT (by omega) (by omega)]; exact trivial), if_neg (show ¬ nI c = 0 by rw [n0, nJ_eqF hc0 (by omega) (by omega)]; exact not_false), s0, bc, Option.bind_some]
  dsimp only
  rw [e, Option.bind_some]
  exact ⟨_, rfl, h1, rfl, h2⟩
theorem l_M_round {kn nn on hn : Nat} {K f ol HA : Nat → Int32} {p1 p2 p4 : Int32} {O : Nat → Nat} (hw : w ≤ 16) (hm0 : 0 < m) (hm2 : m ≤ 2) (hp2 : p2 + 1 = nI m) (hF : okF w F c) (hr : kRep 0 K F c) (hc : c ≤ 256) (hkn : kn = 4096) (hnn : 2 * (w * m) * (2 * (w * m)) ≤ nn) (hon : 2 * (w * m) * (2 * (w * m)) ≤ on) (hHn : w * m * (w * m) ≤ hn)
    (hHA : ∀ k, k < w * m * (w * m) → HA k = nI (hlf O (2 * (w * m)) k)) (hol : ∀ j, j < 2 * (w * m) * (2 * (w * m)) → ol j = nI (O j)) (hf : ∀ j, j < 2 * (w * m) * (2 * (w * m)) → f j = nI (O j)) (hO : ∀ j, O j ≤ 255) :
    ∃ r, f_M_decode_161 p1 p2 p4 (nI (2 * w)) (nI c) kn K nn on ol hn HA FU 0 0 f = some r ∧ r.1 = nI (rC w m F O (hlf O (2 * (w * m))) c) ∧ ∀ j, j < 2 * (w * m) * (2 * (w * m)) → r.2.2 j = nI (rP w m F O (hlf O (2 * (w * m))) c j) := by
  have hHA2 : ∀ k, k < w * m * (w * m) → HA k = nI (hlf O (2 * (w * m)) k) ∧ hlf O (2 * (w * m)) k ≤ 255 := fun k hk => ⟨hHA k hk, hlf_le (fun k _ => hO k) hk⟩
  have key := lp_inv (L := fun n' (a : Int32 × (Nat → Int32)) v => f_M_decode_161 p1 p2 p4 (nI (2 * w)) (nI c) kn K nn on ol hn HA n' a.1 (nI v) a.2)
    (I := fun v a => a.1 = nI (rC w m F O (hlf O (2 * (w * m))) v) ∧ ∀ j, j < 2 * (w * m) * (2 * (w * m)) → a.2 j = nI (rP w m F O (hlf O (2 * (w * m))) v j))
    (F := fun r => r.1 = nI (rC w m F O (hlf O (2 * (w * m))) c) ∧ ∀ j, j < 2 * (w * m) * (2 * (w * m)) → r.2.2 j = nI (rP w m F O (hlf O (2 * (w * m))) c j)) (b := c)
    (fun n' a ha => by
      refine ⟨(a.1, nI c, a.2), ?_, ha⟩
      show f_M_decode_161 _ _ _ _ _ _ _ _ _ _ _ _ (n' + 1) _ _ _ = _
      rw [f_M_decode_161, if_pos (by rw [nJ_leT (Nat.le_refl _) (by omega)]; exact trivial)])
    (fun n' a v hv ha => by
      have hB := hF.1 v hv
      have e := l_M_block (q := hlf O (2 * (w * m))) (O := O) (f := a.2) (ol := ol) (nn := nn) (on := on) (hn := hn) (HA := HA) hw hm0 hm2 hB hv hr hc hkn hnn hon hHn hHA2 hol hO
      have l1 := rC_le (w := w) (m := m) (F := F) (q := hlf O (2 * (w * m))) hO v
      have l2 := cG_le (s := 2 * (w * m)) (L := bX F v * m) (T := bY F v * m) (z := 2 * (bH F v * m)) (v := vF (hlf O (2 * (w * m))) w m F v) (O := O) (k := 2 * (bH F v * m) * (2 * (bH F v * m))) (fun i => vF_le v i) hO
      refine ⟨(nI (rC w m F O (hlf O (2 * (w * m))) (v + 1)), pA (2 * (w * m)) (bX F v * m) (bY F v * m) (2 * (bH F v * m)) (vF (hlf O (2 * (w * m))) w m F v) a.2 (2 * (bH F v * m) * (2 * (bH F v * m)))), ?_, rfl, ?_⟩
      · show f_M_decode_161 _ _ _ _ _ _ _ _ _ _ _ _ (n' + 1) _ _ _ = f_M_decode_161 _ _ _ _ _ _ _ _ _ _ _ _ n' _ _ _
        rw [f_M_decode_161, if_neg (by rw [nJ_leF hv (by omega)]; exact not_false), hp2, e, Option.bind_some, ha.1, n1, nJ_add]
        dsimp only
        rw [rC]
        unfold mx
        by_cases h : rC w m F O (hlf O (2 * (w * m))) v < cG (2 * (w * m)) (bX F v * m) (bY F v * m) (2 * (bH F v * m)) (vF (hlf O (2 * (w * m))) w m F v) O (2 * (bH F v * m) * (2 * (bH F v * m)))
        · rw [if_pos h, if_neg (by rw [nJ_leF h (by omega)]; exact not_false)]
        · rw [if_neg h, if_pos (by rw [nJ_leT (by omega) (by omega)]; exact trivial)]
      · intro j hj
        exact pA_rep ha.2 _ j hj)
    FU 0 (0, f) (Nat.zero_le _) (fu (by omega)) ⟨rfl, hf⟩
  obtain ⟨r, e, h1, h2⟩ := key
  exact ⟨r, e, h1, h2⟩
theorem l_M_copy {s nn on : Nat} {f g : Nat → Int32} {p1 p2 p3 p4 : Int32} (hs : s ≤ 64) (hnn : s * s ≤ nn) (hon : s * s ≤ on) : f_M_decode_122 p1 p2 p3 p4 (nI s) nn f on FU 0 g = some (nI (s * s), wr g f (s * s)) := by
  have hs2 := sq64 hs
  have key := lp_up (L := fun n' (a : Nat → Int32) v => f_M_decode_122 p1 p2 p3 p4 (nI s) nn f on n' (nI v) a) (st := fun v => wr g f v) (b := s * s) (fin := (nI (s * s), wr g f (s * s)))
    (fun n' => by
      show f_M_decode_122 _ _ _ _ _ _ _ _ (n' + 1) _ _ = _
      rw [f_M_decode_122]
      simp (disch := omega) only [n0, n1, n2, n3, n4, n5, n6, n7, n8, n10, n16, n40, n128, n255, n256, n1024, n2000, n2048, nJ_add, nJ_mul, nJ_sub, nJ_leT, nJ_leF, nJ_ltT, nJ_ltF, nJ_eqT, nJ_eqF, nJ_clamp, nJ_div, nM, iM_eqF, iM_eqF2, iM_leF, iM_ltF, iM_leT, iM_ltT, iM_add, iM_add0, natLeF, natLeT, natLtF, natLtT, natEqF, natEqT, if_true, if_false, ite_true, ite_false, false_or, or_false, or_self, Option.bind_some, ↓reduceIte])
    (fun n' v hv => by
      show f_M_decode_122 _ _ _ _ _ _ _ _ (n' + 1) _ _ = f_M_decode_122 _ _ _ _ _ _ _ _ n' _ _
      rw [f_M_decode_122]
      simp (disch := omega) only [n0, n1, n2, n3, n4, n5, n6, n7, n8, n10, n16, n40, n128, n255, n256, n1024, n2000, n2048, nJ_add, nJ_mul, nJ_sub, nJ_leT, nJ_leF, nJ_ltT, nJ_ltF, nJ_eqT, nJ_eqF, nJ_clamp, nJ_div, nM, iM_eqF, iM_eqF2, iM_leF, iM_ltF, iM_leT, iM_ltT, iM_add, iM_add0, natLeF, natLeT, natLtF, natLtT, natEqF, natEqT, if_true, if_false, ite_true, ite_false, false_or, or_false, or_self, Option.bind_some, ↓reduceIte]
      rw [wrS])
    FU 0 (Nat.zero_le _) (fu (by omega))
  have key : f_M_decode_122 p1 p2 p3 p4 (nI s) nn f on FU 0 (wr g f 0) = _ := key
  rw [wr0] at key
  exact key
theorem l_M_grey {s nn : Nat} {f : Nat → Int32} {p1 p2 : Int32} (hs : s ≤ 64) (hnn : s * s ≤ nn) : f_M_decode_65 p1 p2 (nI s) nn FU 0 f = some (nI (s * s), wr f (fun _ => 128) (s * s)) := by
  have hs2 := sq64 hs
  have key := lp_up (L := fun n' (a : Nat → Int32) v => f_M_decode_65 p1 p2 (nI s) nn n' (nI v) a) (st := fun v => wr f (fun _ => 128) v) (b := s * s) (fin := (nI (s * s), wr f (fun _ => 128) (s * s)))
    (fun n' => by
      show f_M_decode_65 _ _ _ _ (n' + 1) _ _ = _
      rw [f_M_decode_65]
      simp (disch := omega) only [n0, n1, n2, n3, n4, n5, n6, n7, n8, n10, n16, n40, n128, n255, n256, n1024, n2000, n2048, nJ_add, nJ_mul, nJ_sub, nJ_leT, nJ_leF, nJ_ltT, nJ_ltF, nJ_eqT, nJ_eqF, nJ_clamp, nJ_div, nM, iM_eqF, iM_eqF2, iM_leF, iM_ltF, iM_leT, iM_ltT, iM_add, iM_add0, natLeF, natLeT, natLtF, natLtT, natEqF, natEqT, if_true, if_false, ite_true, ite_false, false_or, or_false, or_self, Option.bind_some, ↓reduceIte])
    (fun n' v hv => by
      show f_M_decode_65 _ _ _ _ (n' + 1) _ _ = f_M_decode_65 _ _ _ _ n' _ _
      have hw1 := wrS f (fun _ => (128 : Int32)) v
      rw [f_M_decode_65, if_neg (by rw [nJ_mul, nJ_leF hv (by omega)]; exact not_false), if_neg (by rw [n0, nJ_ltF (by omega) (by omega), nJ_clamp (by omega), false_or]; omega), nJ_clamp (by omega), n1, nJ_add, hw1])
    FU 0 (Nat.zero_le _) (fu (by omega))
  have key : f_M_decode_65 p1 p2 (nI s) nn FU 0 (wr f (fun _ => 128) 0) = _ := key
  rw [wr0] at key
  exact key
theorem l_M_decode_ok {R sc kn nn on hn : Nat} {K f ol HA : Nat → Int32} {cd dd : Int32} (hw : w ≤ 16) (hsc : sc < 2) (hm : m = sc + 1) (hR1 : 1 ≤ R) (hR : R ≤ 40) (hF : okF w F c) (hr : kRep 0 K F c) (hc0 : c ≠ 0) (hc : c ≤ 256) (hkn : kn = 4096) (hnn : 2 * (w * m) * (2 * (w * m)) ≤ nn) (hon : 2 * (w * m) * (2 * (w * m)) ≤ on) (hHn : w * m * (w * m) ≤ hn) :
    ∃ r, f_M_decode (nI R) (nI sc) cd (nI (2 * w)) (nI c) dd kn K nn f on ol hn HA = some r ∧ r.1 = nI (dec w m F c R).2 ∧ r.2.1 = 0 ∧ r.2.2.1 = nI (2 * (w * m)) ∧ ∀ j, j < 2 * (w * m) * (2 * (w * m)) → r.2.2.2.1 j = nI ((dec w m F c R).1 j) := by
  have hwm := wm_sq hw (show m ≤ 2 by omega)
  have hm0 : 0 < m := by omega
  have hp2 : nI sc + 1 = nI m := by rw [n1, nJ_add, hm]
  have key := lp_inv (L := fun n' (a : Int32 × (Nat → Int32) × (Nat → Int32) × (Nat → Int32)) v => f_M_decode_98 (nI R) (nI sc) (nI (2 * w)) (nI c) (nI (2 * (w * m))) kn K nn on hn n' a.1 (nI v) a.2.1 a.2.2.1 a.2.2.2)
    (I := fun v a => a.1 = nI (dec w m F c v).2 ∧ ∀ j, j < 2 * (w * m) * (2 * (w * m)) → a.2.1 j = nI ((dec w m F c v).1 j))
    (F := fun r => r.1 = nI (dec w m F c R).2 ∧ ∀ j, j < 2 * (w * m) * (2 * (w * m)) → r.2.2.1 j = nI ((dec w m F c R).1 j)) (b := R)
    (fun n' a ha => by
      refine ⟨(a.1, nI R, a.2.1, a.2.2.1, a.2.2.2), ?_, ha⟩
      show f_M_decode_98 _ _ _ _ _ _ _ _ _ _ (n' + 1) _ _ _ _ _ = _
      rw [f_M_decode_98, if_pos (by rw [nJ_leT (Nat.le_refl _) (by omega)]; exact trivial)])
    (fun n' a v hv ha => by
      have hh := l_M_halve (s := 2 * (w * m)) (w := w * m) (m := hn) (n := nn) (f := a.2.1) (g := a.2.2.2) (p := (dec w m F c v).1) (by omega) (by omega) hnn hHn ha.2 (fun k _ => dec_le v k)
      have cp := l_M_copy (s := 2 * (w * m)) (nn := nn) (on := on) (f := a.2.1) (g := a.2.2.1) (p1 := nI R) (p2 := nI sc) (p3 := a.1) (p4 := nI v) (by omega) hnn hon
      obtain ⟨r, e, h1, h2⟩ := l_M_round (O := (dec w m F c v).1) (f := a.2.1) (ol := wr a.2.2.1 a.2.1 (2 * (w * m) * (2 * (w * m)))) (HA := wr a.2.2.2 (fun k => nI (hlf (dec w m F c v).1 (2 * (w * m)) k)) (w * m * (w * m))) (p1 := nI R) (p2 := nI sc) (p4 := nI v) hw hm0 (by omega) hp2 hF hr hc hkn hnn hon hHn (fun k hk => wr_lt hk) (fun j hj => by rw [wr_lt hj]; exact ha.2 j hj) ha.2 (dec_le v)
      refine ⟨(r.1, r.2.2, wr a.2.2.1 a.2.1 (2 * (w * m) * (2 * (w * m))), wr a.2.2.2 (fun k => nI (hlf (dec w m F c v).1 (2 * (w * m)) k)) (w * m * (w * m))), ?_, h1, h2⟩
      show f_M_decode_98 _ _ _ _ _ _ _ _ _ _ (n' + 1) _ _ _ _ _ = f_M_decode_98 _ _ _ _ _ _ _ _ _ _ n' _ _ _ _ _
      rw [f_M_decode_98, if_neg (by rw [nJ_leF hv (by omega)]; exact not_false), hh, Option.bind_some, cp, Option.bind_some]
      dsimp only
      rw [e, Option.bind_some, n1, nJ_add])
    FU 0 (0, wr f (fun _ => 128) (2 * (w * m) * (2 * (w * m))), ol, HA) (Nat.zero_le _) (fu (by omega)) ⟨rfl, fun j hj => by dsimp only; rw [wr_lt hj]; rfl⟩
  obtain ⟨r, e, h1, h2⟩ := key
  have e : f_M_decode_98 (nI R) (nI sc) (nI (2 * w)) (nI c) (nI (2 * (w * m))) kn K nn on hn FU 0 0 (wr f (fun _ => 128) (2 * (w * m) * (2 * (w * m)))) ol HA = some r := e
  have gr := l_M_grey (s := 2 * (w * m)) (nn := nn) (f := f) (p1 := nI R) (p2 := nI sc) (by omega) hnn
  have i1 : f_M_in (nI R).toInt64 1 40 = some 1 := by
    have := l_in (x := nI R) (a := 1) (b := 40) (by omega) (by omega) (by omega) (by omega)
    rw [if_pos (by rw [nJ_toInt (by omega)]; omega)] at this
    exact this
  have i2 : f_M_in (nI sc).toInt64 0 1 = some 1 := by
    have := l_in (x := nI sc) (a := 0) (b := 1) (by omega) (by omega) (by omega) (by omega)
    rw [if_pos (by rw [nJ_toInt (by omega)]; omega)] at this
    exact this
  have e2 : nI (2 * w) * nI m = nI (2 * (w * m)) := by rw [nJ_mul, m_two]
  unfold f_M_decode
  rw [i1, Option.bind_some, if_neg (by decide), i2, Option.bind_some, if_neg (by decide), if_neg (show ¬ nI c = 0 by rw [n0, nJ_eqF hc0 (by omega) (by omega)]; exact not_false)]
  unfold f_M_decode_J39
  rw [if_pos (by decide), hp2, e2, gr, Option.bind_some]
  dsimp only
  rw [e, Option.bind_some]
  exact ⟨_, rfl, h1, rfl, rfl, h2⟩
/-- arguments that a decoding refuses -/
def decBad (u v : Int32) : Prop := ¬ ((1 ≤ u.toInt ∧ u.toInt ≤ 40) ∧ (0 ≤ v.toInt ∧ v.toInt ≤ 1))
theorem l_F_decode_bad {kn nn hn : Nat} {K f HA : Nat → Int32} {S nm ns hm hs a1 a2 a3 a4 a5 kc u v : Int32} (h : decBad u v) : f_F_decode u v S nm ns nn f hm hs hn HA a1 a2 a3 a4 a5 kc kn K = some (.inl 2) := by
  unfold decBad at h
  unfold f_F_decode
  have t1 : (1 : Int32).toInt = 1 := rfl
  have t40 : (40 : Int32).toInt = 40 := rfl
  have t0 : (0 : Int32).toInt = 0 := rfl
  have j1 : u < 1 ↔ u.toInt < 1 := by rw [Int32.lt_iff_toInt_lt, t1]
  have j2 : u ≤ 40 ↔ u.toInt ≤ 40 := by rw [Int32.le_iff_toInt_le, t40]
  have j3 : v < 0 ↔ v.toInt < 0 := by rw [Int32.lt_iff_toInt_lt, t0]
  have j4 : v ≤ 1 ↔ v.toInt ≤ 1 := by rw [Int32.le_iff_toInt_le, t1]
  by_cases c1 : u < 1
  · rw [if_pos c1]
  · rw [if_neg c1]
    by_cases c2 : u ≤ 40
    · rw [if_pos c2]
      by_cases c3 : v < 0
      · rw [if_pos c3]
      · rw [if_neg c3, if_neg (fun c4 => by rw [j4] at c4; rw [j3] at c3; rw [j2] at c2; rw [j1] at c1; omega)]
    · rw [if_neg c2]
theorem l_M_decode_bad {kn nn on hn : Nat} {K f ol HA : Nat → Int32} {cd S my dd u v : Int32} (h : decBad u v) : f_M_decode u v cd S my dd kn K nn f on ol hn HA = some (0, 1, dd, f, ol, HA) := by
  unfold decBad at h
  have J : f_M_decode_J39 u v cd S my dd kn K nn f on ol hn HA 1 = some (0, 1, dd, f, ol, HA) := by
    unfold f_M_decode_J39
    rw [if_neg (by decide)]
  unfold f_M_decode
  have i1 := l_in (x := u) (a := 1) (b := 40) (by omega) (by omega) (by omega) (by omega)
  have i1 : f_M_in u.toInt64 1 40 = _ := i1
  have i2 := l_in (x := v) (a := 0) (b := 1) (by omega) (by omega) (by omega) (by omega)
  have i2 : f_M_in v.toInt64 0 1 = _ := i2
  rw [i1, Option.bind_some, i2]
  by_cases c1 : 1 ≤ u.toInt ∧ u.toInt ≤ 40
  · rw [if_pos c1, if_neg (by decide), Option.bind_some, if_neg (show ¬ (0 ≤ v.toInt ∧ v.toInt ≤ 1) from fun c2 => h ⟨c1, c2⟩), if_pos rfl]
    exact J
  · rw [if_neg c1, if_pos rfl]
    exact J
theorem decOk {u v : Int32} (h : ¬ decBad u v) : ∃ R sc : Nat, 1 ≤ R ∧ R ≤ 40 ∧ sc < 2 ∧ u = nI R ∧ v = nI sc := by
  unfold decBad at h
  have h : (1 ≤ u.toInt ∧ u.toInt ≤ 40) ∧ (0 ≤ v.toInt ∧ v.toInt ≤ 1) := Classical.not_not.mp h
  refine ⟨u.toInt.toNat, v.toInt.toNat, by omega, by omega, by omega, ?_, ?_⟩
  · apply Int32.toInt_inj.mp; rw [nJ_toInt (by omega)]; omega
  · apply Int32.toInt_inj.mp; rw [nJ_toInt (by omega)]; omega
theorem l_F_decode_none {kn nn hn R sc : Nat} {K f HA : Nat → Int32} {S nm ns hm hs a1 a2 a3 a4 a5 : Int32} (hR1 : 1 ≤ R) (hR : R ≤ 40) (hsc : sc < 2) : f_F_decode (nI R) (nI sc) S nm ns nn f hm hs hn HA a1 a2 a3 a4 a5 (nI 0) kn K = some (.inl 3) := by
  unfold f_F_decode
  rw [if_neg (show ¬ nI R < 1 by rw [n1, nJ_ltF (by omega) (by omega)]; exact not_false), if_pos (show nI R ≤ 40 by rw [n40, nJ_leT (by omega) (by omega)]; exact trivial), if_neg (show ¬ nI sc < 0 by rw [n0, nJ_ltF (by omega) (by omega)]; exact not_false), if_pos (show nI sc ≤ 1 by rw [n1, nJ_leT (by omega) (by omega)]; exact trivial), if_pos (show nI 0 = 0 from rfl)]
theorem l_M_decode_none {kn nn on hn R sc : Nat} {K f ol HA : Nat → Int32} {cd S dd : Int32} (hR1 : 1 ≤ R) (hR : R ≤ 40) (hsc : sc < 2) : f_M_decode (nI R) (nI sc) cd S (nI 0) dd kn K nn f on ol hn HA = some (0, 2, dd, f, ol, HA) := by
  have i1 : f_M_in (nI R).toInt64 1 40 = some 1 := by
    have := l_in (x := nI R) (a := 1) (b := 40) (by omega) (by omega) (by omega) (by omega)
    rw [if_pos (by rw [nJ_toInt (by omega)]; omega)] at this
    exact this
  have i2 : f_M_in (nI sc).toInt64 0 1 = some 1 := by
    have := l_in (x := nI sc) (a := 0) (b := 1) (by omega) (by omega) (by omega) (by omega)
    rw [if_pos (by rw [nJ_toInt (by omega)]; omega)] at this
    exact this
  unfold f_M_decode
  rw [i1, Option.bind_some, if_neg (by decide), i2, Option.bind_some, if_neg (by decide), if_pos (show nI 0 = 0 from rfl)]
  unfold f_M_decode_J39
  rw [if_neg (by decide)]
end
