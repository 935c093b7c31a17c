/-! reading a block -/
/-- a fit read from place t: why not, or the fit and the place behind it -/
def rFit (g : Nat → Nat) (T w h t : Nat) : Nat ⊕ (Fit5 × Nat) :=
  if t + db (dac w h * dac w h) ≤ T then
    (if tk g t (db (dac w h * dac w h)) < dac w h * dac w h then
      (if t + db (dac w h * dac w h) + 3 ≤ T then
        (if t + db (dac w h * dac w h) + 3 + 4 ≤ T then
          (if tk g (t + db (dac w h * dac w h) + 3) 4 ≤ 14 then
            (if t + db (dac w h * dac w h) + 3 + 4 + 10 ≤ T then .inr ((tk g t (db (dac w h * dac w h)), tk g (t + db (dac w h * dac w h)) 3, (tk g (t + db (dac w h * dac w h) + 3) 4 : Int) - 7, (tk g (t + db (dac w h * dac w h) + 3 + 4) 10 : Int) - 256, -1), t + db (dac w h * dac w h) + 3 + 4 + 10)
            else .inl 3)
          else .inl 2)
        else .inl 3)
      else .inl 3)
    else .inl 1)
  else .inl 3
theorem m1_iM : ((-1) : Int32) = iM := rfl
theorem ib0 {bn : Nat} (h : 4 ≤ bn) : ¬ ((0 : Int32) < 0 ∨ bn ≤ (0 : Int32).toNatClampNeg) := by
  have z : (0 : Int32).toNatClampNeg = 0 := rfl
  rw [z]; rintro (h | h); exact absurd h (by decide); omega
theorem ib1 {bn : Nat} (h : 4 ≤ bn) : ¬ ((1 : Int32) < 0 ∨ bn ≤ (1 : Int32).toNatClampNeg) := by
  have z : (1 : Int32).toNatClampNeg = 1 := rfl
  rw [z]; rintro (h | h); exact absurd h (by decide); omega
theorem ib2 {bn : Nat} (h : 4 ≤ bn) : ¬ ((2 : Int32) < 0 ∨ bn ≤ (2 : Int32).toNatClampNeg) := by
  have z : (2 : Int32).toNatClampNeg = 2 := rfl
  rw [z]; rintro (h | h); exact absurd h (by decide); omega
theorem ib3 {bn : Nat} (h : 4 ≤ bn) : ¬ ((3 : Int32) < 0 ∨ bn ≤ (3 : Int32).toNatClampNeg) := by
  have z : (3 : Int32).toNatClampNeg = 3 := rfl
  rw [z]; rintro (h | h); exact absurd h (by decide); omega
section
variable {g : Nat → Nat} {f : Nat → Int32} {N n w h : Nat}
def fitC (s : Nat ⊕ (Fit5 × Nat)) (r : Int32 × Int32 × Int32 × Int32 × Int32 × Int32 × Int32) : Prop := Sum.elim (fun e => r.1 = nI e ∧ e ≤ 4) (fun q => r = (iM, nI q.1.1, nI q.1.2.1, iI q.1.2.2.1, iI q.1.2.2.2.1, iI q.1.2.2.2.2, nI q.2)) s
theorem l_F_readFit {t : Nat} {a1 a2 a3 a4 a5 : Int32} (hw : w ≤ 16) (h1 : 0 < h) (h2 : 2 * h ≤ w) (ht : t ≤ 8 * N) (hN : N ≤ n) (hn : n ≤ 2000) (hr : fRep f g N) :
    ∃ r, f_F_readFit (nI (2 * h)) (nI (2 * w)) a1 a2 a3 a4 a5 (nI (8 * N)) (nI t) n f = some r ∧ fitC (rFit g (8 * N) w h t) r := by
  have ha := dac_le (h := h) hw
  obtain ⟨d1, _, _⟩ := db_spec (dac w h * dac w h) (by omega)
  have l1 := l_F_domainBits hw h1 h2
  have l2 := l_F_domains (w := w) (h := h) (by omega) h1 h2
  unfold f_F_readFit rFit
  rw [l1, Option.bind_some]
  generalize db (dac w h * dac w h) = D at d1 ⊢
  rw [l2]
  generalize dac w h * dac w h = A at ha ⊢
  by_cases c1 : t + D ≤ 8 * N
  · have b1 := tk_lt10 g t (show D ≤ 10 by omega)
    rw [if_pos c1, l_B_take_T (by omega) c1 hN hn hr, Option.bind_some, m1_iM, if_neg (by dsimp only; rw [iM_eqF (by omega)]; exact not_false), Option.bind_some]
    dsimp only
    by_cases c2 : tk g t D < A
    · rw [if_pos c2, if_pos (by rw [nJ_ltT c2 (by omega)]; exact trivial), n3]
      by_cases c3 : t + D + 3 ≤ 8 * N
      · have b2 := tk_lt10 g (t + D) (show 3 ≤ 10 by omega)
        rw [if_pos c3, l_B_take_T (by omega) c3 hN hn hr, Option.bind_some, if_neg (by dsimp only; rw [iM_eqF (by omega)]; exact not_false), n4]
        dsimp only
        by_cases c4 : t + D + 3 + 4 ≤ 8 * N
        · have b3 := tk_lt10 g (t + D + 3) (show 4 ≤ 10 by omega)
          have e7 : nI (tk g (t + D + 3) 4) - 7 = iI ((tk g (t + D + 3) 4 : Int) - 7) := by rw [nJ_iI, show (7 : Int32) = iI 7 from rfl, iI_sub]
          rw [if_pos c4, l_B_take_T (by omega) c4 hN hn hr, Option.bind_some, if_neg (by dsimp only; rw [iM_eqF (by omega)]; exact not_false)]
          dsimp only
          rw [e7, show (7 : Int32) = iI 7 from rfl]
          by_cases c5 : tk g (t + D + 3) 4 ≤ 14
          · rw [if_pos c5, if_pos (by rw [iI_leT (by omega) (by omega) (by omega)]; exact trivial), n10]
            by_cases c6 : t + D + 3 + 4 + 10 ≤ 8 * N
            · have b4 := tk_lt10 g (t + D + 3 + 4) (show 10 ≤ 10 by omega)
              have e8 : nI (tk g (t + D + 3 + 4) 10) - 256 = iI ((tk g (t + D + 3 + 4) 10 : Int) - 256) := by rw [nJ_iI, show (256 : Int32) = iI 256 from rfl, iI_sub]
              rw [if_pos c6, l_B_take_T (by omega) c6 hN hn hr, Option.bind_some, if_neg (by dsimp only; rw [iM_eqF (by omega)]; exact not_false)]
              dsimp only
              rw [e8]
              exact ⟨_, rfl, rfl⟩
            · rw [if_neg c6, l_B_take_F (by omega) c6 c4 hN hn, Option.bind_some, if_pos rfl]
              exact ⟨_, rfl, rfl, by omega⟩
          · rw [if_neg c5, if_neg (by rw [iI_leF (by omega) (by omega) (by omega)]; exact not_false)]
            exact ⟨_, rfl, rfl, by omega⟩
        · rw [if_neg c4, l_B_take_F (by omega) c4 c3 hN hn, Option.bind_some, if_pos rfl]
          exact ⟨_, rfl, rfl, by omega⟩
      · rw [if_neg c3, l_B_take_F (by omega) c3 c1 hN hn, Option.bind_some, if_pos rfl]
        exact ⟨_, rfl, rfl, by omega⟩
    · rw [if_neg c2, if_neg (by rw [nJ_ltF (by omega) (by omega)]; exact not_false)]
      exact ⟨_, rfl, rfl, by omega⟩
  · rw [if_neg c1, l_B_take_F (by omega) c1 ht hN hn, Option.bind_some, m1_iM, if_pos rfl]
    exact ⟨_, rfl, rfl, by omega⟩
/-! the reference -/
variable {kn bn : Nat} {p1 p2 p3 fo wy : Int32} {K bf : Nat → Int32}
theorem i0M : ¬ (0 : Int32) ≤ iM := by decide
theorem i0e {e : Nat} (he : e ≤ 4) : (0 : Int32) ≤ nI e := by rw [n0, nJ_leT (by omega) (by omega)]; exact trivial
theorem rb106_X {e : Nat} {ra : Int32} (he : e ≤ 4) (hb : 4 ≤ bn) : ∃ bf', f_M_readBlock_J106 p1 p2 p3 fo (nI N) ra wy kn K n f bn bf (nI e) = some (fo, ra, nI e, K, bf') := by
  unfold f_M_readBlock_J106
  rw [n10, l_M_take_X he (by omega), Option.bind_some, if_neg (ib3 hb), if_pos (i0e he)]
  exact ⟨_, rfl⟩
theorem rb51_X {e : Nat} {ra : Int32} (he : e ≤ 4) (hb : 4 ≤ bn) : ∃ bf', f_M_readBlock_J51 p1 p2 p3 fo (nI N) ra wy kn K n f bn bf (nI e) = some (fo, ra, nI e, K, bf') := by
  unfold f_M_readBlock_J51
  have t3 := l_M_take_X (N := N) (n := n) (f := f) (t := ra) he (show 3 ≤ 10 by omega)
  have t4 := l_M_take_X (N := N) (n := n) (f := f) (t := ra) he (show 4 ≤ 10 by omega)
  have t3 : f_M_take 3 (nI N) ra (nI e) n f = _ := t3
  have t4 : f_M_take 4 (nI N) ra (nI e) n f = _ := t4
  rw [t3, Option.bind_some, if_neg (ib1 hb)]
  dsimp only
  rw [t4, Option.bind_some, if_neg (ib2 hb), if_pos (i0e he)]
  exact rb106_X he hb
theorem rb_X {e : Nat} {ra : Int32} (hw : w ≤ 16) (h1 : 0 < h) (h2 : 2 * h ≤ w) (he : e ≤ 4) (hb : 4 ≤ bn) : ∃ bf', f_M_readBlock p1 p2 (nI (2 * h)) (nI (2 * w)) fo (nI N) ra (nI e) kn K n f bn bf = some (fo, ra, nI e, K, bf') := by
  have ha := dac_le (h := h) hw
  obtain ⟨d1, _, _⟩ := db_spec (dac w h * dac w h) (by omega)
  unfold f_M_readBlock
  rw [l_M_bitsFor hw h1 h2, Option.bind_some, l_M_take_X he (by omega), Option.bind_some, if_neg (ib0 hb), if_pos (i0e he)]
  exact rb51_X he hb
/-- what the reference's reading of a block gives -/
def fitM (c x y h : Nat) (F : Nat → Int) (K : Nat → Int32) (s : Nat ⊕ (Fit5 × Nat)) (r : Int32 × Int32 × Int32 × (Nat → Int32) × (Nat → Int32)) : Prop :=
  Sum.elim (fun e => r.2.2.1 = nI e ∧ e ≤ 4 ∧ ∀ k, k < 2048 → r.2.2.2.1 k = K k) (fun q => r.1 = nI (c + 1) ∧ r.2.1 = nI q.2 ∧ r.2.2.1 = iM ∧ kRep 2048 r.2.2.2.1 (addF F c x y (2 * h) q.1) (c + 1) ∧ ∀ k, k < 2048 → r.2.2.2.1 k = K k) s
theorem fitM_X {c x y e : Nat} {F : Nat → Int} {o : Option (Int32 × Int32 × Int32 × (Nat → Int32) × (Nat → Int32))} {ra fo' : Int32} (he : e ≤ 4) (hx : ∃ bf', o = some (fo', ra, nI e, K, bf')) : ∃ r, o = some r ∧ fitM c x y h F K (.inl e) r := by
  obtain ⟨bf', e1⟩ := hx
  exact ⟨_, e1, rfl, he, fun _ _ => rfl⟩
theorem l_M_readBlock {t c x y : Nat} {F : Nat → Int} (hw : w ≤ 16) (h1 : 0 < h) (h2 : 2 * h ≤ w) (ht : t ≤ 8 * N) (hN : N ≤ n) (hn : n ≤ 2000) (hr : fRep f g N) (hc : c < 256) (hkn : kn = 4096) (hb : 4 ≤ bn) (hk : kRep 2048 K F c) :
    ∃ r, f_M_readBlock (nI x) (nI y) (nI (2 * h)) (nI (2 * w)) (nI c) (nI N) (nI t) iM kn K n f bn bf = some r ∧ fitM c x y h F K (rFit g (8 * N) w h t) r := by
  have ha := dac_le (h := h) hw
  obtain ⟨d1, _, _⟩ := db_spec (dac w h * dac w h) (by omega)
  have l1 := l_M_bitsFor hw h1 h2
  have l2 := l_M_domains (w := w) (h := h) (by omega) h1 h2
  unfold f_M_readBlock rFit
  rw [l1, Option.bind_some, l2]
  generalize db (dac w h * dac w h) = D at d1 ⊢
  simp only [Option.bind_some]
  rw [nJ_mul]
  generalize dac w h * dac w h = A at ha ⊢
  have z0 : (0 : Int32).toNatClampNeg = 0 := rfl
  have z1 : (1 : Int32).toNatClampNeg = 1 := rfl
  have z2 : (2 : Int32).toNatClampNeg = 2 := rfl
  have z3 : (3 : Int32).toNatClampNeg = 3 := rfl
  by_cases c1 : t + D ≤ 8 * N
  · have b1 := tk_lt10 g t (show D ≤ 10 by omega)
    rw [if_pos c1, l_M_take_T (by omega) c1 hN hn hr, Option.bind_some, if_neg (ib0 hb), if_neg i0M, if_neg (ib0 hb)]
    dsimp only
    rw [z0, upd_eq]
    by_cases c2 : tk g t D < A
    · rw [if_pos c2, if_pos (by rw [nJ_ltT c2 (by omega)]; exact trivial)]
      unfold f_M_readBlock_J51
      rw [n3, n4]
      by_cases c3 : t + D + 3 ≤ 8 * N
      · have b2 := tk_lt10 g (t + D) (show 3 ≤ 10 by omega)
        rw [if_pos c3, l_M_take_T (by omega) c3 hN hn hr, Option.bind_some, if_neg (ib1 hb)]
        dsimp only
        by_cases c4 : t + D + 3 + 4 ≤ 8 * N
        · have b3 := tk_lt10 g (t + D + 3) (show 4 ≤ 10 by omega)
          have e7 : nI (tk g (t + D + 3) 4) - 7 = iI ((tk g (t + D + 3) 4 : Int) - 7) := by rw [nJ_iI, show (7 : Int32) = iI 7 from rfl, iI_sub]
          rw [if_pos c4, l_M_take_T (by omega) c4 hN hn hr, Option.bind_some, if_neg (ib2 hb), if_neg i0M, if_neg (ib2 hb)]
          dsimp only
          rw [z2, upd_eq, e7, show (7 : Int32) = iI 7 from rfl]
          by_cases c5 : tk g (t + D + 3) 4 ≤ 14
          · rw [if_pos c5, if_pos (by rw [iI_leT (by omega) (by omega) (by omega)]; exact trivial)]
            unfold f_M_readBlock_J106
            rw [n10]
            by_cases c6 : t + D + 3 + 4 + 10 ≤ 8 * N
            · have b4 := tk_lt10 g (t + D + 3 + 4) (show 10 ≤ 10 by omega)
              have e8 : nI (tk g (t + D + 3 + 4) 10) - 256 = iI ((tk g (t + D + 3 + 4) 10 : Int) - 256) := by rw [nJ_iI, show (256 : Int32) = iI 256 from rfl, iI_sub]
              rw [if_pos c6, l_M_take_T (by omega) c6 hN hn hr, Option.bind_some, if_neg (ib3 hb), if_neg i0M]
              dsimp only
              rw [e8, z1, z3]
              obtain ⟨K', k1, k2, k3⟩ := l_M_note (x := x) (y := y) (s := 2 * h) (c := c) (n := kn) (bn := bn) (f := K) (F := F) (B := (tk g t D, tk g (t + D) 3, (tk g (t + D + 3) 4 : Int) - 7, (tk g (t + D + 3 + 4) 10 : Int) - 256, -1)) (bf := upd (upd (upd (upd bf 0 (nI (tk g t D))) 1 (nI (tk g (t + D) 3))) 2 (iI ((tk g (t + D + 3) 4 : Int) - 7))) 3 (iI ((tk g (t + D + 3 + 4) 10 : Int) - 256))) hc hkn hb hk
                ⟨by simp (disch := omega) only [updF, updT], by simp (disch := omega) only [updF, updT], by simp (disch := omega) only [updF, updT], by simp (disch := omega) only [updF, updT]⟩
              have k1 : f_M_note (nI x) (nI y) (nI (2 * h)) (-1) (nI c) kn K bn _ = _ := k1
              rw [k1]
              exact ⟨_, rfl, rfl, rfl, rfl, k2, k3⟩
            · rw [if_neg c6, l_M_take_F (by omega) c6 c4 hN hn hr, Option.bind_some, if_neg (ib3 hb), if_pos (show (0 : Int32) ≤ 3 by decide)]
              exact ⟨_, rfl, rfl, by omega, fun _ _ => rfl⟩
          · rw [if_neg c5, if_neg (by rw [iI_leF (by omega) (by omega) (by omega)]; exact not_false)]
            exact fitM_X (e := 2) (by omega) (rb106_X (e := 2) (by omega) hb)
        · rw [if_neg c4, l_M_take_F (by omega) c4 c3 hN hn hr, Option.bind_some, if_neg (ib2 hb), if_pos (show (0 : Int32) ≤ 3 by decide)]
          exact fitM_X (e := 3) (by omega) (rb106_X (e := 3) (by omega) hb)
      · have t4 := l_M_take_X (N := N) (n := n) (f := f) (t := nI (8 * N)) (show 3 ≤ 4 by omega) (show 4 ≤ 10 by omega)
        have t4 : f_M_take (nI 4) (nI N) (nI (8 * N)) 3 n f = _ := t4
        rw [if_neg c3, l_M_take_F (by omega) c3 c1 hN hn hr, Option.bind_some, if_neg (ib1 hb)]
        dsimp only
        rw [t4, Option.bind_some, if_neg (ib2 hb), if_pos (i0e (by omega))]
        exact fitM_X (e := 3) (by omega) (rb106_X (e := 3) (by omega) hb)
    · rw [if_neg c2, if_neg (by rw [nJ_ltF (by omega) (by omega)]; exact not_false)]
      exact fitM_X (e := 1) (by omega) (rb51_X (e := 1) (by omega) hb)
  · rw [if_neg c1, l_M_take_F (by omega) c1 ht hN hn hr, Option.bind_some, if_neg (ib0 hb), if_pos (show (0 : Int32) ≤ 3 by decide)]
    exact fitM_X (e := 3) (by omega) (rb51_X (e := 3) (by omega) hb)
end
