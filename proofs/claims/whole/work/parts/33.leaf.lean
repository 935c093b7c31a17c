/-! what is written down of one block -/
/-- bits for a number below a -/
def db (a : Nat) : Nat := if a ≤ 1 then 0 else if a ≤ 2 then 1 else if a ≤ 4 then 2 else if a ≤ 8 then 3 else if a ≤ 16 then 4 else if a ≤ 32 then 5 else if a ≤ 64 then 6 else if a ≤ 128 then 7 else 8
theorem db_spec : ∀ a, a < 257 → db a ≤ 8 ∧ a ≤ 2 ^ db a ∧ ∀ v, v < db a → 2 ^ v < a := by decide +kernel
theorem dac_le {w h : Nat} (hw : w ≤ 16) : dac w h * dac w h ≤ 225 := by
  have h1 : w / h ≤ w := Nat.div_le_self _ _
  have h2 : dac w h ≤ 15 := by unfold dac; omega
  exact Nat.mul_le_mul h2 h2
theorem pow_db {v : Nat} (h : v ≤ 8) : 2 ^ v ≤ 256 := Nat.pow_le_pow_right (by omega) h
section
variable {w h : Nat}
theorem l_F_domainBits (hw : w ≤ 16) (h1 : 0 < h) (h2 : 2 * h ≤ w) : f_F_domainBits (nI (2 * h)) (nI (2 * w)) = some (nI (db (dac w h * dac w h))) := by
  have ha := dac_le (h := h) hw
  obtain ⟨d1, d2, d3⟩ := db_spec (dac w h * dac w h) (by omega)
  unfold f_F_domainBits
  rw [l_F_domains (by omega) h1 h2]
  simp only [Option.bind_some]
  generalize dac w h * dac w h = a at ha d1 d2 d3 ⊢
  have key := lp_up (L := fun n' (_ : Unit) v => f_F_domainBits_11 (nI (2 * h)) (nI a) n' (nI v)) (st := fun _ => ()) (b := db a) (fin := nI (db a))
    (fun n' => by
      show f_F_domainBits_11 _ _ (n' + 1) _ = _
      rw [f_F_domainBits_11]
      by_cases c : db a = 8
      · rw [c]
        simp (disch := omega) only [n0, n1, n2, n3, n4, n5, n6, n7, n8, n10, n16, n40, n128, n255, n256, n1024, n2000, n2048, nJ_add, nJ_mul, nJ_sub, nJ_leT, nJ_leF, nJ_ltT, nJ_ltF, nJ_eqT, nJ_eqF, nJ_clamp, nJ_div, nM, iM_eqF, iM_eqF2, iM_leF, iM_ltF, iM_leT, iM_ltT, iM_add, iM_add0, natLeF, natLeT, natLtF, natLtT, natEqF, natEqT, if_true, if_false, ite_true, ite_false, false_or, or_false, or_self, Option.bind_some, ↓reduceIte]
      · have sb := shl_bits (db a) (by omega) 1 (by omega)
        rw [Nat.one_mul] at sb
        have b2 := pow_db d1
        rw [n1, sb]
        simp (disch := omega) only [n0, n1, n2, n3, n4, n5, n6, n7, n8, n10, n16, n40, n128, n255, n256, n1024, n2000, n2048, nJ_add, nJ_mul, nJ_sub, nJ_leT, nJ_leF, nJ_ltT, nJ_ltF, nJ_eqT, nJ_eqF, nJ_clamp, nJ_div, nM, iM_eqF, iM_eqF2, iM_leF, iM_ltF, iM_leT, iM_ltT, iM_add, iM_add0, natLeF, natLeT, natLtF, natLtT, natEqF, natEqT, if_true, if_false, ite_true, ite_false, false_or, or_false, or_self, Option.bind_some, ↓reduceIte])
    (fun n' v hv => by
      show f_F_domainBits_11 _ _ (n' + 1) _ = f_F_domainBits_11 _ _ n' _
      rw [f_F_domainBits_11]
      have b1 := d3 v hv
      have sb := shl_bits v (by omega) 1 (by omega)
      rw [Nat.one_mul] at sb
      rw [n1, sb]
      simp (disch := omega) only [n0, n1, n2, n3, n4, n5, n6, n7, n8, n10, n16, n40, n128, n255, n256, n1024, n2000, n2048, nJ_add, nJ_mul, nJ_sub, nJ_leT, nJ_leF, nJ_ltT, nJ_ltF, nJ_eqT, nJ_eqF, nJ_clamp, nJ_div, nM, iM_eqF, iM_eqF2, iM_leF, iM_ltF, iM_leT, iM_ltT, iM_add, iM_add0, natLeF, natLeT, natLtF, natLtT, natEqF, natEqT, if_true, if_false, ite_true, ite_false, false_or, or_false, or_self, Option.bind_some, ↓reduceIte])
    FU 0 (Nat.zero_le _) (fu (by omega))
  have key : f_F_domainBits_11 (nI (2 * h)) (nI a) FU 0 = _ := key
  rw [key]
  rfl
theorem l_M_bitsFor (hw : w ≤ 16) (h1 : 0 < h) (h2 : 2 * h ≤ w) : f_M_bitsFor (nI (2 * h)) (nI (2 * w)) = some (nI (db (dac w h * dac w h))) := by
  have ha := dac_le (h := h) hw
  obtain ⟨d1, d2, d3⟩ := db_spec (dac w h * dac w h) (by omega)
  unfold f_M_bitsFor
  rw [l_M_domains (by omega) h1 h2]
  simp only [Option.bind_some]
  rw [nJ_mul]
  generalize dac w h * dac w h = a at ha d1 d2 d3 ⊢
  have key := lp_up (L := fun n' (x : Nat) v => f_M_bitsFor_17 (nI (2 * h)) (nI a) n' (nI v) (nI x)) (st := fun v => 2 ^ v) (b := db a) (fin := (nI (db a), nI (2 ^ db a)))
    (fun n' => by
      show f_M_bitsFor_17 _ _ (n' + 1) _ _ = _
      rw [f_M_bitsFor_17]
      have b2 := pow_db d1
      simp (disch := omega) only [n0, n1, n2, n3, n4, n5, n6, n7, n8, n10, n16, n40, n128, n255, n256, n1024, n2000, n2048, nJ_add, nJ_mul, nJ_sub, nJ_leT, nJ_leF, nJ_ltT, nJ_ltF, nJ_eqT, nJ_eqF, nJ_clamp, nJ_div, nM, iM_eqF, iM_eqF2, iM_leF, iM_ltF, iM_leT, iM_ltT, iM_add, iM_add0, natLeF, natLeT, natLtF, natLtT, natEqF, natEqT, if_true, if_false, ite_true, ite_false, false_or, or_false, or_self, Option.bind_some, ↓reduceIte])
    (fun n' v hv => by
      show f_M_bitsFor_17 _ _ (n' + 1) _ _ = f_M_bitsFor_17 _ _ n' _ _
      rw [f_M_bitsFor_17]
      have b1 := d3 v hv
      have e : 2 ^ (v + 1) = 2 * 2 ^ v := by rw [Nat.pow_succ, Nat.mul_comm]
      rw [e]
      simp (disch := omega) only [n0, n1, n2, n3, n4, n5, n6, n7, n8, n10, n16, n40, n128, n255, n256, n1024, n2000, n2048, nJ_add, nJ_mul, nJ_sub, nJ_leT, nJ_leF, nJ_ltT, nJ_ltF, nJ_eqT, nJ_eqF, nJ_clamp, nJ_div, nM, iM_eqF, iM_eqF2, iM_leF, iM_ltF, iM_leT, iM_ltT, iM_add, iM_add0, natLeF, natLeT, natLtF, natLtT, natEqF, natEqT, if_true, if_false, ite_true, ite_false, false_or, or_false, or_self, Option.bind_some, ↓reduceIte])
    FU 0 (Nat.zero_le _) (fu (by omega))
  have key : f_M_bitsFor_17 (nI (2 * h)) (nI a) FU 0 1 = _ := key
  rw [key]
  rfl
end
/-- a block's eight facts -/
def fct (x y s : Nat) (B : Fit5) (j : Nat) : Int := if j = 0 then (x : Int) else if j = 1 then (y : Int) else if j = 2 then (s : Int) else if j = 3 then (B.1 : Int) else if j = 4 then (B.2.1 : Int) else if j = 5 then B.2.2.1 else if j = 6 then B.2.2.2.1 else B.2.2.2.2
/-- the facts of one block more -/
def addF (F : Nat → Int) (c x y s : Nat) (B : Fit5) (k : Nat) : Int := if k < 8 * c then F k else fct x y s B (k - 8 * c)
/-- c blocks' facts stand in an array from a place on -/
def kRep (o : Nat) (f : Nat → Int32) (F : Nat → Int) (c : Nat) : Prop := ∀ k, k < 8 * c → f (o + k) = iI (F k)
theorem updT {f : Nat → Int32} {k j : Nat} {x : Int32} (h : j = k) : upd f k x j = x := by subst h; exact upd_eq ..
theorem updF {f : Nat → Int32} {k j : Nat} {x : Int32} (h : j ≠ k) : upd f k x j = f j := upd_ne _ _ _ h
theorem addF_old {F : Nat → Int} {c x y s k : Nat} {B : Fit5} (h : k < 8 * c) : addF F c x y s B k = F k := by unfold addF; rw [if_pos h]
theorem addF_new {F : Nat → Int} {c x y s j : Nat} {B : Fit5} : addF F c x y s B (8 * c + j) = fct x y s B j := by
  unfold addF; rw [if_neg (by omega), show 8 * c + j - 8 * c = j by omega]
theorem kRep_add {o c x y s : Nat} {f f' : Nat → Int32} {F : Nat → Int} {B : Fit5} (h : kRep o f F c) (h1 : ∀ k, k < o + 8 * c → f' k = f k)
    (h2 : f' (o + (8 * c + 0)) = nI x ∧ f' (o + (8 * c + 1)) = nI y ∧ f' (o + (8 * c + 2)) = nI s ∧ f' (o + (8 * c + 3)) = nI B.1 ∧ f' (o + (8 * c + 4)) = nI B.2.1 ∧ f' (o + (8 * c + 5)) = iI B.2.2.1 ∧ f' (o + (8 * c + 6)) = iI B.2.2.2.1 ∧ f' (o + (8 * c + 7)) = iI B.2.2.2.2) : kRep o f' (addF F c x y s B) (c + 1) := by
  intro k hk
  by_cases a : k < 8 * c
  · rw [addF_old a, h1 _ (by omega), h k a]
  · obtain ⟨e0, e1, e2, e3, e4, e5, e6, e7⟩ := h2
    obtain ⟨j, rfl⟩ : ∃ j, k = 8 * c + j := ⟨k - 8 * c, by omega⟩
    rw [addF_new]
    rcases eight (show j < 8 by omega) with rfl | rfl | rfl | rfl | rfl | rfl | rfl | rfl
    · rw [e0]; exact nJ_iI _
    · rw [e1]; exact nJ_iI _
    · rw [e2]; exact nJ_iI _
    · rw [e3]; exact nJ_iI _
    · rw [e4]; exact nJ_iI _
    · rw [e5]; rfl
    · rw [e6]; rfl
    · rw [e7]; rfl
theorem l_K_add {c n x y s : Nat} {f : Nat → Int32} {F : Nat → Int} {B : Fit5} (hc : 8 * c + 7 < n) (hn : n ≤ 2048) (hr : kRep 0 f F c) :
    ∃ f', f_K_add (nI x) (nI y) (nI s) (nI c) n f (nI B.1) (nI B.2.1) (iI B.2.2.1) (iI B.2.2.2.1) (iI B.2.2.2.2) = some (nI (c + 1), f') ∧ kRep 0 f' (addF F c x y s B) (c + 1) := by
  apply Exists.intro
  constructor
  · unfold f_K_add
    simp (disch := omega) only [n0, n1, n2, n3, n4, n5, n6, n7, n8, n10, n16, n40, n128, n255, n256, n1024, n2000, n2048, nJ_add, nJ_mul, nJ_sub, nJ_leT, nJ_leF, nJ_ltT, nJ_ltF, nJ_eqT, nJ_eqF, nJ_clamp, nJ_div, nM, iM_eqF, iM_eqF2, iM_leF, iM_ltF, iM_leT, iM_ltT, iM_add, iM_add0, natLeF, natLeT, natLtF, natLtT, natEqF, natEqT, if_true, if_false, ite_true, ite_false, false_or, or_false, or_self, Option.bind_some, ↓reduceIte]
    rfl
  · refine kRep_add hr (fun k hk => ?_) ?_
    · simp (disch := omega) only [updF]
    · refine ⟨?_, ?_, ?_, ?_, ?_, ?_, ?_, ?_⟩ <;> simp (disch := omega) only [updF, updT]
theorem l_M_note_44 {n at' bn N : Nat} {f bf : Nat → Int32} {p1 p2 p3 p4 : Int32} (hn : at' + 7 < n) (hn2 : n ≤ 4096) (hb : 4 ≤ bn) :
    f_M_note_44 p1 p2 p3 p4 (nI at') n bn bf (N + 1 + 1 + 1 + 1 + 1) 0 f = some (nI 4, upd (upd (upd (upd f (at' + 3) (bf 0)) (at' + 4) (bf 1)) (at' + 5) (bf 2)) (at' + 6) (bf 3)) := by
  rw [f_M_note_44]
  simp (disch := omega) only [n0, n1, n2, n3, n4, n5, n6, n7, n8, n10, n16, n40, n128, n255, n256, n1024, n2000, n2048, nJ_add, nJ_mul, nJ_sub, nJ_leT, nJ_leF, nJ_ltT, nJ_ltF, nJ_eqT, nJ_eqF, nJ_clamp, nJ_div, nM, iM_eqF, iM_eqF2, iM_leF, iM_ltF, iM_leT, iM_ltT, iM_add, iM_add0, natLeF, natLeT, natLtF, natLtT, natEqF, natEqT, if_true, if_false, ite_true, ite_false, false_or, or_false, or_self, Option.bind_some, ↓reduceIte]
  rw [f_M_note_44]
  simp (disch := omega) only [n0, n1, n2, n3, n4, n5, n6, n7, n8, n10, n16, n40, n128, n255, n256, n1024, n2000, n2048, nJ_add, nJ_mul, nJ_sub, nJ_leT, nJ_leF, nJ_ltT, nJ_ltF, nJ_eqT, nJ_eqF, nJ_clamp, nJ_div, nM, iM_eqF, iM_eqF2, iM_leF, iM_ltF, iM_leT, iM_ltT, iM_add, iM_add0, natLeF, natLeT, natLtF, natLtT, natEqF, natEqT, if_true, if_false, ite_true, ite_false, false_or, or_false, or_self, Option.bind_some, ↓reduceIte]
  rw [f_M_note_44]
  simp (disch := omega) only [n0, n1, n2, n3, n4, n5, n6, n7, n8, n10, n16, n40, n128, n255, n256, n1024, n2000, n2048, nJ_add, nJ_mul, nJ_sub, nJ_leT, nJ_leF, nJ_ltT, nJ_ltF, nJ_eqT, nJ_eqF, nJ_clamp, nJ_div, nM, iM_eqF, iM_eqF2, iM_leF, iM_ltF, iM_leT, iM_ltT, iM_add, iM_add0, natLeF, natLeT, natLtF, natLtT, natEqF, natEqT, if_true, if_false, ite_true, ite_false, false_or, or_false, or_self, Option.bind_some, ↓reduceIte]
  rw [f_M_note_44]
  simp (disch := omega) only [n0, n1, n2, n3, n4, n5, n6, n7, n8, n10, n16, n40, n128, n255, n256, n1024, n2000, n2048, nJ_add, nJ_mul, nJ_sub, nJ_leT, nJ_leF, nJ_ltT, nJ_ltF, nJ_eqT, nJ_eqF, nJ_clamp, nJ_div, nM, iM_eqF, iM_eqF2, iM_leF, iM_ltF, iM_leT, iM_ltT, iM_add, iM_add0, natLeF, natLeT, natLtF, natLtT, natEqF, natEqT, if_true, if_false, ite_true, ite_false, false_or, or_false, or_self, Option.bind_some, ↓reduceIte]
  rw [f_M_note_44]
  simp (disch := omega) only [n0, n1, n2, n3, n4, n5, n6, n7, n8, n10, n16, n40, n128, n255, n256, n1024, n2000, n2048, nJ_add, nJ_mul, nJ_sub, nJ_leT, nJ_leF, nJ_ltT, nJ_ltF, nJ_eqT, nJ_eqF, nJ_clamp, nJ_div, nM, iM_eqF, iM_eqF2, iM_leF, iM_ltF, iM_leT, iM_ltT, iM_add, iM_add0, natLeF, natLeT, natLtF, natLtT, natEqF, natEqT, if_true, if_false, ite_true, ite_false, false_or, or_false, or_self, Option.bind_some, ↓reduceIte]
theorem l_M_note {c n bn x y s : Nat} {f bf : Nat → Int32} {F : Nat → Int} {B : Fit5} (hc : c < 256) (hn : n = 4096) (hb : 4 ≤ bn) (hr : kRep 2048 f F c)
    (hB : bf 0 = nI B.1 ∧ bf 1 = nI B.2.1 ∧ bf 2 = iI B.2.2.1 ∧ bf 3 = iI B.2.2.2.1) :
    ∃ f', f_M_note (nI x) (nI y) (nI s) (iI B.2.2.2.2) (nI c) n f bn bf = some (nI (c + 1), f') ∧ kRep 2048 f' (addF F c x y s B) (c + 1) ∧ ∀ k, k < 2048 → f' k = f k := by
  subst hn
  have e8 : 8 * (256 + c) = 2048 + 8 * c := by omega
  have k44 := l_M_note_44 (n := 4096) (at' := 2048 + 8 * c) (bn := bn) (N := 1048571) (bf := bf) (f := upd (upd (upd f (2048 + 8 * c) (nI x)) (2048 + 8 * c + 1) (nI y)) (2048 + 8 * c + 2) (nI s)) (p1 := nI x) (p2 := nI y) (p3 := nI s) (p4 := iI B.2.2.2.2) (by omega) (by omega) hb
  have hFU : (1048571 + 1 + 1 + 1 + 1 + 1 : Nat) = FU := rfl
  rw [hFU] at k44
  apply Exists.intro
  constructor
  · unfold f_M_note
    simp (disch := omega) only [n0, n1, n2, n3, n4, n5, n6, n7, n8, n10, n16, n40, n128, n255, n256, n1024, n2000, n2048, nJ_add, nJ_mul, nJ_sub, nJ_leT, nJ_leF, nJ_ltT, nJ_ltF, nJ_eqT, nJ_eqF, nJ_clamp, nJ_div, nM, iM_eqF, iM_eqF2, iM_leF, iM_ltF, iM_leT, iM_ltT, iM_add, iM_add0, natLeF, natLeT, natLtF, natLtT, natEqF, natEqT, if_true, if_false, ite_true, ite_false, false_or, or_false, or_self, Option.bind_some, ↓reduceIte, e8]
    rw [← n0, k44]
    simp (disch := omega) only [n0, n1, n2, n3, n4, n5, n6, n7, n8, n10, n16, n40, n128, n255, n256, n1024, n2000, n2048, nJ_add, nJ_mul, nJ_sub, nJ_leT, nJ_leF, nJ_ltT, nJ_ltF, nJ_eqT, nJ_eqF, nJ_clamp, nJ_div, nM, iM_eqF, iM_eqF2, iM_leF, iM_ltF, iM_leT, iM_ltT, iM_add, iM_add0, natLeF, natLeT, natLtF, natLtT, natEqF, natEqT, if_true, if_false, ite_true, ite_false, false_or, or_false, or_self, Option.bind_some, ↓reduceIte]
    rfl
  · obtain ⟨h0, h1, h2, h3⟩ := hB
    constructor
    · refine kRep_add hr (fun k hk => ?_) ?_
      · simp (disch := omega) only [updF]
      · refine ⟨?_, ?_, ?_, ?_, ?_, ?_, ?_, ?_⟩ <;> simp (disch := omega) only [updF, updT, h0, h1, h2, h3]
    · intro k hk
      simp (disch := omega) only [updF]
/-- a fit's four numbers in bits -/
def wFit (D : Nat) (B : Fit5) (e : Nat → Nat) (m : Nat) : Nat → Nat := apN (B.2.2.2.1 + 256).toNat 10 (apN (B.2.2.1 + 7).toNat 4 (apN B.2.1 3 (apN B.1 D e m) (m + D)) (m + D + 3)) (m + D + 3 + 4)
theorem fit_con {A : Nat} {B : Fit5} (h : bVal A B) : iI B.2.2.1 + 7 = nI (B.2.2.1 + 7).toNat ∧ (B.2.2.1 + 7).toNat < 1024 := by
  obtain ⟨_, _, _, h1, h2, _⟩ := h
  generalize B.2.2.1 = z at h1 h2
  refine ⟨?_, by omega⟩
  rw [nJ_iI, show (7 : Int32) = iI 7 from rfl, iI_add, Int.toNat_of_nonneg (by omega)]
theorem fit_off {A : Nat} {B : Fit5} (h : bVal A B) : iI B.2.2.2.1 + 256 = nI (B.2.2.2.1 + 256).toNat ∧ (B.2.2.2.1 + 256).toNat < 1024 := by
  obtain ⟨_, _, _, _, _, h1, h2⟩ := h
  generalize B.2.2.2.1 = z at h1 h2
  refine ⟨?_, by omega⟩
  rw [nJ_iI, show (256 : Int32) = iI 256 from rfl, iI_add, Int.toNat_of_nonneg (by omega)]
section
variable {w h : Nat}
theorem wFit_good {D m : Nat} {B : Fit5} {e : Nat → Nat} (hg : bGood e m) : bGood (wFit D B e m) (m + D + 17) := by
  have g1 := apN_good (num := B.1) D e m hg
  have g2 := apN_good (num := B.2.1) 3 _ _ g1
  have g3 := apN_good (num := (B.2.2.1 + 7).toNat) 4 _ _ g2
  exact apN_good (num := (B.2.2.2.1 + 256).toNat) 10 _ _ g3
theorem l_F_writeFit {n m : Nat} {f : Nat → Int32} {e : Nat → Nat} {B : Fit5} (hw : w ≤ 16) (h1 : 0 < h) (h2 : 2 * h ≤ w) (hB : bVal (dac w h * dac w h) B) (hn : n ≤ 2000) (hr : bRep f e m) (hg : bGood e m) (hm : m + db (dac w h * dac w h) + 17 ≤ 8 * n) :
    ∃ f', f_F_writeFit (nI (2 * h)) (nI (2 * w)) (nI B.1) (nI B.2.1) (iI B.2.2.1) (iI B.2.2.2.1) (nI m) n f = some (nI (m + db (dac w h * dac w h) + 17), f') ∧ bRep f' (wFit (db (dac w h * dac w h)) B e m) (m + db (dac w h * dac w h) + 17) := by
  have ha := dac_le (h := h) hw
  obtain ⟨d1, _, _⟩ := db_spec (dac w h * dac w h) (by omega)
  have hd := hB.2.1
  have ht := hB.2.2.1
  obtain ⟨c1, c2⟩ := fit_con hB
  obtain ⟨o1, o2⟩ := fit_off hB
  have hl := l_F_domainBits hw h1 h2
  generalize db (dac w h * dac w h) = D at d1 hm hl ⊢
  obtain ⟨f1, a1, r1⟩ := l_B_append (num := B.1) (w := D) (m := m) (by omega) hn (by omega) hr hg (by omega)
  have g1 := apN_good (num := B.1) D e m hg
  obtain ⟨f2, a2, r2⟩ := l_B_append (num := B.2.1) (w := 3) (m := m + D) (by omega) hn (by omega) r1 g1 (by omega)
  have g2 := apN_good (num := B.2.1) 3 _ _ g1
  obtain ⟨f3, a3, r3⟩ := l_B_append (num := (B.2.2.1 + 7).toNat) (w := 4) (m := m + D + 3) c2 hn (by omega) r2 g2 (by omega)
  have g3 := apN_good (num := (B.2.2.1 + 7).toNat) 4 _ _ g2
  obtain ⟨f4, a4, r4⟩ := l_B_append (num := (B.2.2.2.1 + 256).toNat) (w := 10) (m := m + D + 3 + 4) o2 hn (by omega) r3 g3 (by omega)
  refine ⟨f4, ?_, r4⟩
  unfold f_F_writeFit
  rw [hl]
  simp only [Option.bind_some]
  rw [a1]
  simp only [Option.bind_some]
  rw [n3, a2]
  simp only [Option.bind_some]
  rw [c1, n4, a3]
  simp only [Option.bind_some]
  rw [o1, n10, a4]
  rfl
/-- the reference's writing of a fit -/
theorem l_M_tells {n m bn : Nat} {f bf : Nat → Int32} {e : Nat → Nat} {B : Fit5} (hw : w ≤ 16) (h1 : 0 < h) (h2 : 2 * h ≤ w) (hB : bVal (dac w h * dac w h) B) (hn : n ≤ 2000) (hr : bRep f e m) (hg : bGood e m) (hm : m + db (dac w h * dac w h) + 17 ≤ 8 * n) (hbn : 4 ≤ bn)
    (hb : bf 0 = nI B.1 ∧ bf 1 = nI B.2.1 ∧ bf 2 = iI B.2.2.1 ∧ bf 3 = iI B.2.2.2.1) :
    ∃ f', bRep f' (wFit (db (dac w h * dac w h)) B e m) (m + db (dac w h * dac w h) + 17) ∧ ∀ {ρ : Type} (K : Int32 × (Nat → Int32) → Option ρ),
      (if (0 : Int32) < 0 ∨ bn ≤ (0 : Int32).toNatClampNeg then none else ((f_M_bitsFor (nI (2 * h)) (nI (2 * w))).bind (fun q1047 => (f_M_tell (bf (0 : Int32).toNatClampNeg) q1047 (nI m) n f).bind (fun q1049 => if (1 : Int32) < 0 ∨ bn ≤ (1 : Int32).toNatClampNeg then none else ((f_M_tell (bf (1 : Int32).toNatClampNeg) (3 : Int32) q1049.1 n q1049.2).bind (fun q1050 => if (2 : Int32) < 0 ∨ bn ≤ (2 : Int32).toNatClampNeg then none else ((f_M_tell ((bf (2 : Int32).toNatClampNeg) + (7 : Int32)) (4 : Int32) q1050.1 n q1050.2).bind (fun q1051 => if (3 : Int32) < 0 ∨ bn ≤ (3 : Int32).toNatClampNeg then none else ((f_M_tell ((bf (3 : Int32).toNatClampNeg) + (256 : Int32)) (10 : Int32) q1051.1 n q1051.2).bind (fun q1052 => K q1052)))))))))) = K (nI (m + db (dac w h * dac w h) + 17), f') := by
  have ha := dac_le (h := h) hw
  obtain ⟨d1, _, _⟩ := db_spec (dac w h * dac w h) (by omega)
  have hd := hB.2.1
  have ht := hB.2.2.1
  obtain ⟨c1, c2⟩ := fit_con hB
  obtain ⟨o1, o2⟩ := fit_off hB
  have hl := l_M_bitsFor hw h1 h2
  generalize db (dac w h * dac w h) = D at d1 hm hl ⊢
  obtain ⟨f1, a1, r1⟩ := l_M_tell (num := B.1) (w := D) (m := m) (by omega) hn (by omega) hr hg (by omega)
  have g1 := apN_good (num := B.1) D e m hg
  obtain ⟨f2, a2, r2⟩ := l_M_tell (num := B.2.1) (w := 3) (m := m + D) (by omega) hn (by omega) r1 g1 (by omega)
  have g2 := apN_good (num := B.2.1) 3 _ _ g1
  obtain ⟨f3, a3, r3⟩ := l_M_tell (num := (B.2.2.1 + 7).toNat) (w := 4) (m := m + D + 3) c2 hn (by omega) r2 g2 (by omega)
  have g3 := apN_good (num := (B.2.2.1 + 7).toNat) 4 _ _ g2
  obtain ⟨f4, a4, r4⟩ := l_M_tell (num := (B.2.2.2.1 + 256).toNat) (w := 10) (m := m + D + 3 + 4) o2 hn (by omega) r3 g3 (by omega)
  refine ⟨f4, r4, fun K => ?_⟩
  obtain ⟨b0, b1, b2, b3⟩ := hb
  have z0 : (0 : Int32).toNatClampNeg = 0 := rfl
  have z1 : (1 : Int32).toNatClampNeg = 1 := rfl
  have z2 : (2 : Int32).toNatClampNeg = 2 := rfl
  have z3 : (3 : Int32).toNatClampNeg = 3 := rfl
  have i0 : ¬ ((0 : Int32) < 0 ∨ bn ≤ 0) := by rintro (h | h); exact absurd h (by decide); omega
  have i1 : ¬ ((1 : Int32) < 0 ∨ bn ≤ 1) := by rintro (h | h); exact absurd h (by decide); omega
  have i2 : ¬ ((2 : Int32) < 0 ∨ bn ≤ 2) := by rintro (h | h); exact absurd h (by decide); omega
  have i3 : ¬ ((3 : Int32) < 0 ∨ bn ≤ 3) := by rintro (h | h); exact absurd h (by decide); omega
  rw [z0, z1, z2, z3, if_neg i0, hl, b0, b1, b2, b3]
  simp only [Option.bind_some]
  rw [a1]
  simp only [Option.bind_some]
  rw [if_neg i1, n3, a2]
  simp only [Option.bind_some]
  rw [if_neg i2, c1, n4, a3]
  simp only [Option.bind_some]
  rw [← n3, if_neg i3, o1, n10, a4]
  rfl
end
