/-! what was missed -/
def msq (p q : Nat → Nat) (k : Nat) : Int := ((p k : Int) - (q k : Int)) * ((p k : Int) - (q k : Int))
theorem dif_long {a b : Nat} (ha : a ≤ 255) (hb : b ≤ 255) : (nI a - nI b).toInt64 = lI ((a : Int) - (b : Int)) := by
  rw [nJ_iI, nJ_iI, iI_sub, iI_long (by omega) (by omega)]
section
variable {s n nn : Nat} {f f2 : Nat → Int32} {p q : Nat → Nat}
theorem l_F_missed_39 {y : Nat} (hs : s ≤ 64) (hn : s * s ≤ n) (hnn : s * s ≤ nn) (hf : ∀ k, k < s * s → f k = nI (p k)) (hp : ∀ k, k < s * s → p k ≤ 255) (hf2 : ∀ k, k < s * s → f2 k = nI (q k)) (hq : ∀ k, q k ≤ 255) (hy : y < s) :
    f_F_missed_39 (nI y) (nI s) (nI s) n f (nI s) nn f2 FU (lI (sI (msq p q) (y * s))) 0 = some (lI (sI (msq p q) ((y + 1) * s)), nI s) := by
  have key := lp_up (L := fun n' (a : Int) v => f_F_missed_39 (nI y) (nI s) (nI s) n f (nI s) nn f2 n' (lI a) (nI v)) (st := fun x => sI (msq p q) (y * s + x)) (b := s) (fin := (lI (sI (msq p q) (y * s + s)), nI s))
    (fun n' => by
      show f_F_missed_39 _ _ _ _ _ _ _ _ (n' + 1) _ _ = _
      rw [f_F_missed_39, if_pos (by rw [nJ_leT (Nat.le_refl _) (by omega)]; exact trivial)])
    (fun n' x hx => by
      show f_F_missed_39 _ _ _ _ _ _ _ _ (n' + 1) _ _ = f_F_missed_39 _ _ _ _ _ _ _ _ n' _ _
      have hi : y * s + x < s * s := ix hx hy
      rw [f_F_missed_39, if_neg (by rw [nJ_leF hx (by omega)]; exact not_false), l_G_sample hs hx hy hn, Option.bind_some, l_G_sample hs hx hy hnn, Option.bind_some, hf _ hi, hf2 _ hi, dif_long (hp _ hi) (hq _), lI_mul, lI_add, n1, nJ_add]
      rw [show y * s + (x + 1) = y * s + x + 1 by omega, sI]
      rfl)
    FU 0 (Nat.zero_le _) (fu (by omega))
  have e : (y + 1) * s = y * s + s := by rw [Nat.add_mul, Nat.one_mul]
  rw [e]
  exact key
theorem l_F_missed (hs : s ≤ 64) (hn : s * s ≤ n) (hnn : s * s ≤ nn) (hf : ∀ k, k < s * s → f k = nI (p k)) (hp : ∀ k, k < s * s → p k ≤ 255) (hf2 : ∀ k, k < s * s → f2 k = nI (q k)) (hq : ∀ k, q k ≤ 255) :
    f_F_missed (nI s) (nI s) n f (nI s) nn f2 = some (.inr (lI (sI (msq p q) (s * s)))) := by
  have key := lp_up (L := fun n' (a : Int) v => f_F_missed_28 (nI s) (nI s) n f (nI s) nn f2 n' (lI a) (nI v)) (st := fun y => sI (msq p q) (y * s)) (b := s) (fin := (lI (sI (msq p q) (s * s)), nI s))
    (fun n' => by
      show f_F_missed_28 _ _ _ _ _ _ _ (n' + 1) _ _ = _
      rw [f_F_missed_28, if_pos (by rw [nJ_leT (Nat.le_refl _) (by omega)]; exact trivial)])
    (fun n' y hy => by
      show f_F_missed_28 _ _ _ _ _ _ _ (n' + 1) _ _ = f_F_missed_28 _ _ _ _ _ _ _ n' _ _
      rw [f_F_missed_28, if_neg (by rw [nJ_leF hy (by omega)]; exact not_false), l_F_missed_39 hs hn hnn hf hp hf2 hq hy, Option.bind_some, n1, nJ_add])
    FU 0 (Nat.zero_le _) (fu (by omega))
  rw [Nat.zero_mul] at key
  have key : f_F_missed_28 (nI s) (nI s) n f (nI s) nn f2 FU 0 0 = _ := key
  unfold f_F_missed
  rw [if_pos rfl, key]
  rfl
theorem l_M_missed {cd : Int32} (hs : s ≤ 64) (hn : s * s ≤ n) (hnn : s * s ≤ nn) (hf : ∀ k, k < s * s → f k = nI (p k)) (hp : ∀ k, k < s * s → p k ≤ 255) (hf2 : ∀ k, k < s * s → f2 k = nI (q k)) (hq : ∀ k, q k ≤ 255) :
    f_M_missed cd (nI s) (nI s) n f nn f2 = some (lI (sI (msq p q) (s * s)), 0) := by
  have hs2 := sq64 hs
  have key := lp_up (L := fun n' (a : Int) v => f_M_missed_24 0 (nI s) n f nn f2 n' (lI a) (nI v)) (st := fun y => sI (msq p q) y) (b := s * s) (fin := (lI (sI (msq p q) (s * s)), nI (s * s)))
    (fun n' => by
      show f_M_missed_24 _ _ _ _ _ _ (n' + 1) _ _ = _
      rw [f_M_missed_24, nJ_mul, if_pos (by rw [nJ_leT (Nat.le_refl _) (by omega)]; exact trivial)])
    (fun n' i hi => by
      show f_M_missed_24 _ _ _ _ _ _ (n' + 1) _ _ = f_M_missed_24 _ _ _ _ _ _ n' _ _
      have cl : (nI i).toNatClampNeg = i := nJ_clamp (by omega)
      rw [f_M_missed_24, nJ_mul, if_neg (by rw [nJ_leF hi (by omega)]; exact not_false), if_pos rfl, cl, if_neg (by rw [n0, nJ_ltF (by omega) (by omega), false_or]; omega), if_neg (by rw [n0, nJ_ltF (by omega) (by omega), false_or]; omega), hf _ hi, hf2 _ hi, dif_long (hp _ hi) (hq _), lI_mul, lI_add, n1, nJ_add, sI]
      rfl)
    FU 0 (Nat.zero_le _) (fu (by omega))
  have key : f_M_missed_24 0 (nI s) n f nn f2 FU 0 0 = _ := key
  unfold f_M_missed
  rw [if_pos rfl, key]
  rfl
end
theorem ps_10 {w d : Nat} {P_side : Int32} {PA_f : Nat → Int32} {N_side : Int32} {NA_f : Nat → Int32} {X_code : Int32} {X_decoded : Int32} {Xpicture_f : Nat → Int32} {Xnews_f : Nat → Int32} {OUT_f : Nat → Int64} {S_tried : Int32} {K_count : Int32} {KA_f : Nat → Int32} {C_filled : Int32} {CA_f : Nat → Int32} {I_filled : Int32} {IA_f : Nat → Int32} {X_many : Int32} {Xblocks_f : Nat → Int32} {X_encodedBits : Int32} {Xencoded_f : Nat → Int32} {X_tried : Int32} {X_fedMany : Int32} {Xfed_f : Nat → Int32} (h : RX w d P_side PA_f N_side NA_f S_tried K_count KA_f C_filled CA_f I_filled IA_f Xpicture_f X_many Xblocks_f X_encodedBits Xencoded_f X_tried X_decoded Xnews_f X_fedMany Xfed_f) :
    ∃ r, f_LW_10 (nI (2 * w)) P_side (4 * (w * w)) PA_f N_side (16 * (w * w)) NA_f X_code (nI (2 * w)) X_decoded 1024 Xpicture_f 4096 Xnews_f 1 OUT_f = some r ∧ RX w d P_side PA_f N_side NA_f S_tried K_count KA_f C_filled CA_f I_filled IA_f Xpicture_f X_many Xblocks_f X_encodedBits Xencoded_f X_tried X_decoded Xnews_f X_fedMany Xfed_f := by
  obtain ⟨p, D, q, e, N, g, hA, ⟨c1, c2, c3, c4, c5, c6, c7⟩, m1, m2, m3, m4, m5, m6⟩ := h
  have hA0 := hA
  obtain ⟨k1, k2, k3, k4, k5, k6, k7, k8, k9⟩ := hA
  have hww := ww_le k2
  have hsq := sq_eq w
  have t1 := two_pos' d
  have goal : ∃ r, f_LW_10 (nI (2 * w)) P_side (4 * (w * w)) PA_f N_side (16 * (w * w)) NA_f X_code (nI (2 * w)) X_decoded 1024 Xpicture_f 4096 Xnews_f 1 OUT_f = some r := by
    rw [c1, c3, m3]
    by_cases hD : D = 2 * w
    · subst hD
      have hF := l_F_missed (s := 2 * w) (n := 4 * (w * w)) (nn := 16 * (w * w)) (f := PA_f) (f2 := NA_f) (by omega) (by omega) (by omega) c2 k3 c4 k5
      have hM := l_M_missed (s := 2 * w) (n := 1024) (nn := 4096) (f := Xpicture_f) (f2 := Xnews_f) (cd := X_code) (by omega) (by omega) (by omega) m1 k3 m4 k5
      unfold f_LW_10 f_M_thrown f_L_missed
      rw [hF, Option.bind_some, Sum.elim_inr, if_neg io1, Option.bind_some, hM, Option.bind_some, Option.bind_some]
      exact ⟨_, law_ok rfl (fun _ => by (try dsimp only); rw [updL0])⟩
    · have hF : f_F_missed (nI (2 * w)) (nI (2 * w)) (4 * (w * w)) PA_f (nI D) (16 * (w * w)) NA_f = some (.inl 3) := by
        unfold f_F_missed
        rw [if_neg (by rw [nJ_eqF hD (by omega) (by omega)]; exact not_false)]
      have hM : ∃ v, f_M_missed X_code (nI (2 * w)) (nI D) 1024 Xpicture_f 4096 Xnews_f = some (v, 1) := by
        unfold f_M_missed
        rw [if_neg (by rw [nJ_eqF hD (by omega) (by omega)]; exact not_false), show FU = 1048575 + 1 from rfl, f_M_missed_24]
        by_cases z : nI (2 * w) * nI (2 * w) ≤ 0
        · rw [if_pos z]; exact ⟨_, rfl⟩
        · rw [if_neg z, if_neg (by decide)]; exact ⟨_, rfl⟩
      obtain ⟨v, hM⟩ := hM
      unfold f_LW_10 f_M_thrown f_L_missed
      rw [hF, Option.bind_some, Sum.elim_inl, if_pos rfl, Option.bind_some, hM, Option.bind_some, Option.bind_some]
      exact ⟨_, law_ok rfl (fun h => by first | exact absurd h c1_ne | exact absurd h c2_ne)⟩
  obtain ⟨r, hr⟩ := goal
  exact ⟨r, hr, p, D, q, e, N, g, hA0, ⟨c1, c2, c3, c4, c5, c6, c7⟩, m1, m2, m3, m4, m5, m6⟩
theorem nat_below {x : Int32} {m : Nat} (h : ¬ ∃ a : Nat, a < m ∧ x = nI a) (hm : m < 2147483648) : x < 0 ∨ (¬ x < 0 ∧ ¬ x < nI m ∧ nI m ≤ x) := by
  rcases nJ_case x with z | ⟨n, hn, rfl⟩
  · exact Or.inl z
  · have : ¬ n < m := fun z => h ⟨n, z, rfl⟩
    right
    refine ⟨?_, ?_, ?_⟩
    · rw [n0, nJ_ltF (by omega) (by omega)]; exact not_false
    · rw [nJ_ltF (by omega) hn]; exact not_false
    · rw [nJ_leT (by omega) hn]; exact trivial
theorem ps_12 {w d : Nat} {P_side : Int32} {PA_f : Nat → Int32} {X_code : Int32} {Xpicture_f : Nat → Int32} {Xrs_f : Nat → Int32} {OUT_f : Nat → Int64} {N_side : Int32} {NA_f : Nat → Int32} {S_tried : Int32} {K_count : Int32} {KA_f : Nat → Int32} {C_filled : Int32} {CA_f : Nat → Int32} {I_filled : Int32} {IA_f : Nat → Int32} {X_many : Int32} {Xblocks_f : Nat → Int32} {X_encodedBits : Int32} {Xencoded_f : Nat → Int32} {X_tried : Int32} {X_decoded : Int32} {Xnews_f : Nat → Int32} {X_fedMany : Int32} {Xfed_f : Nat → Int32} (h : RX w d P_side PA_f N_side NA_f S_tried K_count KA_f C_filled CA_f I_filled IA_f Xpicture_f X_many Xblocks_f X_encodedBits Xencoded_f X_tried X_decoded Xnews_f X_fedMany Xfed_f) (a1 a2 a3 : Int32) :
    ∃ r, f_LW_12 a1 a2 a3 (nI (2 * w)) P_side (4 * (w * w)) PA_f X_code (nI (2 * w)) 1024 Xpicture_f 256 Xrs_f 1 OUT_f = some r ∧ RX w d P_side PA_f N_side NA_f S_tried K_count KA_f C_filled CA_f I_filled IA_f Xpicture_f X_many Xblocks_f X_encodedBits Xencoded_f X_tried X_decoded Xnews_f X_fedMany Xfed_f := by
  obtain ⟨p, D, q, e, N, g, hA, ⟨c1, c2, c3, c4, c5, c6, c7⟩, m1, m2, m3, m4, m5, m6⟩ := h
  have hA0 := hA
  obtain ⟨k1, k2, k3, k4, k5, k6, k7, k8, k9⟩ := hA
  have hww := ww_le k2
  have hsq := sq_eq w
  have fin : ∀ (c : Int32) (v : Int32) (o : Nat → Int64) (rs : Nat → Int32), f_L_kind a1 a2 a3 (nI (2 * w)) P_side (4 * (w * w)) PA_f 1 OUT_f = some (c, o) → f_M_kind a1 a2 a3 X_code (nI (2 * w)) 1024 Xpicture_f 256 Xrs_f = some (v, c, rs) → (c = 0 → o (0 : Int32).toNatClampNeg = v.toInt64) → ∃ r, f_LW_12 a1 a2 a3 (nI (2 * w)) P_side (4 * (w * w)) PA_f X_code (nI (2 * w)) 1024 Xpicture_f 256 Xrs_f 1 OUT_f = some r := by
    intro c v o rs h1 h2 h3
    refine ⟨(c, rs, o), ?_⟩
    unfold f_LW_12 f_M_thrown
    rw [h1, Option.bind_some, h2, Option.bind_some, Option.bind_some]
    exact law_ok rfl h3
  have goal : ∃ r, f_LW_12 a1 a2 a3 (nI (2 * w)) P_side (4 * (w * w)) PA_f X_code (nI (2 * w)) 1024 Xpicture_f 256 Xrs_f 1 OUT_f = some r := by
    rw [c1] at fin ⊢
    rcases isSize_cases a3 with ⟨h1, h2, _⟩ | ⟨j, j1, j4, rfl, h1, h2⟩
    · refine fin 1 0 OUT_f Xrs_f ?_ ?_ (fun h => absurd h (by decide))
      · have hF : f_F_kind a1 a2 a3 (nI (2 * w)) (nI (2 * w)) (4 * (w * w)) PA_f = some (.inl 2) := by
          unfold f_F_kind
          rw [h1, Option.bind_some, if_pos rfl]
        unfold f_L_kind
        rw [hF]; rfl
      · unfold f_M_kind
        rw [h2, Option.bind_some, if_pos rfl, if_neg (by decide)]
    · have hs4 := size_le j4
      have hs2 := size_ge j1
      obtain ⟨h, hh⟩ : ∃ h, 2 ^ j = 2 * h := ⟨2 ^ (j - 1), by rw [← two_succ]; congr 1; omega⟩
      have bad : (f_F_kind a1 a2 (nI (2 ^ j)) (nI (2 * w)) (nI (2 * w)) (4 * (w * w)) PA_f = some (.inl 1)) → f_M_kind a1 a2 (nI (2 ^ j)) X_code (nI (2 * w)) 1024 Xpicture_f 256 Xrs_f = some (0, 2, Xrs_f) → ∃ r, f_LW_12 a1 a2 (nI (2 ^ j)) (nI (2 * w)) (nI (2 * w)) (4 * (w * w)) PA_f X_code (nI (2 * w)) 1024 Xpicture_f 256 Xrs_f 1 OUT_f = some r := by
        intro hF hM
        refine fin 2 0 OUT_f Xrs_f ?_ hM (fun h => absurd h (by decide))
        unfold f_L_kind
        rw [hF]; rfl
      by_cases hjw : 2 ^ j ≤ 2 * w
      · have ed : nI (2 * w) - nI (2 ^ j) = nI (2 * w - 2 ^ j) := nJ_sub hjw
        have em : nI (2 * w - 2 ^ j) = nI (2 * w - 2 ^ j + 1) - 1 := by rw [n1, nJ_sub (by omega)]; rfl
        by_cases hx : ∃ a : Nat, a < 2 * w - 2 ^ j + 1 ∧ a1 = nI a
        · obtain ⟨x, hx, rfl⟩ := hx
          have i1 := l_in_T hx (show 2 * w - 2 ^ j + 1 < 2147483648 by omega)
          rw [← em] at i1
          have x0 : ¬ nI x < 0 := by rw [n0, nJ_ltF (by omega) (by omega)]; exact not_false
          have x1 : ¬ nI (2 * w - 2 ^ j) < nI x := by rw [nJ_ltF (by omega) (by omega)]; exact not_false
          by_cases hy : ∃ a : Nat, a < 2 * w - 2 ^ j + 1 ∧ a2 = nI a
          · obtain ⟨y, hy, rfl⟩ := hy
            have i2 := l_in_T hy (show 2 * w - 2 ^ j + 1 < 2147483648 by omega)
            rw [← em] at i2
            have y0 : ¬ nI y < 0 := by rw [n0, nJ_ltF (by omega) (by omega)]; exact not_false
            have y1 : nI y ≤ nI (2 * w - 2 ^ j) := by rw [nJ_leT (by omega) (by omega)]; exact trivial
            have br := l_G_brightest (s := 2 * w) (x := x) (y := y) (h := h) (n := 4 * (w * w)) (f := PA_f) (p := p) (by omega) (by omega) (by omega) (by omega) c2 k3
            obtain ⟨g', l1, l2, _⟩ := l_kind (s := 2 * w) (x := x) (y := y) (h := h) (n := 1024) (m := 256) (f := Xpicture_f) (fm := Xpicture_f) (g := Xrs_f) (p := p) (by omega) (by omega) (by omega) (by omega) (by omega) m1 k3 (by omega)
            rw [← hh] at br l1 l2
            refine fin 0 (nI (am (qS p (2 * w) x y h))) (vp_updL OUT_f (0 : Int32).toNatClampNeg (nI (am (qS p (2 * w) x y h))).toInt64) g' ?_ ?_ (fun _ => updL0)
            · have hF : f_F_kind (nI x) (nI y) (nI (2 ^ j)) (nI (2 * w)) (nI (2 * w)) (4 * (w * w)) PA_f = some (.inr (nI (am (qS p (2 * w) x y h)))) := by
                unfold f_F_kind
                rw [h1, Option.bind_some, if_neg (by decide), if_neg x0, ed, if_neg x1, if_neg y0, if_pos y1, br]
                rfl
              unfold f_L_kind
              rw [hF, Option.bind_some, Sum.elim_inr, if_neg io1]
            · unfold f_M_kind
              rw [h2, Option.bind_some, if_neg (by decide), ed, i1, Option.bind_some, if_neg (by decide), i2, Option.bind_some, if_neg (by decide), if_pos (by decide), l1, Option.bind_some, l2]
              rfl
          · have i2 := l_in_F hy (show 2 * w - 2 ^ j + 1 < 2147483648 by omega)
            rw [← em] at i2
            apply bad
            · unfold f_F_kind
              rw [h1, Option.bind_some, if_neg (by decide), if_neg x0, ed, if_neg x1]
              rcases nJ_case a2 with z | ⟨n, hn, rfl⟩
              · rw [if_pos z]
              · have : ¬ n < 2 * w - 2 ^ j + 1 := fun z => hy ⟨n, z, rfl⟩
                rw [if_neg (by rw [n0, nJ_ltF (by omega) (by omega)]; exact not_false), if_neg (by rw [nJ_leF (by omega) hn]; exact not_false)]
            · unfold f_M_kind
              rw [h2, Option.bind_some, if_neg (by decide), ed, i1, Option.bind_some, if_neg (by decide), i2, Option.bind_some, if_pos rfl, if_neg (by decide)]
        · have i1 := l_in_F hx (show 2 * w - 2 ^ j + 1 < 2147483648 by omega)
          rw [← em] at i1
          apply bad
          · unfold f_F_kind
            rw [h1, Option.bind_some, if_neg (by decide), ed]
            rcases nJ_case a1 with z | ⟨n, hn, rfl⟩
            · rw [if_pos z]
            · have : ¬ n < 2 * w - 2 ^ j + 1 := fun z => hx ⟨n, z, rfl⟩
              rw [if_neg (by rw [n0, nJ_ltF (by omega) (by omega)]; exact not_false), if_pos (by rw [nJ_ltT (by omega) hn]; exact trivial)]
          · unfold f_M_kind
            rw [h2, Option.bind_some, if_neg (by decide), ed, i1, Option.bind_some, if_pos rfl, if_neg (by decide)]
      · have ed : nI (2 * w) - nI (2 ^ j) = iI ((2 * w : Nat) - (2 ^ j : Nat) : Int) := by rw [nJ_iI, nJ_iI, iI_sub]
        have hneg : ((2 * w : Nat) : Int) - ((2 ^ j : Nat) : Int) < 0 := by omega
        have hlo : -16 ≤ ((2 * w : Nat) : Int) - ((2 ^ j : Nat) : Int) := by omega
        have tz : (iI (((2 * w : Nat) : Int) - ((2 ^ j : Nat) : Int))).toInt64 = lI (((2 * w : Nat) : Int) - ((2 ^ j : Nat) : Int)) := iI_long (by omega) (by omega)
        have i1 := l_in (x := a1) (a := 0) (b := ((2 * w : Nat) : Int) - ((2 ^ j : Nat) : Int)) (by omega) (by omega) (by omega) (by omega)
        rw [if_neg (by omega)] at i1
        have i1 : f_M_in a1.toInt64 0 (lI (((2 * w : Nat) : Int) - ((2 ^ j : Nat) : Int))) = some 0 := i1
        apply bad
        · unfold f_F_kind
          rw [h1, Option.bind_some, if_neg (by decide)]
          rcases nJ_case a1 with z | ⟨n, hn, rfl⟩
          · rw [if_pos z]
          · rw [if_neg (by rw [n0, nJ_ltF (by omega) (by omega)]; exact not_false), ed, nJ_iI n, if_pos (by rw [iI_ltT (by omega) (by omega) (by omega)]; exact trivial)]
        · unfold f_M_kind
          rw [h2, Option.bind_some, if_neg (by decide), ed, tz, i1, Option.bind_some, if_pos rfl, if_neg (by decide)]
  obtain ⟨r, hr⟩ := goal
  exact ⟨r, hr, p, D, q, e, N, g, hA0, ⟨c1, c2, c3, c4, c5, c6, c7⟩, m1, m2, m3, m4, m5, m6⟩
theorem ps_11 {w d : Nat} {P_side : Int32} {PA_f : Nat → Int32} {H_side : Int32} {HA_f : Nat → Int32} {V_left : Int32} {V_top : Int32} {V_start : Int32} {V_stepAcross : Int32} {V_stepDown : Int32} {X_code : Int32} {Xpicture_f : Nat → Int32} {Xhalf_f : Nat → Int32} {Xds_f : Nat → Int32} {OUT_f : Nat → Int64} {N_side : Int32} {NA_f : Nat → Int32} {S_tried : Int32} {K_count : Int32} {KA_f : Nat → Int32} {C_filled : Int32} {CA_f : Nat → Int32} {I_filled : Int32} {IA_f : Nat → Int32} {X_many : Int32} {Xblocks_f : Nat → Int32} {X_encodedBits : Int32} {Xencoded_f : Nat → Int32} {X_tried : Int32} {X_decoded : Int32} {Xnews_f : Nat → Int32} {X_fedMany : Int32} {Xfed_f : Nat → Int32} (h : RX w d P_side PA_f N_side NA_f S_tried K_count KA_f C_filled CA_f I_filled IA_f Xpicture_f X_many Xblocks_f X_encodedBits Xencoded_f X_tried X_decoded Xnews_f X_fedMany Xfed_f) (a1 a2 a3 a4 a5 : Int32) :
    ∃ r, f_LW_11 a1 a2 a3 a4 a5 (nI (2 * w)) P_side (4 * (w * w)) PA_f (nI (2 * w)) H_side (4 * (w * w)) HA_f V_left V_top V_start V_stepAcross V_stepDown X_code (nI (2 * w)) 1024 Xpicture_f 256 Xhalf_f 256 Xds_f 1 OUT_f = some r ∧ RX w d P_side PA_f N_side NA_f S_tried K_count KA_f C_filled CA_f I_filled IA_f Xpicture_f X_many Xblocks_f X_encodedBits Xencoded_f X_tried X_decoded Xnews_f X_fedMany Xfed_f := by
  obtain ⟨p, D, q, e, N, g, hA, ⟨c1, c2, c3, c4, c5, c6, c7⟩, m1, m2, m3, m4, m5, m6⟩ := h
  have hA0 := hA
  obtain ⟨k1, k2, k3, k4, k5, k6, k7, k8, k9⟩ := hA
  have hww := ww_le k2
  have hsq := sq_eq w
  have hv : nI (2 * w) / 2 = nI w := by rw [n2, nJ_div (by omega) (by omega)]; congr 1; omega
  have goal : ∃ r, f_LW_11 a1 a2 a3 a4 a5 (nI (2 * w)) P_side (4 * (w * w)) PA_f (nI (2 * w)) H_side (4 * (w * w)) HA_f V_left V_top V_start V_stepAcross V_stepDown X_code (nI (2 * w)) 1024 Xpicture_f 256 Xhalf_f 256 Xds_f 1 OUT_f = some r := by
    rw [c1]
    have finB : ∀ (kx : Nat) (c : Int32), (kx = 2 ∧ c = 1 ∨ kx = 1 ∧ c = 2) → f_F_domain a1 a2 a3 a4 a5 (nI (2 * w)) (nI (2 * w)) (4 * (w * w)) PA_f (nI (2 * w)) H_side (4 * (w * w)) HA_f V_left V_top V_start V_stepAcross V_stepDown = some (.inl kx) → f_M_domain a1 a2 a3 a4 a5 X_code (nI (2 * w)) 1024 Xpicture_f 256 Xhalf_f 256 Xds_f = some (0, c, Xhalf_f, Xds_f) → ∃ r, f_LW_11 a1 a2 a3 a4 a5 (nI (2 * w)) (nI (2 * w)) (4 * (w * w)) PA_f (nI (2 * w)) H_side (4 * (w * w)) HA_f V_left V_top V_start V_stepAcross V_stepDown X_code (nI (2 * w)) 1024 Xpicture_f 256 Xhalf_f 256 Xds_f 1 OUT_f = some r := by
      intro kx c hk hF hM
      unfold f_LW_11 f_M_thrown f_L_domain
      rcases hk with ⟨rfl, rfl⟩ | ⟨rfl, rfl⟩
      · rw [hF, Option.bind_some, Sum.elim_inl, if_neg (by decide), if_pos rfl, Option.bind_some, hM, Option.bind_some, Option.bind_some]
        exact ⟨_, law_ok rfl (fun h => by first | exact absurd h c1_ne | exact absurd h c2_ne)⟩
      · rw [hF, Option.bind_some, Sum.elim_inl, if_pos rfl, Option.bind_some, hM, Option.bind_some, Option.bind_some]
        exact ⟨_, law_ok rfl (fun h => by first | exact absurd h c1_ne | exact absurd h c2_ne)⟩
    have J1 : ∀ b1 b2 b3 b4 b5 : Int32, f_M_domain_J35 b1 b2 b3 b4 b5 X_code (nI (2 * w)) 1024 Xpicture_f 256 Xhalf_f 256 Xds_f 1 = some (0, 1, Xhalf_f, Xds_f) := fun b1 b2 b3 b4 b5 => by
      unfold f_M_domain_J35 f_M_domain_J109
      rw [if_neg (by decide), if_neg (by decide)]
    have J2 : ∀ b1 b2 b3 b4 b5 b6 b7 : Int32, f_M_domain_J106 b1 b2 b3 b4 b5 b6 b7 (nI (2 * w)) 1024 Xpicture_f 256 Xhalf_f 256 Xds_f 2 = some (0, 2, Xhalf_f, Xds_f) := fun b1 b2 b3 b4 b5 b6 b7 => by
      unfold f_M_domain_J106
      rw [if_neg (by decide)]
    rcases isSize_cases a1 with ⟨h1, h2, _⟩ | ⟨j, j1, j4, rfl, h1, h2⟩
    · refine finB 2 1 (Or.inl ⟨rfl, rfl⟩) ?_ ?_
      · unfold f_F_domain
        rw [h1, Option.bind_some, if_pos rfl]
      · unfold f_M_domain
        rw [h2, Option.bind_some, if_pos rfl]
        exact J1 _ _ _ _ _
    · have hs4 := size_le j4
      have hs2 := size_ge j1
      obtain ⟨h, hh⟩ : ∃ h, 2 ^ j = 2 * h := ⟨2 ^ (j - 1), by rw [← two_succ]; congr 1; omega⟩
      by_cases hjw : 2 ^ j ≤ w
      · have g1 : nI (2 ^ j) ≤ nI w := by rw [nJ_leT hjw (by omega)]; exact trivial
        have g2 : ¬ nI (2 * w) < 2 * nI (2 ^ j) := by rw [n2, nJ_mul, nJ_ltF (by omega) (by omega)]; exact not_false
        by_cases ht : ∃ t : Nat, t < 8 ∧ a3 = nI t
        · obtain ⟨t, ht, rfl⟩ := ht
          have i3 : f_M_in (nI t).toInt64 0 7 = some 1 := by rw [L7]; exact l_in_T ht (by omega)
          have t0 : ¬ nI t < 0 := by rw [n0, nJ_ltF (by omega) (by omega)]; exact not_false
          have t8 : nI t < 8 := by rw [n8, nJ_ltT ht (by omega)]; exact trivial
          have hdF := l_F_domains (w := w) (h := h) (by omega) (by omega) (by omega)
          have hdM := l_M_domains (w := w) (h := h) (by omega) (by omega) (by omega)
          have hdl := dac_le (h := h) k2
          rw [← hh] at hdF hdM
          have J0 : f_M_domain_J35 (nI (2 ^ j)) a2 (nI t) a4 a5 X_code (nI (2 * w)) 1024 Xpicture_f 256 Xhalf_f 256 Xds_f 0 = (f_M_in a2.toInt64 0 ((nI (dac w h * dac w h)) - 1).toInt64).bind (fun q862 => if q862 = 0 then (f_M_domain_J106 (nI (2 ^ j)) a2 (nI t) a4 a5 (nI (dac w h * dac w h)) 0 (nI (2 * w)) 1024 Xpicture_f 256 Xhalf_f 256 Xds_f (2 : Int32)) else ((f_M_in a4.toInt64 (0 : Int64) ((nI (2 ^ j) - (1 : Int32)).toInt64)).bind (fun q866 => if q866 = 0 then (f_M_domain_J106 (nI (2 ^ j)) a2 (nI t) a4 a5 (nI (dac w h * dac w h)) 0 (nI (2 * w)) 1024 Xpicture_f 256 Xhalf_f 256 Xds_f (2 : Int32)) else ((f_M_in a5.toInt64 (0 : Int64) ((nI (2 ^ j) - (1 : Int32)).toInt64)).bind (fun q868 => if q868 = 0 then (f_M_domain_J106 (nI (2 ^ j)) a2 (nI t) a4 a5 (nI (dac w h * dac w h)) 0 (nI (2 * w)) 1024 Xpicture_f 256 Xhalf_f 256 Xds_f (2 : Int32)) else (f_M_domain_J106 (nI (2 ^ j)) a2 (nI t) a4 a5 (nI (dac w h * dac w h)) 0 (nI (2 * w)) 1024 Xpicture_f 256 Xhalf_f 256 Xds_f (0 : Int32))))))) := by
            unfold f_M_domain_J35
            rw [if_pos rfl, hdM, Option.bind_some, Option.bind_some, nJ_mul]
          have M0 : ∀ z, f_M_domain_J35 (nI (2 ^ j)) a2 (nI t) a4 a5 X_code (nI (2 * w)) 1024 Xpicture_f 256 Xhalf_f 256 Xds_f 0 = z → f_M_domain (nI (2 ^ j)) a2 (nI t) a4 a5 X_code (nI (2 * w)) 1024 Xpicture_f 256 Xhalf_f 256 Xds_f = z := fun z hz => by
            unfold f_M_domain
            rw [h2, Option.bind_some, if_neg (by decide), if_neg g2, i3, Option.bind_some, if_neg (by decide)]
            exact hz
          by_cases hd : ∃ m : Nat, m < dac w h * dac w h ∧ a2 = nI m
          · obtain ⟨m, hm, rfl⟩ := hd
            have i2 := l_in_T hm (show dac w h * dac w h < 2147483648 by omega)
            have d0 : ¬ nI m < 0 := by rw [n0, nJ_ltF (by omega) (by omega)]; exact not_false
            have d1 : nI m < nI (dac w h * dac w h) := by rw [nJ_ltT hm (by omega)]; exact trivial
            by_cases hx : ∃ x : Nat, x < 2 ^ j ∧ a4 = nI x
            · obtain ⟨x, hx, rfl⟩ := hx
              have i4 := l_in_T hx (show 2 ^ j < 2147483648 by omega)
              have x0 : ¬ nI x < 0 := by rw [n0, nJ_ltF (by omega) (by omega)]; exact not_false
              have x1 : ¬ nI (2 ^ j) ≤ nI x := by rw [nJ_leF hx (by omega)]; exact not_false
              by_cases hy : ∃ y : Nat, y < 2 ^ j ∧ a5 = nI y
              · obtain ⟨y, hy, rfl⟩ := hy
                have i5 := l_in_T hy (show 2 ^ j < 2147483648 by omega)
                have y0 : ¬ nI y < 0 := by rw [n0, nJ_ltF (by omega) (by omega)]; exact not_false
                have y1 : nI y < nI (2 ^ j) := by rw [nJ_ltT hy (by omega)]; exact trivial
                have hhF := l_G_half (s := 2 * w) (w := w) (m := 4 * (w * w)) (n := 4 * (w * w)) (q := 2 * w) (f := PA_f) (g := HA_f) (p := p) (G := H_side) (by omega) (by omega) (by omega) (by omega) (by omega) (by omega) c2 k3
                have hhM := l_M_halve (s := 2 * w) (w := w) (m := 256) (n := 1024) (f := Xpicture_f) (g := Xhalf_f) (p := p) (by omega) (by omega) (by omega) (by omega) m1 k3
                obtain ⟨dl, dt⟩ := dom_in (w := w) (h := h) (d := m) (by omega) (by omega) hm
                have aim := l_V_aim (w := w) (h := h) (d := m) (turn := t) (a := V_left) (b := V_top) (c := V_start) (by omega) (by omega) (by omega) hm ht
                have sam := l_V_sample (w := w) (left := domL w h m) (top := domT w h m) (size := 2 * h) (turn := t) (x := x) (y := y) (n := 4 * (w * w)) (f := wr HA_f (fun k => nI (hlf p (2 * w) k)) (w * w)) (by omega) (by omega) ht (by omega) (by omega) dl dt (by omega) (by omega)
                have lay := l_M_layDomain (w := w) (h := h) (d := m) (turn := t) (m := 256) (n := 256) (f := wr Xhalf_f (fun k => nI (hlf p (2 * w) k)) (w * w)) (g := Xds_f) (q := hlf p (2 * w)) (by omega) (by omega) (by omega) hm ht (by omega) (n_le (by omega)) (fun k hk => wr_lt hk)
                have cell := dcell_lt (w := w) (left := domL w h m) (top := domT w h m) (m := 2 * h - 1) (turn := t) (x := x) (y := y) ht (by omega) (by omega) (by omega) (by omega)
                have hn4 : 2 * h * (2 * h) ≤ 256 := n_le (by omega)
                have hyx : y * (2 * h) + x < 2 * h * (2 * h) := ix (by omega) (by omega)
                obtain ⟨ri1, ri2⟩ := rowIdx (y := y) (x := x) (z := 2 * h) (by omega)
                have ei : nI (2 ^ j) * nI y + nI x = nI (y * (2 * h) + x) := by rw [nJ_mul, nJ_add, hh, Nat.mul_comm]
                have cl : (nI (y * (2 * h) + x)).toNatClampNeg = y * (2 * h) + x := nJ_clamp (by omega)
                have ii : ¬ (nI (y * (2 * h) + x) < 0 ∨ 256 ≤ y * (2 * h) + x) := by rw [n0, nJ_ltF (by omega) (by omega), false_or]; omega
                have hF : ∃ r, f_F_domain (nI (2 ^ j)) (nI m) (nI t) (nI x) (nI y) (nI (2 * w)) (nI (2 * w)) (4 * (w * w)) PA_f (nI (2 * w)) H_side (4 * (w * w)) HA_f V_left V_top V_start V_stepAcross V_stepDown = some (.inr r) ∧ r.1 = nI (hlf p (2 * w) (dcell w (domL w h m) (domT w h m) (2 * h - 1) t x y)) := by
                  unfold f_F_domain
                  rw [h1, Option.bind_some, if_neg (by decide), hv, if_pos g1, if_neg t0, if_pos t8, if_neg d0, hdF, Option.bind_some, if_pos d1, if_neg x0, if_neg x1, if_neg y0, if_pos y1, hhF, Option.bind_some, hh]
                  dsimp only
                  rw [aim, Option.bind_some]
                  dsimp only
                  rw [sam, Option.bind_some]
                  exact ⟨_, rfl, (by dsimp only; exact wr_lt cell)⟩
                have hM : ∃ u, f_M_domain (nI (2 ^ j)) (nI m) (nI t) (nI x) (nI y) X_code (nI (2 * w)) 1024 Xpicture_f 256 Xhalf_f 256 Xds_f = some u ∧ u.1 = nI (hlf p (2 * w) (dcell w (domL w h m) (domT w h m) (2 * h - 1) t x y)) ∧ u.2.1 = 0 := by
                  refine ⟨(wr Xds_f (fun k => nI (dmn (hlf p (2 * w)) w h m t k)) (2 * h * (2 * h)) (y * (2 * h) + x), 0, wr Xhalf_f (fun k => nI (hlf p (2 * w) k)) (w * w), wr Xds_f (fun k => nI (dmn (hlf p (2 * w)) w h m t k)) (2 * h * (2 * h))), M0 _ ?_, ?_, rfl⟩
                  · rw [J0, i2, Option.bind_some, if_neg (by decide), i4, Option.bind_some, if_neg (by decide), i5, Option.bind_some, if_neg (by decide)]
                    unfold f_M_domain_J106
                    rw [if_pos (by decide), hhM, Option.bind_some, ei, cl, hh, lay, Option.bind_some, if_neg ii]
                  · dsimp only
                    rw [wr_lt hyx]
                    unfold dmn
                    rw [ri1, ri2]
                obtain ⟨r, r1, r2⟩ := hF
                obtain ⟨u, u1, u2, u3⟩ := hM
                unfold f_LW_11 f_M_thrown f_L_domain
                rw [r1, Option.bind_some, Sum.elim_inr, if_neg io1, Option.bind_some, u1, Option.bind_some, Option.bind_some]
                exact ⟨_, law_ok u3 (fun _ => by (try dsimp only); rw [updL0, r2, u2])⟩
              · have i5 := l_in_F hy (show 2 ^ j < 2147483648 by omega)
                refine finB 1 2 (Or.inr ⟨rfl, rfl⟩) ?_ (M0 _ ?_)
                · unfold f_F_domain
                  rw [h1, Option.bind_some, if_neg (by decide), hv, if_pos g1, if_neg t0, if_pos t8, if_neg d0, hdF, Option.bind_some, if_pos d1, if_neg x0, if_neg x1]
                  rcases nat_below hy (by omega) with z | ⟨z1, z2, _⟩
                  · rw [if_pos z]
                  · rw [if_neg z1, if_neg z2]
                · rw [J0, i2, Option.bind_some, if_neg (by decide), i4, Option.bind_some, if_neg (by decide), i5, Option.bind_some, if_pos rfl]
                  exact J2 _ _ _ _ _ _ _
            · have i4 := l_in_F hx (show 2 ^ j < 2147483648 by omega)
              refine finB 1 2 (Or.inr ⟨rfl, rfl⟩) ?_ (M0 _ ?_)
              · unfold f_F_domain
                rw [h1, Option.bind_some, if_neg (by decide), hv, if_pos g1, if_neg t0, if_pos t8, if_neg d0, hdF, Option.bind_some, if_pos d1]
                rcases nat_below hx (by omega) with z | ⟨z1, _, z3⟩
                · rw [if_pos z]
                · rw [if_neg z1, if_pos z3]
              · rw [J0, i2, Option.bind_some, if_neg (by decide), i4, Option.bind_some, if_pos rfl]
                exact J2 _ _ _ _ _ _ _
          · have i2 := l_in_F hd (show dac w h * dac w h < 2147483648 by omega)
            refine finB 1 2 (Or.inr ⟨rfl, rfl⟩) ?_ (M0 _ ?_)
            · unfold f_F_domain
              rw [h1, Option.bind_some, if_neg (by decide), hv, if_pos g1, if_neg t0, if_pos t8]
              rcases nat_below hd (by omega) with z | ⟨z1, z2, _⟩
              · rw [if_pos z]
              · rw [if_neg z1, hdF, Option.bind_some, if_neg z2]
            · rw [J0, i2, Option.bind_some, if_pos rfl]
              exact J2 _ _ _ _ _ _ _
        · have i3 : f_M_in a3.toInt64 0 7 = some 0 := by rw [L7]; exact l_in_F ht (by omega)
          refine finB 2 1 (Or.inl ⟨rfl, rfl⟩) ?_ ?_
          · unfold f_F_domain
            rw [h1, Option.bind_some, if_neg (by decide), hv, if_pos g1]
            rcases nat_below ht (by omega) with z | ⟨z1, z2, _⟩
            · rw [if_pos z]
            · rw [if_neg z1, n8, if_neg z2]
          · unfold f_M_domain
            rw [h2, Option.bind_some, if_neg (by decide), if_neg g2, i3, Option.bind_some, if_pos rfl]
            exact J1 _ _ _ _ _
      · have g1 : ¬ nI (2 ^ j) ≤ nI w := by rw [nJ_leF (by omega) (by omega)]; exact not_false
        have g2 : nI (2 * w) < 2 * nI (2 ^ j) := by rw [n2, nJ_mul, nJ_ltT (by omega) (by omega)]; exact trivial
        refine finB 2 1 (Or.inl ⟨rfl, rfl⟩) ?_ ?_
        · unfold f_F_domain
          rw [h1, Option.bind_some, if_neg (by decide), hv, if_neg g1]
        · unfold f_M_domain
          rw [h2, Option.bind_some, if_neg (by decide), if_pos g2]
          exact J1 _ _ _ _ _
  obtain ⟨r, hr⟩ := goal
  exact ⟨r, hr, p, D, q, e, N, g, hA0, ⟨c1, c2, c3, c4, c5, c6, c7⟩, m1, m2, m3, m4, m5, m6⟩
