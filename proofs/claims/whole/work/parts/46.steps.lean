/-! one call on both sides -/
def AOk (w d : Nat) (p : Nat → Nat) (D : Nat) (q : Nat → Nat) (e : ES) (N : Nat) : Prop := w = 2 * 2 ^ d ∧ w ≤ 16 ∧ (∀ k, k < 2 * w * (2 * w) → p k ≤ 255) ∧ (D = 0 ∨ D = 2 * w ∨ D = 2 * (w * 2)) ∧ (∀ j, q j ≤ 255) ∧ e.1 ≤ w * w ∧ okF w e.2.1 e.1 ∧ e.2.2.1 ≤ 3 + 26 * (w * w) ∧ N ≤ 2000
/-- what the class's cells and the reference's cells have in common -/
def RX (w d : Nat) (P_side : Int32) (PA_f : Nat → Int32) (N_side : Int32) (NA_f : Nat → Int32) (S_tried K_count : Int32) (KA_f : Nat → Int32) (C_filled : Int32) (CA_f : Nat → Int32) (I_filled : Int32) (IA_f : Nat → Int32) (Xpicture_f : Nat → Int32) (X_many : Int32) (Xblocks_f : Nat → Int32) (X_encodedBits : Int32) (Xencoded_f : Nat → Int32) (X_tried X_decoded : Int32) (Xnews_f : Nat → Int32) (X_fedMany : Int32) (Xfed_f : Nat → Int32) : Prop :=
  ∃ (p : Nat → Nat) (D : Nat) (q : Nat → Nat) (e : ES) (N : Nat) (g : Nat → Nat), AOk w d p D q e N ∧
    (P_side = nI (2 * w) ∧ (∀ k, k < 2 * w * (2 * w) → PA_f k = nI (p k)) ∧ N_side = nI D ∧ (∀ j, j < D * D → NA_f j = nI (q j)) ∧ eRep 0 K_count KA_f C_filled CA_f S_tried e ∧ I_filled = nI (8 * N) ∧ fRep IA_f g N) ∧
    ((∀ k, k < 2 * w * (2 * w) → Xpicture_f k = nI (p k)) ∧ eRep 0 X_many Xblocks_f X_encodedBits Xencoded_f X_tried e ∧ X_decoded = nI D ∧ (∀ j, j < D * D → Xnews_f j = nI (q j)) ∧ X_fedMany = nI N ∧ fRep Xfed_f g N)
theorem sq_eq (w : Nat) : 2 * w * (2 * w) = 4 * (w * w) := by rw [Nat.mul_mul_mul_comm]
theorem ww_le {w : Nat} (h : w ≤ 16) : w * w ≤ 256 := Nat.mul_le_mul h h
theorem byte_case (x : Int32) : (∃ v : Nat, v ≤ 255 ∧ x = nI v ∧ f_M_in x.toInt64 0 255 = some 1 ∧ ¬ x < 0 ∧ x ≤ 255) ∨ (f_M_in x.toInt64 0 255 = some 0 ∧ (x < 0 ∨ ¬ x ≤ 255)) := by
  rcases nJ_case x with h | ⟨n, hn, rfl⟩
  · right
    refine ⟨?_, Or.inl h⟩
    rw [L255]
    exact l_in_F (fun ⟨a, ha, e⟩ => by rw [e, n0, nJ_ltF (by omega) (by omega)] at h; exact h) (by omega)
  · by_cases c : n ≤ 255
    · left
      refine ⟨n, c, rfl, by rw [L255]; exact l_in_T (by omega) (by omega), ?_, ?_⟩
      · rw [n0, nJ_ltF (by omega) (by omega)]; exact not_false
      · rw [n255, nJ_leT c (by omega)]; exact trivial
    · right
      refine ⟨?_, Or.inr ?_⟩
      · rw [L255]
        exact l_in_F (fun ⟨a, ha, e⟩ => by have := nJ_inj e hn (by omega); omega) (by omega)
      · rw [n255, nJ_leF (by omega) hn]; exact not_false
theorem ps_0 {w d : Nat} {P_side : Int32} {PA_f : Nat → Int32} {X_code : Int32} {Xpicture_f : Nat → Int32} {OUT_f : Nat → Int64} {N_side : Int32} {NA_f : Nat → Int32} {S_tried : Int32} {K_count : Int32} {KA_f : Nat → Int32} {C_filled : Int32} {CA_f : Nat → Int32} {I_filled : Int32} {IA_f : Nat → Int32} {X_many : Int32} {Xblocks_f : Nat → Int32} {X_encodedBits : Int32} {Xencoded_f : Nat → Int32} {X_tried : Int32} {X_decoded : Int32} {Xnews_f : Nat → Int32} {X_fedMany : Int32} {Xfed_f : Nat → Int32} (h : RX w d P_side PA_f N_side NA_f S_tried K_count KA_f C_filled CA_f I_filled IA_f Xpicture_f X_many Xblocks_f X_encodedBits Xencoded_f X_tried X_decoded Xnews_f X_fedMany Xfed_f) (a1 a2 a3 : Int32) :
    ∃ r, f_LW_0 a1 a2 a3 P_side (4 * (w * w)) PA_f X_code (nI (2 * w)) 1024 Xpicture_f 1 OUT_f = some r ∧ RX w d P_side r.1 N_side NA_f S_tried K_count KA_f C_filled CA_f I_filled IA_f r.2.2.1 X_many Xblocks_f X_encodedBits Xencoded_f X_tried X_decoded Xnews_f X_fedMany Xfed_f := by
  obtain ⟨p, D, q, e, N, g, hA, ⟨c1, c2, c3, c4, c5, c6, c7⟩, m1, m2, m3, m4, m5, m6⟩ := h
  have hA0 := hA
  obtain ⟨k1, k2, k3, _⟩ := hA
  have hww := ww_le k2
  have hsq := sq_eq w
  subst c1
  by_cases hp : ∃ a b : Nat, a < 2 * w ∧ b < 2 * w ∧ a1 = nI a ∧ a2 = nI b
  · obtain ⟨a, b, ha, hb, rfl, rfl⟩ := hp
    have hi : b * (2 * w) + a < 2 * w * (2 * w) := ix ha hb
    rcases byte_case a3 with ⟨v, hv, rfl, hin, g1, g2⟩ | ⟨hin, g1⟩
    · have hF : f_F_put (nI a) (nI b) (nI v) (nI (2 * w)) (4 * (w * w)) PA_f = some (.inr (PA_f (b * (2 * w) + a), upd PA_f (b * (2 * w) + a) (nI v))) := by
        unfold f_F_put
        rw [l_G_has (by omega) ha hb, Option.bind_some, if_neg (by decide), if_neg g1, if_pos g2, l_G_sample (by omega) ha hb (by omega), Option.bind_some, l_G_set (by omega) ha hb (by omega)]
        rfl
      have hL : f_L_put (nI a) (nI b) (nI v) (nI (2 * w)) (4 * (w * w)) PA_f 1 OUT_f = some (0, upd PA_f (b * (2 * w) + a) (nI v), vp_updL OUT_f (0 : Int32).toNatClampNeg (PA_f (b * (2 * w) + a)).toInt64) := by
        unfold f_L_put
        rw [hF, Option.bind_some, Sum.elim_inr, if_neg io1]
      have ei : nI (2 * w) * nI b + nI a = nI (b * (2 * w) + a) := by rw [nJ_mul, nJ_add, Nat.mul_comm]
      have cl : (nI (b * (2 * w) + a)).toNatClampNeg = b * (2 * w) + a := nJ_clamp (by omega)
      have ii : ¬ (nI (b * (2 * w) + a) < 0 ∨ 1024 ≤ b * (2 * w) + a) := by rw [n0, nJ_ltF (by omega) (by omega), false_or]; omega
      have hM : f_M_put (nI a) (nI b) (nI v) X_code (nI (2 * w)) 1024 Xpicture_f = some (Xpicture_f (b * (2 * w) + a), 0, upd Xpicture_f (b * (2 * w) + a) (nI v)) := by
        unfold f_M_put
        rw [l_isPlace_T (by omega) ha hb, Option.bind_some, if_neg (by decide), hin, Option.bind_some, if_neg (by decide), if_pos (by decide), ei, cl, if_neg ii, if_neg ii]
      refine ⟨(upd PA_f (b * (2 * w) + a) (nI v), 0, upd Xpicture_f (b * (2 * w) + a) (nI v), vp_updL OUT_f (0 : Int32).toNatClampNeg (PA_f (b * (2 * w) + a)).toInt64), ?_, fun k => if k = b * (2 * w) + a then v else p k, D, q, e, N, g, ⟨k1, k2, fun k hk => ?_, hA0.2.2.2⟩, ⟨rfl, fun k hk => ?_, c3, c4, c5, c6, c7⟩, fun k hk => ?_, m2, m3, m4, m5, m6⟩
      · unfold f_LW_0 f_M_thrown
        rw [hL, Option.bind_some, hM, Option.bind_some, Option.bind_some]
        exact law_ok rfl (fun _ => by (try dsimp only); rw [updL0, c2 _ hi, m1 _ hi])
      · dsimp only; split
        · exact hv
        · exact k3 k hk
      · dsimp only; split
        · rename_i h; rw [updT h]
        · rename_i h; rw [updF h]; exact c2 k hk
      · dsimp only; split
        · rename_i h; rw [updT h]
        · rename_i h; rw [updF h]; exact m1 k hk
    · have hF : f_F_put (nI a) (nI b) a3 (nI (2 * w)) (4 * (w * w)) PA_f = some (.inl 2) := by
        unfold f_F_put
        rw [l_G_has (by omega) ha hb, Option.bind_some, if_neg (by decide)]
        by_cases z : a3 < 0
        · rw [if_pos z]
        · rw [if_neg z, if_neg (g1.resolve_left z)]
      have hL : f_L_put (nI a) (nI b) a3 (nI (2 * w)) (4 * (w * w)) PA_f 1 OUT_f = some (2, PA_f, OUT_f) := by
        unfold f_L_put
        rw [hF]; rfl
      have hM : f_M_put (nI a) (nI b) a3 X_code (nI (2 * w)) 1024 Xpicture_f = some (0, 2, Xpicture_f) := by
        unfold f_M_put
        rw [l_isPlace_T (by omega) ha hb, Option.bind_some, if_neg (by decide), hin, Option.bind_some, if_pos rfl, if_neg (by decide)]
      refine ⟨(PA_f, 2, Xpicture_f, OUT_f), ?_, p, D, q, e, N, g, hA0, ⟨rfl, c2, c3, c4, c5, c6, c7⟩, m1, m2, m3, m4, m5, m6⟩
      unfold f_LW_0 f_M_thrown
      rw [hL, Option.bind_some, hM, Option.bind_some, Option.bind_some]
      exact law_ok rfl (fun h => by first | exact absurd h c1_ne | exact absurd h c2_ne)
  · have hF : f_F_put a1 a2 a3 (nI (2 * w)) (4 * (w * w)) PA_f = some (.inl 1) := by
      unfold f_F_put
      rw [l_G_hasnt (by omega) hp, Option.bind_some, if_pos rfl]
    have hL : f_L_put a1 a2 a3 (nI (2 * w)) (4 * (w * w)) PA_f 1 OUT_f = some (1, PA_f, OUT_f) := by
      unfold f_L_put
      rw [hF]; rfl
    have hM : f_M_put a1 a2 a3 X_code (nI (2 * w)) 1024 Xpicture_f = some (0, 1, Xpicture_f) := by
      unfold f_M_put
      rw [l_isPlace_F (by omega) hp, Option.bind_some, if_pos rfl, if_neg (by decide)]
    refine ⟨(PA_f, 1, Xpicture_f, OUT_f), ?_, p, D, q, e, N, g, hA0, ⟨rfl, c2, c3, c4, c5, c6, c7⟩, m1, m2, m3, m4, m5, m6⟩
    unfold f_LW_0 f_M_thrown
    rw [hL, Option.bind_some, hM, Option.bind_some, Option.bind_some]
    exact law_ok rfl (fun h => by first | exact absurd h c1_ne | exact absurd h c2_ne)
theorem ps_1 {w d : Nat} {P_side : Int32} {PA_f : Nat → Int32} {X_code : Int32} {Xpicture_f : Nat → Int32} {N_side : Int32} {NA_f : Nat → Int32} {S_tried : Int32} {K_count : Int32} {KA_f : Nat → Int32} {C_filled : Int32} {CA_f : Nat → Int32} {I_filled : Int32} {IA_f : Nat → Int32} {X_many : Int32} {Xblocks_f : Nat → Int32} {X_encodedBits : Int32} {Xencoded_f : Nat → Int32} {X_tried : Int32} {X_decoded : Int32} {Xnews_f : Nat → Int32} {X_fedMany : Int32} {Xfed_f : Nat → Int32} (h : RX w d P_side PA_f N_side NA_f S_tried K_count KA_f C_filled CA_f I_filled IA_f Xpicture_f X_many Xblocks_f X_encodedBits Xencoded_f X_tried X_decoded Xnews_f X_fedMany Xfed_f) (a1 a2 a3 : Int32) :
    ∃ r, f_LW_1 a1 a2 a3 (nI (2 * w)) P_side (4 * (w * w)) PA_f X_code (nI (2 * w)) 1024 Xpicture_f = some r ∧ RX w d P_side r.1 N_side NA_f S_tried K_count KA_f C_filled CA_f I_filled IA_f r.2.2 X_many Xblocks_f X_encodedBits Xencoded_f X_tried X_decoded Xnews_f X_fedMany Xfed_f := by
  obtain ⟨p, D, q, e, N, g, hA, ⟨c1, c2, c3, c4, c5, c6, c7⟩, m1, m2, m3, m4, m5, m6⟩ := h
  have hA0 := hA
  obtain ⟨k1, k2, k3, _⟩ := hA
  have hww := ww_le k2
  have hsq := sq_eq w
  have t1 := two_pos' d
  subst c1
  have hF := l_F_paint (s := 2 * w) (n := 4 * (w * w)) (x1 := a1) (x2 := a2) (x3 := a3) (by omega) (by omega) c2 k3
  have hM := l_M_paint (s := 2 * w) (n := 1024) (x1 := a1) (x2 := a2) (x3 := a3) (by omega) (by omega) (by omega) m1 k3
  refine ⟨(wr PA_f (fun k => nI (pv a1.toInt a2.toInt a3.toInt (2 * w) k)) (2 * w * (2 * w)), 0, wr Xpicture_f (fun k => nI (pv a1.toInt a2.toInt a3.toInt (2 * w) k)) (2 * w * (2 * w))), ?_, pv a1.toInt a2.toInt a3.toInt (2 * w), D, q, e, N, g, ⟨k1, k2, fun k hk => pv_le, hA0.2.2.2⟩, ⟨rfl, fun k hk => (by dsimp only; exact wr_lt hk), c3, c4, c5, c6, c7⟩, fun k hk => (by dsimp only; exact wr_lt hk), m2, m3, m4, m5, m6⟩
  unfold f_LW_1
  rw [hF, Option.bind_some, hM, Option.bind_some, if_pos rfl]
theorem ps_2 {w d : Nat} {P_side : Int32} {PA_f : Nat → Int32} {H_side : Int32} {HA_f : Nat → Int32} {V_left : Int32} {V_top : Int32} {V_start : Int32} {V_stepAcross : Int32} {V_stepDown : Int32} {S_tried : Int32} {S_size : Int32} {S_count : Int32} {S_wantedSum : Int32} {S_foundSum : Int32} {S_foundSquares : Int32} {W_f : Nat → Int32} {D_f : Nat → Int32} {Q_f : Nat → Int32} {R_f : Nat → Int32} {E_domain : Int32} {E_turn : Int32} {E_contrast : Int32} {E_offset : Int32} {E_error : Int32} {K_count : Int32} {KA_f : Nat → Int32} {C_filled : Int32} {C_taken : Int32} {CA_f : Nat → Int32} {X_code : Int32} {X_many : Int32} {X_found : Int32} {X_encodedBits : Int32} {X_tried : Int32} {X_waiting : Int32} {X_bestError : Int64} {Xpicture_f : Nat → Int32} {Xhalf_f : Nat → Int32} {Xblocks_f : Nat → Int32} {Xencoded_f : Nat → Int32} {Xpile_f : Nat → Int32} {Xds_f : Nat → Int32} {Xrs_f : Nat → Int32} {Xbest_f : Nat → Int32} {OUT_f : Nat → Int64} {N_side : Int32} {NA_f : Nat → Int32} {I_filled : Int32} {IA_f : Nat → Int32} {X_decoded : Int32} {Xnews_f : Nat → Int32} {X_fedMany : Int32} {Xfed_f : Nat → Int32} (h : RX w d P_side PA_f N_side NA_f S_tried K_count KA_f C_filled CA_f I_filled IA_f Xpicture_f X_many Xblocks_f X_encodedBits Xencoded_f X_tried X_decoded Xnews_f X_fedMany Xfed_f) (a1 a2 : Int32) :
    ∃ r, f_LW_2 a1 a2 (nI (2 * w)) P_side (4 * (w * w)) PA_f (nI (2 * w)) H_side (4 * (w * w)) HA_f V_left V_top V_start V_stepAcross V_stepDown S_tried S_size S_count S_wantedSum S_foundSum S_foundSquares (w * w) W_f (w * w) D_f 4 Q_f 8 R_f E_domain E_turn E_contrast E_offset E_error K_count (8 * (w * w)) KA_f C_filled C_taken (4 * (w * w)) CA_f X_code (nI (2 * w)) X_many X_found X_encodedBits X_tried X_waiting X_bestError 1024 Xpicture_f 256 Xhalf_f 4096 Xblocks_f 2000 Xencoded_f 96 Xpile_f 256 Xds_f 256 Xrs_f 4 Xbest_f 1 OUT_f = some r ∧ RX w d P_side PA_f N_side NA_f r.2.2.2.2.2.2.2.1 r.2.2.2.2.2.2.2.2.2.2.2.2.2.2.2.2.2.2.2.2.2.2.1 r.2.2.2.2.2.2.2.2.2.2.2.2.2.2.2.2.2.2.2.2.2.2.2.1 r.2.2.2.2.2.2.2.2.2.2.2.2.2.2.2.2.2.2.2.2.2.2.2.2.1 r.2.2.2.2.2.2.2.2.2.2.2.2.2.2.2.2.2.2.2.2.2.2.2.2.2.2.1 I_filled IA_f Xpicture_f r.2.2.2.2.2.2.2.2.2.2.2.2.2.2.2.2.2.2.2.2.2.2.2.2.2.2.2.2.1 r.2.2.2.2.2.2.2.2.2.2.2.2.2.2.2.2.2.2.2.2.2.2.2.2.2.2.2.2.2.2.2.2.2.2.2.1 r.2.2.2.2.2.2.2.2.2.2.2.2.2.2.2.2.2.2.2.2.2.2.2.2.2.2.2.2.2.2.1 r.2.2.2.2.2.2.2.2.2.2.2.2.2.2.2.2.2.2.2.2.2.2.2.2.2.2.2.2.2.2.2.2.2.2.2.2.1 r.2.2.2.2.2.2.2.2.2.2.2.2.2.2.2.2.2.2.2.2.2.2.2.2.2.2.2.2.2.2.2.1 X_decoded Xnews_f X_fedMany Xfed_f := by
  obtain ⟨p, D, q, e, N, g, hA, ⟨c1, c2, c3, c4, c5, c6, c7⟩, m1, m2, m3, m4, m5, m6⟩ := h
  have hA0 := hA
  obtain ⟨k1, k2, k3, k4, k5, k6, k7, k8, k9⟩ := hA
  have hww := ww_le k2
  have hsq := sq_eq w
  subst c1
  by_cases hb : ∃ j bd : Nat, 1 ≤ j ∧ j ≤ 4 ∧ 2 ^ j ≤ w ∧ bd < 2147483648 ∧ a1 = nI (2 ^ j) ∧ a2 = nI bd
  · obtain ⟨j, bd, j1, j4, jw, hbd, rfl, rfl⟩ := hb
    obtain ⟨r, r1, r2, r3⟩ := l_F_encode_ok (n := 4 * (w * w)) (f := PA_f) (hn := 4 * (w * w)) (hf := HA_f) (wn := w * w) (dn := w * w) (qn := 4) (rn := 8) (kn := 8 * (w * w)) (cn := 4 * (w * w)) (p := p) (w := w) (d := d) (j := j) (bd := bd) (hs := H_side) (a1 := V_left) (a2 := V_top) (a3 := V_start) (a4 := V_stepAcross) (a5 := V_stepDown) (a6 := S_tried) (a7 := S_size) (a8 := S_count) (a9 := S_wantedSum) (a10 := S_foundSum) (a11 := S_foundSquares) (b1 := E_domain) (b2 := E_turn) (b3 := E_contrast) (b4 := E_offset) (b5 := E_error) (kc := K_count) (cf := C_filled) (W := W_f) (Df := D_f) (Q := Q_f) (R := R_f) (K := KA_f) (C := CA_f) k1 k2 j1 j4 jw hbd (by omega) (by omega) (by omega) (by omega) (by omega) (by omega) (by omega) (by omega) (by omega) rfl rfl c2 k3
    obtain ⟨u, u1, u2, u3, u4⟩ := l_M_encode_ok (n := 1024) (f := Xpicture_f) (hn := 256) (hf := Xhalf_f) (kn := 4096) (cn := 2000) (ln := 96) (dn := 256) (rn := 256) (bn := 4) (p := p) (w := w) (d := d) (j := j) (bd := bd) (cd := X_code) (my := X_many) (fo := X_found) (eb := X_encodedBits) (tr := X_tried) (wt := X_waiting) (be := X_bestError) (K := Xblocks_f) (C := Xencoded_f) (P := Xpile_f) (Ds := Xds_f) (Rs := Xrs_f) (bf := Xbest_f) k1 k2 j1 j4 jw hbd (by omega) (by omega) (by omega) (by omega) (by omega) rfl rfl rfl m1 k3
    have le := encOf_le (p := p) (d := d) (j := j) (bd := bd) k2
    have e4 : w * w = 4 * 4 ^ d := by rw [k1]; exact four_two d
    refine ⟨(r.2.1, r.2.2.1, r.2.2.2.1, r.2.2.2.2.1, r.2.2.2.2.2.1, r.2.2.2.2.2.2.1, r.2.2.2.2.2.2.2.1, r.2.2.2.2.2.2.2.2.1, r.2.2.2.2.2.2.2.2.2.1, r.2.2.2.2.2.2.2.2.2.2.1, r.2.2.2.2.2.2.2.2.2.2.2.1, r.2.2.2.2.2.2.2.2.2.2.2.2.1, r.2.2.2.2.2.2.2.2.2.2.2.2.2.1, r.2.2.2.2.2.2.2.2.2.2.2.2.2.2.1, r.2.2.2.2.2.2.2.2.2.2.2.2.2.2.2.1, r.2.2.2.2.2.2.2.2.2.2.2.2.2.2.2.2.1, r.2.2.2.2.2.2.2.2.2.2.2.2.2.2.2.2.2.1, r.2.2.2.2.2.2.2.2.2.2.2.2.2.2.2.2.2.2.1, r.2.2.2.2.2.2.2.2.2.2.2.2.2.2.2.2.2.2.2.1, r.2.2.2.2.2.2.2.2.2.2.2.2.2.2.2.2.2.2.2.2.1, r.2.2.2.2.2.2.2.2.2.2.2.2.2.2.2.2.2.2.2.2.2.1, r.2.2.2.2.2.2.2.2.2.2.2.2.2.2.2.2.2.2.2.2.2.2.1, r.2.2.2.2.2.2.2.2.2.2.2.2.2.2.2.2.2.2.2.2.2.2.2.1, r.2.2.2.2.2.2.2.2.2.2.2.2.2.2.2.2.2.2.2.2.2.2.2.2.1, r.2.2.2.2.2.2.2.2.2.2.2.2.2.2.2.2.2.2.2.2.2.2.2.2.2.1, r.2.2.2.2.2.2.2.2.2.2.2.2.2.2.2.2.2.2.2.2.2.2.2.2.2.2.1, r.2.2.2.2.2.2.2.2.2.2.2.2.2.2.2.2.2.2.2.2.2.2.2.2.2.2.2, u.2.1, u.2.2.1, u.2.2.2.1, u.2.2.2.2.1, u.2.2.2.2.2.1, u.2.2.2.2.2.2.1, u.2.2.2.2.2.2.2.1, u.2.2.2.2.2.2.2.2.1, u.2.2.2.2.2.2.2.2.2.1, u.2.2.2.2.2.2.2.2.2.2.1, u.2.2.2.2.2.2.2.2.2.2.2.1, u.2.2.2.2.2.2.2.2.2.2.2.2.1, u.2.2.2.2.2.2.2.2.2.2.2.2.2.1, u.2.2.2.2.2.2.2.2.2.2.2.2.2.2, vp_updL OUT_f (0 : Int32).toNatClampNeg r.1.toInt64), ?_, p, D, q, encOf p w d j bd, N, g, ⟨k1, k2, k3, k4, k5, by omega, encOf_ok k2 k1 k3, by omega, k9⟩, ⟨rfl, c2, c3, c4, r3, c6, c7⟩, m1, u4, m3, m4, m5, m6⟩
    unfold f_LW_2 f_M_thrown f_L_encode
    rw [r1, Option.bind_some, Sum.elim_inr, if_neg io1, Option.bind_some, u1, Option.bind_some, Option.bind_some]
    exact law_ok u3 (fun _ => by (try dsimp only); rw [updL0, r2, u2])
  · have hF := l_F_encode_bad (n := 4 * (w * w)) (f := PA_f) (hn := 4 * (w * w)) (hf := HA_f) (wn := w * w) (dn := w * w) (qn := 4) (rn := 8) (kn := 8 * (w * w)) (cn := 4 * (w * w)) (hm := nI (2 * w)) (hs := H_side) (a1 := V_left) (a2 := V_top) (a3 := V_start) (a4 := V_stepAcross) (a5 := V_stepDown) (a6 := S_tried) (a7 := S_size) (a8 := S_count) (a9 := S_wantedSum) (a10 := S_foundSum) (a11 := S_foundSquares) (b1 := E_domain) (b2 := E_turn) (b3 := E_contrast) (b4 := E_offset) (b5 := E_error) (kc := K_count) (cf := C_filled) (W := W_f) (Df := D_f) (Q := Q_f) (R := R_f) (K := KA_f) (C := CA_f) k2 hb
    have hM := l_M_encode_bad (n := 1024) (f := Xpicture_f) (hn := 256) (hf := Xhalf_f) (kn := 4096) (cn := 2000) (ln := 96) (dn := 256) (rn := 256) (bn := 4) (cd := X_code) (my := X_many) (fo := X_found) (eb := X_encodedBits) (tr := X_tried) (wt := X_waiting) (be := X_bestError) (K := Xblocks_f) (C := Xencoded_f) (P := Xpile_f) (Ds := Xds_f) (Rs := Xrs_f) (bf := Xbest_f) k2 hb
    refine ⟨(H_side, HA_f, V_left, V_top, V_start, V_stepAcross, V_stepDown, S_tried, S_size, S_count, S_wantedSum, S_foundSum, S_foundSquares, W_f, D_f, Q_f, R_f, E_domain, E_turn, E_contrast, E_offset, E_error, K_count, KA_f, C_filled, C_taken, CA_f, 1, X_many, X_found, X_encodedBits, X_tried, X_waiting, X_bestError, Xhalf_f, Xblocks_f, Xencoded_f, Xpile_f, Xds_f, Xrs_f, Xbest_f, OUT_f), ?_, p, D, q, e, N, g, hA0, ⟨rfl, c2, c3, c4, c5, c6, c7⟩, m1, m2, m3, m4, m5, m6⟩
    unfold f_LW_2 f_M_thrown f_L_encode
    rw [hF, Option.bind_some, Sum.elim_inl, if_pos rfl, Option.bind_some, hM, Option.bind_some, Option.bind_some]
    exact law_ok rfl (fun h => by first | exact absurd h c1_ne | exact absurd h c2_ne)
theorem ps_3 {w d : Nat} {K_count : Int32} {KA_f : Nat → Int32} {X_code : Int32} {X_many : Int32} {Xblocks_f : Nat → Int32} {OUT_f : Nat → Int64} {P_side : Int32} {PA_f : Nat → Int32} {N_side : Int32} {NA_f : Nat → Int32} {S_tried : Int32} {C_filled : Int32} {CA_f : Nat → Int32} {I_filled : Int32} {IA_f : Nat → Int32} {Xpicture_f : Nat → Int32} {X_encodedBits : Int32} {Xencoded_f : Nat → Int32} {X_tried : Int32} {X_decoded : Int32} {Xnews_f : Nat → Int32} {X_fedMany : Int32} {Xfed_f : Nat → Int32} (h : RX w d P_side PA_f N_side NA_f S_tried K_count KA_f C_filled CA_f I_filled IA_f Xpicture_f X_many Xblocks_f X_encodedBits Xencoded_f X_tried X_decoded Xnews_f X_fedMany Xfed_f) (a1 a2 : Int32) :
    ∃ r, f_LW_3 a1 a2 K_count (8 * (w * w)) KA_f X_code X_many 4096 Xblocks_f 1 OUT_f = some r ∧ RX w d P_side PA_f N_side NA_f S_tried K_count KA_f C_filled CA_f I_filled IA_f Xpicture_f X_many Xblocks_f X_encodedBits Xencoded_f X_tried X_decoded Xnews_f X_fedMany Xfed_f := by
  obtain ⟨p, D, q, e, N, g, hA, ⟨c1, c2, c3, c4, c5, c6, c7⟩, m1, m2, m3, m4, m5, m6⟩ := h
  have hA0 := hA
  have h5 := c5
  have h2 := m2
  obtain ⟨k1, k2, k3, k4, k5, k6, k7, k8, k9⟩ := hA
  have hww := ww_le k2
  obtain ⟨q1, q2, _⟩ := h5
  obtain ⟨s1, s2, _⟩ := h2
  have fin : ∀ (c : Int32) (v : Int32) (o : Nat → Int64), f_L_block a1 a2 K_count (8 * (w * w)) KA_f 1 OUT_f = some (c, o) → f_M_block a1 a2 X_code X_many 4096 Xblocks_f = some (v, c) → (c = 0 → o (0 : Int32).toNatClampNeg = v.toInt64) → ∃ r, f_LW_3 a1 a2 K_count (8 * (w * w)) KA_f X_code X_many 4096 Xblocks_f 1 OUT_f = some r := by
    intro c v o h1 h2 h3
    refine ⟨(c, o), ?_⟩
    unfold f_LW_3 f_M_thrown
    rw [h1, Option.bind_some, h2, Option.bind_some, Option.bind_some]
    exact law_ok rfl h3
  have goal : ∃ r, f_LW_3 a1 a2 K_count (8 * (w * w)) KA_f X_code X_many 4096 Xblocks_f 1 OUT_f = some r := by
    rw [q1, s1] at *
    by_cases hk : ∃ a : Nat, a < e.1 ∧ a1 = nI a
    · obtain ⟨a, ha, rfl⟩ := hk
      have i1 := l_in_T ha (show e.1 < 2147483648 by omega)
      by_cases hj : ∃ b : Nat, b < 8 ∧ a2 = nI b
      · obtain ⟨b, hb, rfl⟩ := hj
        have i2 : f_M_in (nI b).toInt64 0 7 = some 1 := by rw [L7]; exact l_in_T hb (by omega)
        have kf := l_K_fact (c := e.1) (k := a) (j := b) (kn := 8 * (w * w)) (K := KA_f) ha hb (by omega) (by omega)
        have ei : 8 * nI a + nI b = nI (8 * a + b) := by rw [n8, nJ_mul, nJ_add]
        have cl : (nI (8 * a + b)).toNatClampNeg = 8 * a + b := nJ_clamp (by omega)
        have ii : ¬ (nI (8 * a + b) < 0 ∨ 4096 ≤ 8 * a + b) := by rw [n0, nJ_ltF (by omega) (by omega), false_or]; omega
        have x1 := q2 (8 * a + b) (by omega)
        have x2 := s2 (8 * a + b) (by omega)
        rw [Nat.zero_add] at x1 x2
        refine fin 0 (Xblocks_f (8 * a + b)) (vp_updL OUT_f (0 : Int32).toNatClampNeg (KA_f (8 * a + b)).toInt64) ?_ ?_ (fun _ => by rw [updL0, x1, x2])
        · unfold f_L_block f_F_block
          rw [if_neg (by rw [n0, nJ_ltF (by omega) (by omega)]; exact not_false), if_pos (by rw [nJ_ltT ha (by omega)]; exact trivial), if_neg (by rw [n0, nJ_ltF (by omega) (by omega)]; exact not_false), if_pos (by rw [n8, nJ_ltT hb (by omega)]; exact trivial), kf, Option.bind_some, Option.bind_some, Sum.elim_inr, if_neg io1]
        · unfold f_M_block
          rw [i1, Option.bind_some, if_neg (by decide), i2, Option.bind_some, if_neg (by decide), if_pos (by decide), ei, cl, if_neg ii]
      · have i2 : f_M_in a2.toInt64 0 7 = some 0 := by rw [L7]; exact l_in_F hj (by omega)
        refine fin 2 0 OUT_f ?_ ?_ (fun h => absurd h (by decide))
        · have hF : f_F_block (nI a) a2 (nI e.1) (8 * (w * w)) KA_f = some (.inl 2) := by
            unfold f_F_block
            rw [if_neg (by rw [n0, nJ_ltF (by omega) (by omega)]; exact not_false), if_pos (by rw [nJ_ltT ha (by omega)]; exact trivial)]
            rcases nJ_case a2 with z | ⟨n, hn, rfl⟩
            · rw [if_pos z]
            · have : ¬ n < 8 := fun z => hj ⟨n, z, rfl⟩
              rw [if_neg (by rw [n0, nJ_ltF (by omega) (by omega)]; exact not_false), if_neg (by rw [n8, nJ_ltF (by omega) hn]; exact not_false)]
          unfold f_L_block
          rw [hF]; rfl
        · unfold f_M_block
          rw [i1, Option.bind_some, if_neg (by decide), i2, Option.bind_some, if_pos rfl, if_neg (by decide)]
    · have i1 := l_in_F hk (show e.1 < 2147483648 by omega)
      refine fin 1 0 OUT_f ?_ ?_ (fun h => absurd h (by decide))
      · have hF : f_F_block a1 a2 (nI e.1) (8 * (w * w)) KA_f = some (.inl 1) := by
          unfold f_F_block
          rcases nJ_case a1 with z | ⟨n, hn, rfl⟩
          · rw [if_pos z]
          · have : ¬ n < e.1 := fun z => hk ⟨n, z, rfl⟩
            rw [if_neg (by rw [n0, nJ_ltF (by omega) (by omega)]; exact not_false), if_neg (by rw [nJ_ltF (by omega) hn]; exact not_false)]
        unfold f_L_block
        rw [hF]; rfl
      · unfold f_M_block
        rw [i1, Option.bind_some, if_pos rfl, if_neg (by decide)]
  obtain ⟨r, hr⟩ := goal
  exact ⟨r, hr, p, D, q, e, N, g, hA0, ⟨c1, c2, c3, c4, c5, c6, c7⟩, m1, m2, m3, m4, m5, m6⟩
theorem ps_4 {w d : Nat} {C_filled : Int32} {CA_f : Nat → Int32} {X_code : Int32} {X_encodedBits : Int32} {Xencoded_f : Nat → Int32} {OUT_f : Nat → Int64} {P_side : Int32} {PA_f : Nat → Int32} {N_side : Int32} {NA_f : Nat → Int32} {S_tried : Int32} {K_count : Int32} {KA_f : Nat → Int32} {I_filled : Int32} {IA_f : Nat → Int32} {Xpicture_f : Nat → Int32} {X_many : Int32} {Xblocks_f : Nat → Int32} {X_tried : Int32} {X_decoded : Int32} {Xnews_f : Nat → Int32} {X_fedMany : Int32} {Xfed_f : Nat → Int32} (h : RX w d P_side PA_f N_side NA_f S_tried K_count KA_f C_filled CA_f I_filled IA_f Xpicture_f X_many Xblocks_f X_encodedBits Xencoded_f X_tried X_decoded Xnews_f X_fedMany Xfed_f) (a1 : Int32) :
    ∃ r, f_LW_4 a1 C_filled (4 * (w * w)) CA_f X_code X_encodedBits 2000 Xencoded_f 1 OUT_f = some r ∧ RX w d P_side PA_f N_side NA_f S_tried K_count KA_f C_filled CA_f I_filled IA_f Xpicture_f X_many Xblocks_f X_encodedBits Xencoded_f X_tried X_decoded Xnews_f X_fedMany Xfed_f := by
  obtain ⟨p, D, q, e, N, g, hA, ⟨c1, c2, c3, c4, c5, c6, c7⟩, m1, m2, m3, m4, m5, m6⟩ := h
  have hA0 := hA
  have h5 := c5
  have h2 := m2
  obtain ⟨k1, k2, k3, k4, k5, k6, k7, k8, k9⟩ := hA
  have hww := ww_le k2
  obtain ⟨_, _, q1, q2, _⟩ := h5
  obtain ⟨_, _, s1, s2, _⟩ := h2
  have goal : ∃ r, f_LW_4 a1 C_filled (4 * (w * w)) CA_f X_code X_encodedBits 2000 Xencoded_f 1 OUT_f = some r := by
    have b1 := l_B_bytes (m := e.2.2.1) (by omega)
    have b2 := l_M_bytes (m := e.2.2.1) (by omega)
    unfold f_LW_4 f_M_thrown f_L_byteAt f_F_byteAt f_M_byteAt
    rw [q1, s1, b1, b2, Option.bind_some, Option.bind_some]
    have hm : (e.2.2.1 + 7) / 8 ≤ 835 := by omega
    have hm2 : (e.2.2.1 + 7) / 8 ≤ 4 * (w * w) := by
      have t1 := two_pos' d
      have : 2 * 2 ≤ w * w := Nat.mul_le_mul (by omega) (by omega)
      omega
    by_cases hk : ∃ a : Nat, a < (e.2.2.1 + 7) / 8 ∧ a1 = nI a
    · obtain ⟨a, ha, rfl⟩ := hk
      have i1 := l_in_T ha (show (e.2.2.1 + 7) / 8 < 2147483648 by omega)
      have cl : (nI a).toNatClampNeg = a := nJ_clamp (by omega)
      have ii : ¬ (nI a < 0 ∨ 2000 ≤ a) := by rw [n0, nJ_ltF (by omega) (by omega), false_or]; omega
      have bo := l_B_byteOf (n := 4 * (w * w)) (i := a) (f := CA_f) (by omega) (by omega)
      rw [if_neg (show ¬ nI a < 0 by rw [n0, nJ_ltF (by omega) (by omega)]; exact not_false), if_pos (show nI a < nI ((e.2.2.1 + 7) / 8) by rw [nJ_ltT ha (by omega)]; exact trivial), bo, Option.bind_some, Option.bind_some, Sum.elim_inr, if_neg io1, Option.bind_some, i1, Option.bind_some, if_neg (show ¬ (1 : Int32) = 0 by decide), if_pos (show (0 : Int32) ≤ 0 by decide), cl, if_neg ii, Option.bind_some, Option.bind_some]
      exact ⟨_, law_ok rfl (fun _ => by (try dsimp only); rw [updL0, q2 a ha, s2 a ha])⟩
    · have i1 := l_in_F hk (show (e.2.2.1 + 7) / 8 < 2147483648 by omega)
      rw [i1, Option.bind_some, if_pos (show (0 : Int32) = 0 from rfl), if_neg (show ¬ (1 : Int32) ≤ 0 by decide)]
      rcases nJ_case a1 with z | ⟨n, hn, rfl⟩
      · rw [if_pos z, Option.bind_some, Sum.elim_inl, if_pos rfl, Option.bind_some, Option.bind_some, Option.bind_some]
        exact ⟨_, law_ok rfl (fun h => by first | exact absurd h c1_ne | exact absurd h c2_ne)⟩
      · have : ¬ n < (e.2.2.1 + 7) / 8 := fun z => hk ⟨n, z, rfl⟩
        rw [if_neg (show ¬ nI n < 0 by rw [n0, nJ_ltF (by omega) (by omega)]; exact not_false), if_neg (show ¬ nI n < nI ((e.2.2.1 + 7) / 8) by rw [nJ_ltF (by omega) hn]; exact not_false), Option.bind_some, Sum.elim_inl, if_pos rfl, Option.bind_some, Option.bind_some, Option.bind_some]
        exact ⟨_, law_ok rfl (fun h => by first | exact absurd h c1_ne | exact absurd h c2_ne)⟩
  obtain ⟨r, hr⟩ := goal
  exact ⟨r, hr, p, D, q, e, N, g, hA0, ⟨c1, c2, c3, c4, c5, c6, c7⟩, m1, m2, m3, m4, m5, m6⟩
