theorem ps_5 {w d : Nat} {I_filled : Int32} {IA_f : Nat → Int32} {X_code : Int32} {X_fedMany : Int32} {Xfed_f : Nat → Int32} {OUT_f : Nat → Int64} {P_side : Int32} {PA_f : Nat → Int32} {N_side : Int32} {NA_f : Nat → Int32} {S_tried : Int32} {K_count : Int32} {KA_f : Nat → Int32} {C_filled : Int32} {CA_f : Nat → Int32} {Xpicture_f : Nat → Int32} {X_many : Int32} {Xblocks_f : Nat → Int32} {X_encodedBits : Int32} {Xencoded_f : Nat → Int32} {X_tried : Int32} {X_decoded : Int32} {Xnews_f : Nat → Int32} (h : RX w d P_side PA_f N_side NA_f S_tried K_count KA_f C_filled CA_f I_filled IA_f Xpicture_f X_many Xblocks_f X_encodedBits Xencoded_f X_tried X_decoded Xnews_f X_fedMany Xfed_f) (a1 : Int32) :
    ∃ r, f_LW_5 a1 I_filled 2000 IA_f X_code X_fedMany 2000 Xfed_f 1 OUT_f = some r ∧ RX w d P_side PA_f N_side NA_f S_tried K_count KA_f C_filled CA_f r.1 r.2.1 Xpicture_f X_many Xblocks_f X_encodedBits Xencoded_f X_tried X_decoded Xnews_f r.2.2.2.1 r.2.2.2.2.1 := by
  obtain ⟨p, D, q, e, N, g, hA, ⟨c1, c2, c3, c4, c5, c6, c7⟩, m1, m2, m3, m4, m5, m6⟩ := h
  have hA0 := hA
  obtain ⟨k1, k2, k3, k4, k5, k6, k7, k8, k9⟩ := hA
  subst c6; subst m5
  have b1 : f_B_bytes (nI (8 * N)) = some (nI N) := by rw [l_B_bytes (by omega)]; congr 2; omega
  rcases byte_case a1 with ⟨v, hv, rfl, hin, g1, g2⟩ | ⟨hin, g1⟩
  · by_cases hN : N = 2000
    · subst hN
      refine ⟨(nI (8 * 2000), IA_f, 2, nI 2000, Xfed_f, OUT_f), ?_, p, D, q, e, 2000, g, hA0, ⟨c1, c2, c3, c4, c5, rfl, c7⟩, m1, m2, m3, m4, rfl, m6⟩
      unfold f_LW_5 f_M_thrown f_L_feed f_F_feed f_M_feed
      rw [if_neg g1, if_pos g2, b1, Option.bind_some, if_neg (show ¬ nI 2000 < 2000 by decide), Option.bind_some, Sum.elim_inl, if_neg (by decide), if_pos rfl, Option.bind_some, hin, Option.bind_some, if_neg (by decide), if_pos (show nI 2000 = 2000 from rfl), if_neg (by decide), Option.bind_some, Option.bind_some]
      exact law_ok rfl (fun h => by first | exact absurd h c1_ne | exact absurd h c2_ne)
    · obtain ⟨f', a1, a2⟩ := l_append8 (n := 2000) c7 hv (by omega) (by omega)
      have b2 : f_B_bytes (nI (8 * (N + 1))) = some (nI (N + 1)) := by rw [l_B_bytes (by omega)]; congr 2; omega
      have cl : (nI N).toNatClampNeg = N := nJ_clamp (by omega)
      have ii : ¬ (nI N < 0 ∨ 2000 ≤ N) := by rw [n0, nJ_ltF (by omega) (by omega), false_or]; omega
      refine ⟨(nI (8 * (N + 1)), f', 0, nI (N + 1), upd Xfed_f N (nI v), vp_updL OUT_f (0 : Int32).toNatClampNeg (nI (N + 1)).toInt64), ?_, p, D, q, e, N + 1, fun i => if i = N then v else g i, ⟨k1, k2, k3, k4, k5, k6, k7, k8, by omega⟩, ⟨c1, c2, c3, c4, c5, rfl, a2⟩, m1, m2, m3, m4, rfl, fRep_upd m6 hv⟩
      unfold f_LW_5 f_M_thrown f_L_feed f_F_feed f_M_feed
      rw [if_neg g1, if_pos g2, b1, Option.bind_some, if_pos (show nI N < 2000 by rw [n2000, nJ_ltT (by omega) (by omega)]; exact trivial), a1, Option.bind_some, b2, Option.bind_some, Option.bind_some, Sum.elim_inr, if_neg io1, Option.bind_some, hin, Option.bind_some, if_neg (show ¬ (1 : Int32) = 0 by decide), if_neg (show ¬ nI N = 2000 by rw [n2000, nJ_eqF hN (by omega) (by omega)]; exact not_false), if_pos (show (0 : Int32) ≤ 0 by decide), cl, if_neg ii, n1, nJ_add, Option.bind_some, Option.bind_some]
      exact law_ok rfl (fun _ => by (try dsimp only); rw [updL0])
  · refine ⟨(nI (8 * N), IA_f, 1, nI N, Xfed_f, OUT_f), ?_, p, D, q, e, N, g, hA0, ⟨c1, c2, c3, c4, c5, rfl, c7⟩, m1, m2, m3, m4, rfl, m6⟩
    have hF : f_F_feed a1 (nI (8 * N)) 2000 IA_f = some (.inl 2) := by
      unfold f_F_feed
      by_cases z : a1 < 0
      · rw [if_pos z]
      · rw [if_neg z, if_neg (g1.resolve_left z)]
    unfold f_LW_5 f_M_thrown f_L_feed f_M_feed
    rw [hF, Option.bind_some, Sum.elim_inl, if_pos rfl, Option.bind_some, hin, Option.bind_some, if_pos rfl, if_neg (by decide), Option.bind_some, Option.bind_some]
    exact law_ok rfl (fun h => by first | exact absurd h c1_ne | exact absurd h c2_ne)
/-- bytes appended one by one -/
def psG (b g : Nat → Nat) (N : Nat) : Nat → (Nat → Nat)
  | 0 => g
  | k + 1 => fun i => if i = N + k then b k else psG b g N k i
theorem ps_6 {w d : Nat} {C_filled : Int32} {CA_f : Nat → Int32} {I_filled : Int32} {IA_f : Nat → Int32} {X_code : Int32} {X_encodedBits : Int32} {X_fedMany : Int32} {Xencoded_f : Nat → Int32} {Xfed_f : Nat → Int32} {OUT_f : Nat → Int64} {P_side : Int32} {PA_f : Nat → Int32} {N_side : Int32} {NA_f : Nat → Int32} {S_tried : Int32} {K_count : Int32} {KA_f : Nat → Int32} {Xpicture_f : Nat → Int32} {X_many : Int32} {Xblocks_f : Nat → Int32} {X_tried : Int32} {X_decoded : Int32} {Xnews_f : Nat → Int32} (h : RX w d P_side PA_f N_side NA_f S_tried K_count KA_f C_filled CA_f I_filled IA_f Xpicture_f X_many Xblocks_f X_encodedBits Xencoded_f X_tried X_decoded Xnews_f X_fedMany Xfed_f) :
    ∃ r, f_LW_6 C_filled (4 * (w * w)) CA_f I_filled 2000 IA_f X_code X_encodedBits X_fedMany 2000 Xencoded_f 2000 Xfed_f 1 OUT_f = some r ∧ RX w d P_side PA_f N_side NA_f S_tried K_count KA_f C_filled CA_f r.1 r.2.1 Xpicture_f X_many Xblocks_f X_encodedBits Xencoded_f X_tried X_decoded Xnews_f r.2.2.2.1 r.2.2.2.2.1 := by
  obtain ⟨p, D, q, e, N, g, hA, ⟨c1, c2, c3, c4, c5, c6, c7⟩, m1, m2, m3, m4, m5, m6⟩ := h
  have hA0 := hA
  have h5 := c5
  have h2 := m2
  obtain ⟨k1, k2, k3, k4, k5, k6, k7, k8, k9⟩ := hA
  have hww := ww_le k2
  obtain ⟨_, _, q1, q2, q3, _⟩ := h5
  obtain ⟨_, _, s1, s2, _⟩ := h2
  rw [c6, m5, q1, s1]
  have b1 : f_B_bytes (nI (8 * N)) = some (nI N) := by rw [l_B_bytes (by omega)]; congr 2; omega
  have b2 := l_B_bytes (m := e.2.2.1) (by omega)
  have b3 := l_M_bytes (m := e.2.2.1) (by omega)
  have hm : (e.2.2.1 + 7) / 8 ≤ 835 := by omega
  have hm2 : (e.2.2.1 + 7) / 8 ≤ 4 * (w * w) := by
    have t1 := two_pos' d
    have : 2 * 2 ≤ w * w := Nat.mul_le_mul (by omega) (by omega)
    omega
  have hq3 := q3.1
  generalize hM : (e.2.2.1 + 7) / 8 = M at b2 b3 hm hm2 hq3 q2 s2
  have q2' : ∀ i, i < M → CA_f i = nI (e.2.2.2.1 i) := fun i hi => q2 i (by omega)
  have s2' : ∀ i, i < M → Xencoded_f i = nI (e.2.2.2.1 i) := fun i hi => s2 i (by omega)
  by_cases hN : N + M ≤ 2000
  · have keyC := lp_inv (L := fun n' (a : Int32 × (Nat → Int32)) v => f_F_pass_35 (nI M) (4 * (w * w)) CA_f 2000 n' (nI v) a.1 a.2)
      (I := fun v a => a.1 = nI (8 * (N + v)) ∧ fRep a.2 (psG e.2.2.2.1 g N v) (N + v)) (F := fun r => r.2.1 = nI (8 * (N + M)) ∧ fRep r.2.2 (psG e.2.2.2.1 g N M) (N + M)) (b := M)
      (fun n' a ha => by
        refine ⟨(nI M, a.1, a.2), ?_, ha⟩
        show f_F_pass_35 _ _ _ _ (n' + 1) _ _ _ = _
        rw [f_F_pass_35, if_pos (by rw [nJ_leT (Nat.le_refl _) (by omega)]; exact trivial)])
      (fun n' a v hv ha => by
        obtain ⟨f', x1, x2⟩ := l_append8 (n := 2000) (v := e.2.2.2.1 v) ha.2 (hq3 v hv) (by omega) (by omega)
        refine ⟨(nI (8 * (N + v + 1)), f'), ?_, rfl, x2⟩
        show f_F_pass_35 _ _ _ _ (n' + 1) _ _ _ = f_F_pass_35 _ _ _ _ n' _ _ _
        rw [f_F_pass_35, if_neg (by rw [nJ_leF hv (by omega)]; exact not_false), l_B_byteOf (by omega) (by omega), Option.bind_some, q2' v hv, ha.1, x1, Option.bind_some, n1, nJ_add])
      FU 0 (nI (8 * N), IA_f) (Nat.zero_le _) (fu (by omega)) ⟨rfl, c7⟩
    have keyM := lp_inv (L := fun n' (a : Int32 × (Nat → Int32)) v => f_M_pass_26 0 (nI e.2.2.1) 2000 Xencoded_f 2000 n' (nI v) a.1 a.2)
      (I := fun v a => a.1 = nI (N + v) ∧ fRep a.2 (psG e.2.2.2.1 g N v) (N + v)) (F := fun r => r.2.1 = nI (N + M) ∧ fRep r.2.2 (psG e.2.2.2.1 g N M) (N + M)) (b := M)
      (fun n' a ha => by
        refine ⟨(nI M, a.1, a.2), ?_, ha⟩
        show f_M_pass_26 _ _ _ _ _ (n' + 1) _ _ _ = _
        rw [f_M_pass_26, b3, Option.bind_some, if_pos (by rw [nJ_leT (Nat.le_refl _) (by omega)]; exact trivial)])
      (fun n' a v hv ha => by
        refine ⟨(nI (N + v + 1), upd a.2 (N + v) (nI (e.2.2.2.1 v))), ?_, rfl, fRep_upd ha.2 (hq3 v hv)⟩
        have cl : (nI v).toNatClampNeg = v := nJ_clamp (by omega)
        have cl2 : (nI (N + v)).toNatClampNeg = N + v := nJ_clamp (by omega)
        show f_M_pass_26 _ _ _ _ _ (n' + 1) _ _ _ = f_M_pass_26 _ _ _ _ _ n' _ _ _
        rw [f_M_pass_26, b3, Option.bind_some, if_neg (by rw [nJ_leF hv (by omega)]; exact not_false), if_pos rfl, cl, if_neg (by rw [n0, nJ_ltF (by omega) (by omega), false_or]; omega), ha.1, cl2, if_neg (by rw [n0, nJ_ltF (by omega) (by omega), false_or]; omega), s2' v hv, n1, nJ_add, nJ_add])
      FU 0 (nI N, Xfed_f) (Nat.zero_le _) (fu (by omega)) ⟨rfl, m6⟩
    obtain ⟨r, x1, x2, x3⟩ := keyC
    obtain ⟨u, y1, y2, y3⟩ := keyM
    have x1 : f_F_pass_35 (nI M) (4 * (w * w)) CA_f 2000 FU 0 (nI (8 * N)) IA_f = some r := x1
    have y1 : f_M_pass_26 0 (nI e.2.2.1) 2000 Xencoded_f 2000 FU 0 (nI N) Xfed_f = some u := y1
    have b4 : f_B_bytes (nI (8 * (N + M))) = some (nI (N + M)) := by rw [l_B_bytes (by omega)]; congr 2; omega
    refine ⟨(r.2.1, r.2.2, 0, u.2.1, u.2.2, vp_updL OUT_f (0 : Int32).toNatClampNeg (nI (N + M)).toInt64), ?_, p, D, q, e, N + M, psG e.2.2.2.1 g N M, ⟨k1, k2, k3, k4, k5, k6, k7, k8, by omega⟩, ⟨c1, c2, c3, c4, q1 ▸ c5, x2, x3⟩, m1, s1 ▸ m2, m3, m4, y2, y3⟩
    unfold f_LW_6 f_M_thrown f_L_pass f_F_pass f_M_pass
    rw [b2, Option.bind_some, b1, Option.bind_some, nJ_add, if_pos (show nI (N + M) ≤ 2000 by rw [n2000, nJ_leT hN (by omega)]; exact trivial), x1, Option.bind_some, x2, b4, Option.bind_some, Option.bind_some, Sum.elim_inr, if_neg io1, Option.bind_some, b3, Option.bind_some, nJ_add, if_pos (show nI (N + M) ≤ 2000 by rw [n2000, nJ_leT hN (by omega)]; exact trivial), y1, Option.bind_some, if_pos (show (0 : Int32) ≤ 0 by decide), Option.bind_some, Option.bind_some]
    exact law_ok rfl (fun _ => by (try dsimp only); rw [updL0, y2])
  · have y1 : f_M_pass_26 1 (nI e.2.2.1) 2000 Xencoded_f 2000 FU 0 (nI N) Xfed_f = some (0, nI N, Xfed_f) := by
      rw [show FU = 1048575 + 1 from rfl, f_M_pass_26, b3, Option.bind_some]
      by_cases z : nI M ≤ 0
      · rw [if_pos z]
      · rw [if_neg z, if_neg (by decide)]
    refine ⟨(nI (8 * N), IA_f, 1, nI N, Xfed_f, OUT_f), ?_, p, D, q, e, N, g, hA0, ⟨c1, c2, c3, c4, q1 ▸ c5, rfl, c7⟩, m1, s1 ▸ m2, m3, m4, rfl, m6⟩
    have ng : ¬ nI (N + M) ≤ 2000 := by rw [n2000, nJ_leF (by omega) (by omega)]; exact not_false
    unfold f_LW_6 f_M_thrown f_L_pass f_F_pass f_M_pass
    rw [b2, Option.bind_some, b1, Option.bind_some, nJ_add, if_neg ng, Option.bind_some, Sum.elim_inl, if_pos rfl, Option.bind_some, b3, Option.bind_some, nJ_add, if_neg ng, y1, Option.bind_some, if_neg (show ¬ (1 : Int32) ≤ 0 by decide), Option.bind_some, Option.bind_some]
    exact law_ok rfl (fun h => by first | exact absurd h c1_ne | exact absurd h c2_ne)
theorem ps_7 {w d : Nat} {K_count : Int32} {KA_f : Nat → Int32} {T_domain : Int32} {T_turn : Int32} {T_contrast : Int32} {T_offset : Int32} {T_error : Int32} {I_filled : Int32} {I_taken : Int32} {IA_f : Nat → Int32} {X_code : Int32} {X_many : Int32} {X_found : Int32} {X_fedMany : Int32} {X_readAt : Int32} {X_why : Int32} {X_waiting : Int32} {Xblocks_f : Nat → Int32} {Xfed_f : Nat → Int32} {Xpile_f : Nat → Int32} {Xbest_f : Nat → Int32} {P_side : Int32} {PA_f : Nat → Int32} {N_side : Int32} {NA_f : Nat → Int32} {S_tried : Int32} {C_filled : Int32} {CA_f : Nat → Int32} {Xpicture_f : Nat → Int32} {X_encodedBits : Int32} {Xencoded_f : Nat → Int32} {X_tried : Int32} {X_decoded : Int32} {Xnews_f : Nat → Int32} (h : RX w d P_side PA_f N_side NA_f S_tried K_count KA_f C_filled CA_f I_filled IA_f Xpicture_f X_many Xblocks_f X_encodedBits Xencoded_f X_tried X_decoded Xnews_f X_fedMany Xfed_f) :
    ∃ r, f_LW_7 (nI (2 * w)) K_count (8 * (w * w)) KA_f T_domain T_turn T_contrast T_offset T_error I_filled I_taken 2000 IA_f X_code (nI (2 * w)) X_many X_found X_fedMany X_readAt X_why X_waiting 4096 Xblocks_f 2000 Xfed_f 96 Xpile_f 4 Xbest_f = some r ∧ RX w d P_side PA_f N_side NA_f S_tried r.1 r.2.1 C_filled CA_f r.2.2.2.2.2.2.2.1 IA_f Xpicture_f r.2.2.2.2.2.2.2.2.2.2.1 r.2.2.2.2.2.2.2.2.2.2.2.2.2.2.2.2.1 X_encodedBits Xencoded_f X_tried X_decoded Xnews_f r.2.2.2.2.2.2.2.2.2.2.2.2.1 Xfed_f := by
  obtain ⟨p, D, q, e, N, g, hA, ⟨c1, c2, c3, c4, c5, c6, c7⟩, m1, m2, m3, m4, m5, m6⟩ := h
  have hA0 := hA
  obtain ⟨k1, k2, k3, k4, k5, k6, k7, k8, k9⟩ := hA
  have hww := ww_le k2
  obtain ⟨r, r1, r2, r3, r4⟩ := l_F_read (w := w) (d := d) (N := N) (n := 2000) (f := IA_f) (g := g) (kn := 8 * (w * w)) (k0 := K_count) (K0 := KA_f) (a1 := T_domain) (a2 := T_turn) (a3 := T_contrast) (a4 := T_offset) (a5 := T_error) (tk0 := I_taken) k1 k2 k9 (by omega) c7 rfl
  obtain ⟨u, u1, u2, u3, u4⟩ := l_M_read (w := w) (d := d) (N := N) (n := 2000) (f := Xfed_f) (g := g) (kn := 4096) (ln := 96) (bn := 4) (my := X_many) (fo := X_found) (ra := X_readAt) (wy := X_why) (wt := X_waiting) (K := Xblocks_f) (P := Xpile_f) (bf := Xbest_f) k1 k2 k9 (by omega) m6 rfl (by omega) rfl
  rw [← c6] at r1
  rw [← m5] at u1
  have fr : ∀ (hh : r.1 = u.1), f_LW_7 (nI (2 * w)) K_count (8 * (w * w)) KA_f T_domain T_turn T_contrast T_offset T_error I_filled I_taken 2000 IA_f X_code (nI (2 * w)) X_many X_found X_fedMany X_readAt X_why X_waiting 4096 Xblocks_f 2000 Xfed_f 96 Xpile_f 4 Xbest_f = some (r.2.1, r.2.2.1, r.2.2.2.1, r.2.2.2.2.1, r.2.2.2.2.2.1, r.2.2.2.2.2.2.1, r.2.2.2.2.2.2.2.1, r.2.2.2.2.2.2.2.2.1, r.2.2.2.2.2.2.2.2.2, u.2.1, u.2.2.1, u.2.2.2.1, u.2.2.2.2.1, u.2.2.2.2.2.1, u.2.2.2.2.2.2.1, u.2.2.2.2.2.2.2.1, u.2.2.2.2.2.2.2.2.1, u.2.2.2.2.2.2.2.2.2.1, u.2.2.2.2.2.2.2.2.2.2) := by
    intro hh
    unfold f_LW_7
    rw [r1, Option.bind_some, u1, Option.bind_some, if_pos hh]
  have f0 : ∀ f : Nat → Int32, fRep f g 0 := fun f k hk => absurd hk (Nat.not_lt_zero k)
  have hall := fun q0 => rAll_ok (g := g) (N := N) (w := w) (d := d) (q := q0) k1
  unfold rAns at r2
  cases hr : rAll g N w d with
  | inl e0 =>
    rw [hr] at r2 r4 u4
    obtain ⟨v1, v2⟩ := r4
    obtain ⟨w1, w2, w3⟩ := u4
    obtain ⟨x1, x2, x3, x4, x5, x6⟩ := m2
    refine ⟨_, fr (r2.trans w1.symm), p, D, q, e, 0, g, ⟨k1, k2, k3, k4, k5, k6, k7, k8, by omega⟩, ⟨c1, c2, c3, c4, by dsimp only; rw [v1, v2]; exact c5, r3, f0 _⟩, m1, ⟨w2.trans x1, fun k hk => ?_, x3, x4, x5, x6⟩, m3, m4, u3, f0 _⟩
    dsimp only
    rw [w3 _ (by omega)]
    exact x2 k hk
  | inr q0 =>
    rw [hr] at r2 r4 u4
    obtain ⟨v1, v2⟩ := r4
    obtain ⟨w1, w2, w3⟩ := u4
    obtain ⟨y1, y2⟩ := hall q0 hr
    obtain ⟨_, _, x3, x4, x5, x6⟩ := m2
    obtain ⟨_, _, z3, z4, z5, z6⟩ := c5
    exact ⟨_, fr (r2.trans w1.symm), p, D, q, (q0.1, q0.2, e.2.2), 0, g, ⟨k1, k2, k3, k4, k5, y2, y1, k8, by omega⟩, ⟨c1, c2, c3, c4, ⟨v1, v2, z3, z4, z5, z6⟩, r3, f0 _⟩, m1, ⟨w2, w3, x3, x4, x5, x6⟩, m3, m4, u3, f0 _⟩
theorem ps_8 {w d : Nat} {N_side : Int32} {NA_f : Nat → Int32} {H_side : Int32} {HA_f : Nat → Int32} {V_left : Int32} {V_top : Int32} {V_start : Int32} {V_stepAcross : Int32} {V_stepDown : Int32} {K_count : Int32} {KA_f : Nat → Int32} {X_code : Int32} {X_many : Int32} {X_decoded : Int32} {Xblocks_f : Nat → Int32} {Xnews_f : Nat → Int32} {Xolds_f : Nat → Int32} {Xhalves_f : Nat → Int32} {OUT_f : Nat → Int64} {P_side : Int32} {PA_f : Nat → Int32} {S_tried : Int32} {C_filled : Int32} {CA_f : Nat → Int32} {I_filled : Int32} {IA_f : Nat → Int32} {Xpicture_f : Nat → Int32} {X_encodedBits : Int32} {Xencoded_f : Nat → Int32} {X_tried : Int32} {X_fedMany : Int32} {Xfed_f : Nat → Int32} (h : RX w d P_side PA_f N_side NA_f S_tried K_count KA_f C_filled CA_f I_filled IA_f Xpicture_f X_many Xblocks_f X_encodedBits Xencoded_f X_tried X_decoded Xnews_f X_fedMany Xfed_f) (a1 a2 : Int32) :
    ∃ r, f_LW_8 a1 a2 (nI (2 * w)) (nI (4 * w)) N_side (16 * (w * w)) NA_f (nI (2 * w)) H_side (4 * (w * w)) HA_f V_left V_top V_start V_stepAcross V_stepDown K_count (8 * (w * w)) KA_f X_code (nI (2 * w)) X_many X_decoded 4096 Xblocks_f 4096 Xnews_f 4096 Xolds_f 1024 Xhalves_f 1 OUT_f = some r ∧ RX w d P_side PA_f r.1 r.2.1 S_tried K_count KA_f C_filled CA_f I_filled IA_f Xpicture_f X_many Xblocks_f X_encodedBits Xencoded_f X_tried r.2.2.2.2.2.2.2.2.2.2.1 r.2.2.2.2.2.2.2.2.2.2.2.1 X_fedMany Xfed_f := by
  obtain ⟨p, D, q, e, N, g, hA, ⟨c1, c2, c3, c4, c5, c6, c7⟩, m1, m2, m3, m4, m5, m6⟩ := h
  have hA0 := hA
  have h5 := c5
  have h2 := m2
  obtain ⟨k1, k2, k3, k4, k5, k6, k7, k8, k9⟩ := hA
  have hww := ww_le k2
  obtain ⟨q1, q2, _⟩ := h5
  obtain ⟨s1, s2, _⟩ := h2
  by_cases hb : decBad a1 a2
  · have hF := l_F_decode_bad (kn := 8 * (w * w)) (nn := 16 * (w * w)) (hn := 4 * (w * w)) (K := KA_f) (f := NA_f) (HA := HA_f) (S := nI (2 * w)) (nm := nI (4 * w)) (ns := N_side) (hm := nI (2 * w)) (hs := H_side) (a1 := V_left) (a2 := V_top) (a3 := V_start) (a4 := V_stepAcross) (a5 := V_stepDown) (kc := K_count) hb
    have hM := l_M_decode_bad (kn := 4096) (nn := 4096) (on := 4096) (hn := 1024) (K := Xblocks_f) (f := Xnews_f) (ol := Xolds_f) (HA := Xhalves_f) (cd := X_code) (S := nI (2 * w)) (my := X_many) (dd := X_decoded) hb
    refine ⟨(N_side, NA_f, H_side, HA_f, V_left, V_top, V_start, V_stepAcross, V_stepDown, 1, X_decoded, Xnews_f, Xolds_f, Xhalves_f, OUT_f), ?_, p, D, q, e, N, g, hA0, ⟨c1, c2, c3, c4, c5, c6, c7⟩, m1, m2, m3, m4, m5, m6⟩
    unfold f_LW_8 f_M_thrown f_L_decode
    rw [hF, Option.bind_some, Sum.elim_inl, if_pos rfl, Option.bind_some, hM, Option.bind_some, Option.bind_some]
    exact law_ok rfl (fun h => by first | exact absurd h c1_ne | exact absurd h c2_ne)
  · obtain ⟨R, sc, R1, R2, hsc, rfl, rfl⟩ := decOk hb
    by_cases h0 : e.1 = 0
    · have hF := l_F_decode_none (kn := 8 * (w * w)) (nn := 16 * (w * w)) (hn := 4 * (w * w)) (K := KA_f) (f := NA_f) (HA := HA_f) (S := nI (2 * w)) (nm := nI (4 * w)) (ns := N_side) (hm := nI (2 * w)) (hs := H_side) (a1 := V_left) (a2 := V_top) (a3 := V_start) (a4 := V_stepAcross) (a5 := V_stepDown) R1 R2 hsc
      have hM := l_M_decode_none (kn := 4096) (nn := 4096) (on := 4096) (hn := 1024) (K := Xblocks_f) (f := Xnews_f) (ol := Xolds_f) (HA := Xhalves_f) (cd := X_code) (S := nI (2 * w)) (dd := X_decoded) R1 R2 hsc
      have q1' : K_count = nI 0 := by rw [q1, h0]
      have s1' : X_many = nI 0 := by rw [s1, h0]
      refine ⟨(N_side, NA_f, H_side, HA_f, V_left, V_top, V_start, V_stepAcross, V_stepDown, 2, X_decoded, Xnews_f, Xolds_f, Xhalves_f, OUT_f), ?_, p, D, q, e, N, g, hA0, ⟨c1, c2, c3, c4, c5, c6, c7⟩, m1, m2, m3, m4, m5, m6⟩
      unfold f_LW_8 f_M_thrown f_L_decode
      rw [q1', s1', hF, Option.bind_some, Sum.elim_inl, if_neg (by decide), if_pos rfl, Option.bind_some, hM, Option.bind_some, Option.bind_some]
      exact law_ok rfl (fun h => by first | exact absurd h c1_ne | exact absurd h c2_ne)
    · have hs2 : w * (sc + 1) * (w * (sc + 1)) ≤ 4 * (w * w) := by
        have z : sc = 0 ∨ sc = 1 := by omega
        rcases z with rfl | rfl
        · rw [Nat.zero_add, Nat.mul_one]; omega
        · rw [Nat.mul_mul_mul_comm]; omega
      have hs3 : 2 * (w * (sc + 1)) * (2 * (w * (sc + 1))) = 4 * (w * (sc + 1) * (w * (sc + 1))) := Nat.mul_mul_mul_comm _ _ _ _
      obtain ⟨r, r1, r2, r3, r4⟩ := l_F_decode_ok (w := w) (m := sc + 1) (c := e.1) (F := e.2.1) (R := R) (sc := sc) (kn := 8 * (w * w)) (nn := 16 * (w * w)) (hn := 4 * (w * w)) (K := KA_f) (f := NA_f) (HA := HA_f) (ns := N_side) (hs := H_side) (a1 := V_left) (a2 := V_top) (a3 := V_start) (a4 := V_stepAcross) (a5 := V_stepDown) k2 hsc rfl R1 R2 k7 q2 h0 (by omega) (by omega) (by omega) (by omega) (by omega) (by omega)
      obtain ⟨u, u1, u2, u3, u4, u5⟩ := l_M_decode_ok (w := w) (m := sc + 1) (c := e.1) (F := e.2.1) (R := R) (sc := sc) (kn := 4096) (nn := 4096) (on := 4096) (hn := 1024) (K := Xblocks_f) (f := Xnews_f) (ol := Xolds_f) (HA := Xhalves_f) (cd := X_code) (dd := X_decoded) k2 hsc rfl R1 R2 k7 s2 h0 (by omega) rfl (by omega) (by omega) (by omega)
      have hD : 2 * (w * (sc + 1)) = 0 ∨ 2 * (w * (sc + 1)) = 2 * w ∨ 2 * (w * (sc + 1)) = 2 * (w * 2) := by
        have z : sc = 0 ∨ sc = 1 := by omega
        rcases z with rfl | rfl
        · right; left; rw [Nat.zero_add, Nat.mul_one]
        · right; right; rfl
      refine ⟨(r.2.1, r.2.2.1, r.2.2.2.1, r.2.2.2.2.1, r.2.2.2.2.2.1, r.2.2.2.2.2.2.1, r.2.2.2.2.2.2.2.1, r.2.2.2.2.2.2.2.2.1, r.2.2.2.2.2.2.2.2.2, u.2.1, u.2.2.1, u.2.2.2.1, u.2.2.2.2.1, u.2.2.2.2.2, vp_updL OUT_f (0 : Int32).toNatClampNeg r.1.toInt64), ?_, p, 2 * (w * (sc + 1)), (dec w (sc + 1) e.2.1 e.1 R).1, e, N, g, ⟨k1, k2, k3, hD, dec_le R, k6, k7, k8, k9⟩, ⟨c1, c2, r3, r4, c5, c6, c7⟩, m1, m2, u4, u5, m5, m6⟩
      unfold f_LW_8 f_M_thrown f_L_decode
      rw [q1, s1, r1, Option.bind_some, Sum.elim_inr, if_neg io1, Option.bind_some, u1, Option.bind_some, Option.bind_some]
      exact law_ok u3 (fun _ => by (try dsimp only); rw [updL0, r2, u2])
theorem ps_9 {w d : Nat} {N_side : Int32} {NA_f : Nat → Int32} {X_code : Int32} {X_decoded : Int32} {Xnews_f : Nat → Int32} {OUT_f : Nat → Int64} {P_side : Int32} {PA_f : Nat → Int32} {S_tried : Int32} {K_count : Int32} {KA_f : Nat → Int32} {C_filled : Int32} {CA_f : Nat → Int32} {I_filled : Int32} {IA_f : Nat → Int32} {Xpicture_f : Nat → Int32} {X_many : Int32} {Xblocks_f : Nat → Int32} {X_encodedBits : Int32} {Xencoded_f : Nat → Int32} {X_tried : Int32} {X_fedMany : Int32} {Xfed_f : Nat → Int32} (h : RX w d P_side PA_f N_side NA_f S_tried K_count KA_f C_filled CA_f I_filled IA_f Xpicture_f X_many Xblocks_f X_encodedBits Xencoded_f X_tried X_decoded Xnews_f X_fedMany Xfed_f) (a1 a2 : Int32) :
    ∃ r, f_LW_9 a1 a2 N_side (16 * (w * w)) NA_f X_code X_decoded 4096 Xnews_f 1 OUT_f = some r ∧ RX w d P_side PA_f N_side NA_f S_tried K_count KA_f C_filled CA_f I_filled IA_f Xpicture_f X_many Xblocks_f X_encodedBits Xencoded_f X_tried X_decoded Xnews_f X_fedMany Xfed_f := by
  obtain ⟨p, D, q, e, N, g, hA, ⟨c1, c2, c3, c4, c5, c6, c7⟩, m1, m2, m3, m4, m5, m6⟩ := h
  have hA0 := hA
  obtain ⟨k1, k2, k3, k4, k5, k6, k7, k8, k9⟩ := hA
  have hww := ww_le k2
  have hD : D ≤ 64 := by omega
  have hsq : D * D ≤ 16 * (w * w) ∧ D * D ≤ 4096 := by
    refine ⟨?_, sq64 hD⟩
    have : D * D ≤ 4 * w * (4 * w) := Nat.mul_le_mul (by omega) (by omega)
    rw [Nat.mul_mul_mul_comm] at this
    exact this
  have goal : ∃ r, f_LW_9 a1 a2 N_side (16 * (w * w)) NA_f X_code X_decoded 4096 Xnews_f 1 OUT_f = some r := by
    rw [c3, m3]
    by_cases hp : ∃ a b : Nat, a < D ∧ b < D ∧ a1 = nI a ∧ a2 = nI b
    · obtain ⟨a, b, ha, hb, rfl, rfl⟩ := hp
      have hi : b * D + a < D * D := ix ha hb
      have i1 := l_in_T ha (show D < 2147483648 by omega)
      have i2 := l_in_T hb (show D < 2147483648 by omega)
      have ei : nI D * nI b + nI a = nI (b * D + a) := by rw [nJ_mul, nJ_add, Nat.mul_comm]
      have cl : (nI (b * D + a)).toNatClampNeg = b * D + a := nJ_clamp (by omega)
      have ii : ¬ (nI (b * D + a) < 0 ∨ 4096 ≤ b * D + a) := by rw [n0, nJ_ltF (by omega) (by omega), false_or]; omega
      unfold f_LW_9 f_M_thrown f_L_at f_F_at f_M_at
      rw [l_G_has hD ha hb, Option.bind_some, if_neg (show ¬ (1 : Int32) = 0 by decide), l_G_sample hD ha hb hsq.1, Option.bind_some, Option.bind_some, Sum.elim_inr, if_neg io1, Option.bind_some, i1, Option.bind_some, if_neg (show ¬ (1 : Int32) = 0 by decide), i2, Option.bind_some, if_neg (show ¬ (1 : Int32) = 0 by decide), if_pos (show (0 : Int32) ≤ 0 by decide), ei, cl, if_neg ii, Option.bind_some, Option.bind_some]
      exact ⟨_, law_ok rfl (fun _ => by (try dsimp only); rw [updL0, c4 _ hi, m4 _ hi])⟩
    · have hF : f_F_at a1 a2 (nI D) (16 * (w * w)) NA_f = some (.inl 1) := by
        unfold f_F_at
        rw [l_G_hasnt hD hp, Option.bind_some, if_pos rfl]
      have hM : f_M_at a1 a2 X_code (nI D) 4096 Xnews_f = some (0, 1) := by
        unfold f_M_at
        by_cases c : ∃ a : Nat, a < D ∧ a1 = nI a
        · obtain ⟨a, ha, rfl⟩ := c
          have h2 : ¬ ∃ b : Nat, b < D ∧ a2 = nI b := fun ⟨b, hb, e⟩ => hp ⟨a, b, ha, hb, rfl, e⟩
          rw [l_in_T ha (by omega), Option.bind_some, if_neg (by decide), l_in_F h2 (by omega), Option.bind_some, if_pos rfl, if_neg (by decide)]
        · rw [l_in_F c (by omega), Option.bind_some, if_pos rfl, if_neg (by decide)]
      unfold f_LW_9 f_M_thrown f_L_at
      rw [hF, Option.bind_some, Sum.elim_inl, if_pos rfl, Option.bind_some, hM, Option.bind_some, Option.bind_some]
      exact ⟨_, law_ok rfl (fun h => by first | exact absurd h c1_ne | exact absurd h c2_ne)⟩
  obtain ⟨r, hr⟩ := goal
  exact ⟨r, hr, p, D, q, e, N, g, hA0, ⟨c1, c2, c3, c4, c5, c6, c7⟩, m1, m2, m3, m4, m5, m6⟩
theorem ps_13 {w d : Nat} {S_tried : Int32} {X_code : Int32} {X_tried : Int32} {P_side : Int32} {PA_f : Nat → Int32} {N_side : Int32} {NA_f : Nat → Int32} {K_count : Int32} {KA_f : Nat → Int32} {C_filled : Int32} {CA_f : Nat → Int32} {I_filled : Int32} {IA_f : Nat → Int32} {Xpicture_f : Nat → Int32} {X_many : Int32} {Xblocks_f : Nat → Int32} {X_encodedBits : Int32} {Xencoded_f : Nat → Int32} {X_decoded : Int32} {Xnews_f : Nat → Int32} {X_fedMany : Int32} {Xfed_f : Nat → Int32} (h : RX w d P_side PA_f N_side NA_f S_tried K_count KA_f C_filled CA_f I_filled IA_f Xpicture_f X_many Xblocks_f X_encodedBits Xencoded_f X_tried X_decoded Xnews_f X_fedMany Xfed_f) :
    ∃ r, f_LW_13 S_tried X_code X_tried = some r ∧ RX w d P_side PA_f N_side NA_f S_tried K_count KA_f C_filled CA_f I_filled IA_f Xpicture_f X_many Xblocks_f X_encodedBits Xencoded_f X_tried X_decoded Xnews_f X_fedMany Xfed_f := by
  obtain ⟨p, D, q, e, N, g, hA, ⟨c1, c2, c3, c4, c5, c6, c7⟩, m1, m2, m3, m4, m5, m6⟩ := h
  have h5 := c5.2.2.2.2.2
  have h2 := m2.2.2.2.2.2
  refine ⟨0, ?_, p, D, q, e, N, g, hA, ⟨c1, c2, c3, c4, c5, c6, c7⟩, m1, m2, m3, m4, m5, m6⟩
  unfold f_LW_13 f_F_tried f_M_tried
  rw [Option.bind_some, Option.bind_some, if_pos (h5.trans h2.symm)]
theorem ps_14 {w d : Nat} {N_side : Int32} {K_count : Int32} {C_filled : Int32} {I_filled : Int32} {X_code : Int32} {X_many : Int32} {X_encodedBits : Int32} {X_fedMany : Int32} {X_decoded : Int32} {P_side : Int32} {PA_f : Nat → Int32} {NA_f : Nat → Int32} {S_tried : Int32} {KA_f : Nat → Int32} {CA_f : Nat → Int32} {IA_f : Nat → Int32} {Xpicture_f : Nat → Int32} {Xblocks_f : Nat → Int32} {Xencoded_f : Nat → Int32} {X_tried : Int32} {Xnews_f : Nat → Int32} {Xfed_f : Nat → Int32} (h : RX w d P_side PA_f N_side NA_f S_tried K_count KA_f C_filled CA_f I_filled IA_f Xpicture_f X_many Xblocks_f X_encodedBits Xencoded_f X_tried X_decoded Xnews_f X_fedMany Xfed_f) (a1 : Int32) :
    ∃ r, f_LW_14 a1 (nI (2 * w)) N_side K_count C_filled I_filled X_code (nI (2 * w)) X_many X_encodedBits X_fedMany X_decoded = some r ∧ RX w d P_side PA_f N_side NA_f S_tried K_count KA_f C_filled CA_f I_filled IA_f Xpicture_f X_many Xblocks_f X_encodedBits Xencoded_f X_tried X_decoded Xnews_f X_fedMany Xfed_f := by
  obtain ⟨p, D, q, e, N, g, hA, ⟨c1, c2, c3, c4, c5, c6, c7⟩, m1, m2, m3, m4, m5, m6⟩ := h
  have hA0 := hA
  obtain ⟨k1, k2, k3, k4, k5, k6, k7, k8, k9⟩ := hA
  have hww := ww_le k2
  have q1 := c5.1
  have q3 := c5.2.2.1
  have s1 := m2.1
  have s3 := m2.2.2.1
  refine ⟨0, ?_, p, D, q, e, N, g, hA0, ⟨c1, c2, c3, c4, c5, c6, c7⟩, m1, m2, m3, m4, m5, m6⟩
  have b1 : f_B_bytes (nI (8 * N)) = some (nI N) := by rw [l_B_bytes (by omega)]; congr 2; omega
  have b2 := l_B_bytes (m := e.2.2.1) (by omega)
  have b3 := l_M_bytes (m := e.2.2.1) (by omega)
  unfold f_LW_14 f_F_told f_M_told
  rw [c3, m3, c6, m5, q1, s1, q3, s3, b1, b2, b3]
  by_cases h0 : a1 = 0
  · rw [if_pos h0, if_pos h0, Option.bind_some, Option.bind_some, if_pos rfl]
  · rw [if_neg h0, if_neg h0]
    by_cases h1 : a1 = 1
    · rw [if_pos h1, if_pos h1, Option.bind_some, Option.bind_some, if_pos rfl]
    · rw [if_neg h1, if_neg h1]
      by_cases h2 : a1 = 2
      · rw [if_pos h2, if_pos h2, Option.bind_some, Option.bind_some, Option.bind_some, Option.bind_some, if_pos rfl]
      · rw [if_neg h2, if_neg h2]
        by_cases h3 : a1 = 3
        · rw [if_pos h3, if_pos h3, Option.bind_some, Option.bind_some, Option.bind_some, if_pos rfl]
        · rw [if_neg h3, if_neg h3]
          by_cases h4 : a1 = 4
          · rw [if_pos h4, if_pos h4, Option.bind_some, Option.bind_some, if_pos rfl]
          · rw [if_neg h4, if_neg h4, Option.bind_some, Option.bind_some, if_pos rfl]
theorem ps_15 {w d : Nat} {P_side : Int32} {PA_f : Nat → Int32} {N_side : Int32} {NA_f : Nat → Int32} {S_tried : Int32} {K_count : Int32} {C_filled : Int32} {C_taken : Int32} {I_filled : Int32} {I_taken : Int32} {X_code : Int32} {X_many : Int32} {X_encodedBits : Int32} {X_fedMany : Int32} {X_tried : Int32} {X_decoded : Int32} {Xpicture_f : Nat → Int32} {KA_f : Nat → Int32} {CA_f : Nat → Int32} {IA_f : Nat → Int32} {Xblocks_f : Nat → Int32} {Xencoded_f : Nat → Int32} {Xnews_f : Nat → Int32} {Xfed_f : Nat → Int32} (h : RX w d P_side PA_f N_side NA_f S_tried K_count KA_f C_filled CA_f I_filled IA_f Xpicture_f X_many Xblocks_f X_encodedBits Xencoded_f X_tried X_decoded Xnews_f X_fedMany Xfed_f) :
    ∃ r, f_LW_15 (nI (2 * w)) (nI (2 * w)) P_side (4 * (w * w)) PA_f (nI (4 * w)) N_side (16 * (w * w)) NA_f S_tried K_count C_filled C_taken I_filled I_taken X_code X_many X_encodedBits X_fedMany X_tried X_decoded 1024 Xpicture_f = some r ∧ RX w d r.1 r.2.1 r.2.2.1 r.2.2.2.1 r.2.2.2.2.1 r.2.2.2.2.2.1 KA_f r.2.2.2.2.2.2.1 CA_f r.2.2.2.2.2.2.2.2.1 IA_f r.2.2.2.2.2.2.2.2.2.2.2.2.2.2.2.2 r.2.2.2.2.2.2.2.2.2.2.2.1 Xblocks_f r.2.2.2.2.2.2.2.2.2.2.2.2.1 Xencoded_f r.2.2.2.2.2.2.2.2.2.2.2.2.2.2.1 r.2.2.2.2.2.2.2.2.2.2.2.2.2.2.2.1 Xnews_f r.2.2.2.2.2.2.2.2.2.2.2.2.2.1 Xfed_f := by
  obtain ⟨p, D, q, e, N, g, hA, ⟨c1, c2, c3, c4, c5, c6, c7⟩, m1, m2, m3, m4, m5, m6⟩ := h
  obtain ⟨k1, k2, k3, k4, k5, k6, k7, k8, k9⟩ := hA
  have hww := ww_le k2
  have hsq := sq_eq w
  have g1 := l_G_become (nn := 4 * (w * w)) (s := 2 * w) (q := 2 * w) (x := 0) (f := PA_f) (by omega) (by omega) (by omega)
  have g2 := l_G_become (nn := 16 * (w * w)) (s := 0) (q := 4 * w) (x := 0) (f := NA_f) (by omega) (by omega) (by omega)
  have g2 : f_G_become 0 0 (nI (4 * w)) (16 * (w * w)) NA_f = _ := g2
  have key := lp_up (L := fun n' (a : Nat → Int32) v => f_M_clear_7 1024 n' (nI v) a) (st := fun v => wr Xpicture_f (fun _ => 0) v) (b := 1024) (fin := (nI 1024, wr Xpicture_f (fun _ => 0) 1024))
    (fun n' => by
      show f_M_clear_7 _ (n' + 1) _ _ = _
      rw [f_M_clear_7, if_pos (by decide)])
    (fun n' v hv => by
      show f_M_clear_7 _ (n' + 1) _ _ = f_M_clear_7 _ n' _ _
      have hw1 := wrS Xpicture_f (fun _ => (0 : Int32)) v
      rw [f_M_clear_7, if_neg (by rw [n1024, nJ_leF hv (by omega)]; exact not_false), nJ_clamp (by omega), if_neg (by rw [n0, nJ_ltF (by omega) (by omega), false_or]; omega), n1, nJ_add, hw1])
    FU 0 (Nat.zero_le _) (fu (by omega))
  rw [wr0] at key
  have key : f_M_clear_7 1024 FU 0 Xpicture_f = _ := key
  refine ⟨(nI (2 * w), wr PA_f (fun _ => 0) (4 * (w * w)), nI 0, wr NA_f (fun _ => 0) (16 * (w * w)), 0, 0, 0, 0, 0, 0, 0, 0, 0, 0, 0, 0, wr Xpicture_f (fun _ => 0) 1024), ?_, fun _ => 0, 0, fun _ => 0, (0, fun _ => 0, 0, fun _ => 0, 0), 0, fun _ => 0, ⟨k1, k2, fun _ _ => Nat.zero_le _, Or.inl rfl, fun _ => Nat.zero_le _, Nat.zero_le _, ⟨fun i hi => absurd hi (Nat.not_lt_zero i), fun i j _ hj => absurd hj (Nat.not_lt_zero j)⟩, Nat.zero_le _, Nat.zero_le _⟩,
    ⟨rfl, fun k hk => ?_, rfl, fun j hj => absurd hj (Nat.not_lt_zero j), ⟨rfl, fun k hk => absurd hk (Nat.not_lt_zero k), rfl, bRep0 _ _, bGood0 _, rfl⟩, rfl, fun k hk => absurd hk (Nat.not_lt_zero k)⟩, fun k hk => ?_, ⟨rfl, fun k hk => absurd hk (Nat.not_lt_zero k), rfl, bRep0 _ _, bGood0 _, rfl⟩, rfl, fun j hj => absurd hj (Nat.not_lt_zero j), rfl, fun k hk => absurd hk (Nat.not_lt_zero k)⟩
  · unfold f_LW_15 f_F_clear f_M_clear f_K_wipe f_B_wipe
    rw [g1, Option.bind_some, g2, Option.bind_some, key]
    rfl
  · dsimp only; rw [wr_lt (by omega)]; rfl
  · dsimp only; rw [wr_lt (by omega)]; rfl
