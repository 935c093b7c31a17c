def f_G_sample (x1 : Int32) (x2 : Int32) (G_side : Int32) (GA_n : Nat) (GA_f : Nat → Int32) : Option (Int32) := if x1 < 0 then (some (0 : Int32)) else (if G_side ≤ x1 then (some (0 : Int32)) else (if x2 < 0 then (some (0 : Int32)) else (if G_side ≤ x2 then (some (0 : Int32)) else (if ((x2 * G_side) + x1) < 0 ∨ GA_n ≤ ((x2 * G_side) + x1).toNatClampNeg then none else (some (GA_f ((x2 * G_side) + x1).toNatClampNeg))))))
set_option maxHeartbeats 4000000 in
set_option maxRecDepth 100000 in
theorem c_G_sample (l : Launch) (dC : Nat → ClassId) (dI : Nat → Nat → Nat) (cI cL : ClassId) {ws : va_W} {kG kGA aG aGA : Nat} {G_mostSide G_side : Int32} {GA_n : Nat} {GA_f : Nat → Int32} (x1 : Int32) (x2 : Int32) (hN_G : ws[kG]? = some (aG, .inr (1, [.int G_mostSide, .ref aGA, .int G_side]))) (hN_GA : ws[kGA]? = some (aGA, .inl (cI, GA_n, .inl GA_f))) (r : Int32) (hf : f_G_sample x1 x2 G_side GA_n GA_f = some r) : Met l y_G_sample w_G_sample rm_G_sample (va_Pc [.ref aG, .int x1, .int x2] (zR dC dI cI cL ws)) (vp_Si (fun v => v = r)) 0 0 (fun _ => False) := by
  refine Met.ofW (cc := b_G_sample) (maxL := 3) (ret := some .int) (by decide) rfl ?_
  intro p e s m args below meth c s₁ B hml hv
  obtain ⟨rfl, hP, hK, hZ⟩ := hv
  have hx := B.exec
  have hb := B.bytes
  have hr := B.returns
  have hlocks := B.notSynchronized
  have hts : ∀ w ∈ BIG, w.before ([.ref aG, .int x1, .int x2] : List Value).toArray s = true := fun w h => atoms_spec (ws := w_G_sample) B.pre w (List.mem_cons_of_mem _ h)
  have hown : s.vm.findClass "FractalMaps$Grid" = some m.cls := findClass_of_methodNamed B.named
  have hl := lv_entry ([.ref aG, .int x1, .int x2]) (n := 3) (Nat.le_of_ble_eq_true rfl)
  rw [lg_entry_eq]
  generalize (lg_sl ([.ref aG, .int x1, .int x2]) ++ List.replicate (3 - (lg_sl ([.ref aG, .int x1, .int x2])).length) Slot.unset).toArray = ls at hl ⊢
  have hl : lv_has ls 3 [(0, .ref aG), (1, .int x1), (2, .int x2)] := hl
  unfold f_G_sample at hf
  refine lv_iload_n hx hb d_G_sample_0 rfl (lv_at hl 1 rfl) ?_
  refine lv_if_lt (tgt := 40) hx hb d_G_sample_1 (by decide) (fun hc => ?_) (fun hc => ?_)
  · have hf := z_t hc hf
    refine lv_iconst (v := 0) hx hb d_G_sample_40 (by decide) ?_
    obtain rfl := Option.some.inj hf
    exact W.iret hx hb hr (fun t ht hW => ⟨_, rfl, rfl, ht⟩) (fun q h => by cases h) d_G_sample_41
  · have hf := z_f hc hf
    refine lv_iload_n hx hb d_G_sample_4 rfl (lv_at hl 1 rfl) ?_
    refine lv_aload_n hx hb d_G_sample_5 rfl (lv_at hl 0 rfl) ?_
    refine gf_G_24 (v := .int G_side) hx hb hts hown hK hP hN_G rfl d_G_sample_6 ?_
    refine lv_icmp_ge (tgt := 40) hx hb d_G_sample_9 (by decide) (fun hc => ?_) (fun hc => ?_)
    · have hf := z_t hc hf
      refine lv_iconst (v := 0) hx hb d_G_sample_40 (by decide) ?_
      obtain rfl := Option.some.inj hf
      exact W.iret hx hb hr (fun t ht hW => ⟨_, rfl, rfl, ht⟩) (fun q h => by cases h) d_G_sample_41
    · have hf := z_f hc hf
      refine lv_iload_n hx hb d_G_sample_12 rfl (lv_at hl 2 rfl) ?_
      refine lv_if_lt (tgt := 40) hx hb d_G_sample_13 (by decide) (fun hc => ?_) (fun hc => ?_)
      · have hf := z_t hc hf
        refine lv_iconst (v := 0) hx hb d_G_sample_40 (by decide) ?_
        obtain rfl := Option.some.inj hf
        exact W.iret hx hb hr (fun t ht hW => ⟨_, rfl, rfl, ht⟩) (fun q h => by cases h) d_G_sample_41
      · have hf := z_f hc hf
        refine lv_iload_n hx hb d_G_sample_16 rfl (lv_at hl 2 rfl) ?_
        refine lv_aload_n hx hb d_G_sample_17 rfl (lv_at hl 0 rfl) ?_
        refine gf_G_24 (v := .int G_side) hx hb hts hown hK hP hN_G rfl d_G_sample_18 ?_
        refine lv_icmp_ge (tgt := 40) hx hb d_G_sample_21 (by decide) (fun hc => ?_) (fun hc => ?_)
        · have hf := z_t hc hf
          refine lv_iconst (v := 0) hx hb d_G_sample_40 (by decide) ?_
          obtain rfl := Option.some.inj hf
          exact W.iret hx hb hr (fun t ht hW => ⟨_, rfl, rfl, ht⟩) (fun q h => by cases h) d_G_sample_41
        · have hf := z_f hc hf
          refine lv_aload_n hx hb d_G_sample_24 rfl (lv_at hl 0 rfl) ?_
          refine gf_G_27 (v := .ref aGA) hx hb hts hown hK hP hN_G rfl d_G_sample_25 ?_
          refine lv_iload_n hx hb d_G_sample_28 rfl (lv_at hl 2 rfl) ?_
          refine lv_aload_n hx hb d_G_sample_29 rfl (lv_at hl 0 rfl) ?_
          refine gf_G_24 (v := .int G_side) hx hb hts hown hK hP hN_G rfl d_G_sample_30 ?_
          refine lv_imul hx hb d_G_sample_33 ?_
          refine lv_iload_n hx hb d_G_sample_34 rfl (lv_at hl 1 rfl) ?_
          refine lv_iadd hx hb d_G_sample_35 ?_
          obtain ⟨hin, hf⟩ := z_no hf
          refine va_iald hx hb hK hP _ 0 hN_GA rfl hin d_G_sample_36 ?_
          refine lv_goto (tgt := 41) hx hb d_G_sample_37 (by decide) ?_
          obtain rfl := Option.some.inj hf
          exact W.iret hx hb hr (fun t ht hW => ⟨_, rfl, rfl, ht⟩) (fun q h => by cases h) d_G_sample_41
def f_G_sum_15 (p1 : Int32) (p2 : Int32) (p3 : Int32) (p5 : Int32) (G_side : Int32) (GA_n : Nat) (GA_f : Nat → Int32) : Nat → Int32 → Int32 → Option (Int32 × Int32)
  | 0, _, _ => none
  | n + 1, v4, v6 => if p3 ≤ v6 then (some (v4, v6)) else ((f_G_sample (p1 + v6) (p2 + p5) G_side GA_n GA_f).bind (fun q1 => f_G_sum_15 p1 p2 p3 p5 G_side GA_n GA_f n (v4 + q1) (v6 + 1)))
def f_G_sum_6 (p1 : Int32) (p2 : Int32) (p3 : Int32) (G_side : Int32) (GA_n : Nat) (GA_f : Nat → Int32) : Nat → Int32 → Int32 → Option (Int32 × Int32)
  | 0, _, _ => none
  | n + 1, v4, v5 => if p3 ≤ v5 then (some (v4, v5)) else ((f_G_sum_15 p1 p2 p3 v5 G_side GA_n GA_f FU v4 (0 : Int32)).bind (fun q3 => f_G_sum_6 p1 p2 p3 G_side GA_n GA_f n q3.1 (v5 + 1)))
def f_G_sum (x1 : Int32) (x2 : Int32) (x3 : Int32) (G_side : Int32) (GA_n : Nat) (GA_f : Nat → Int32) : Option (Int32) := (f_G_sum_6 x1 x2 x3 G_side GA_n GA_f FU (0 : Int32) (0 : Int32)).bind (fun q9 => some q9.1)
set_option maxHeartbeats 4000000 in
set_option maxRecDepth 100000 in
theorem c_G_sum (l : Launch) (dC : Nat → ClassId) (dI : Nat → Nat → Nat) (cI cL : ClassId) {ws : va_W} {kG kGA aG aGA : Nat} {G_mostSide G_side : Int32} {GA_n : Nat} {GA_f : Nat → Int32} (x1 : Int32) (x2 : Int32) (x3 : Int32) (hN_G : ws[kG]? = some (aG, .inr (1, [.int G_mostSide, .ref aGA, .int G_side]))) (hN_GA : ws[kGA]? = some (aGA, .inl (cI, GA_n, .inl GA_f))) (r : Int32) (hf : f_G_sum x1 x2 x3 G_side GA_n GA_f = some r) : Met l y_G_sum w_G_sum rm_G_sum (va_Pc [.ref aG, .int x1, .int x2, .int x3] (zR dC dI cI cL ws)) (vp_Si (fun v => v = r)) 0 0 (fun _ => False) := by
  refine Met.ofW (cc := b_G_sum) (maxL := 7) (ret := some .int) (by decide) rfl ?_
  intro p e s m args below meth c s₁ B hml hv
  obtain ⟨rfl, hP, hK, hZ⟩ := hv
  have hx := B.exec
  have hb := B.bytes
  have hr := B.returns
  have hlocks := B.notSynchronized
  have hts : ∀ w ∈ BIG, w.before ([.ref aG, .int x1, .int x2, .int x3] : List Value).toArray s = true := fun w h => atoms_spec (ws := w_G_sum) B.pre w (List.mem_cons_of_mem _ h)
  have hown : s.vm.findClass "FractalMaps$Grid" = some m.cls := findClass_of_methodNamed B.named
  have hl := lv_entry ([.ref aG, .int x1, .int x2, .int x3]) (n := 7) (Nat.le_of_ble_eq_true rfl)
  rw [lg_entry_eq]
  generalize (lg_sl ([.ref aG, .int x1, .int x2, .int x3]) ++ List.replicate (7 - (lg_sl ([.ref aG, .int x1, .int x2, .int x3])).length) Slot.unset).toArray = ls at hl ⊢
  have hl : lv_has ls 7 [(0, .ref aG), (1, .int x1), (2, .int x2), (3, .int x3)] := hl
  unfold f_G_sum at hf
  refine lv_iconst (v := 0) hx hb d_G_sum_0 (by decide) ?_
  refine lv_istore (lv' := [(4, .int (0 : Int32)), (0, .ref aG), (1, .int x1), (2, .int x2), (3, .int x3)]) hx hb d_G_sum_1 hl (by decide) rfl (fun ls hl => ?_)
  refine lv_iconst (v := 0) hx hb d_G_sum_3 (by decide) ?_
  refine lv_istore (lv' := [(5, .int (0 : Int32)), (4, .int (0 : Int32)), (0, .ref aG), (1, .int x1), (2, .int x2), (3, .int x3)]) hx hb d_G_sum_4 hl (by decide) rfl (fun ls hl => ?_)
  have lp12 : ∀ (Qx : State → Prop) (n : Nat) (v4_10 : Int32) (v5_11 : Int32) (ls : Array Slot) (q : Int32 × Int32) (hf : f_G_sum_6 x1 x2 x3 G_side GA_n GA_f n v4_10 v5_11 = some q) (hl : lv_has ls 7 [(0, .ref aG), (1, .int x1), (2, .int x2), (3, .int x3), (4, .int v4_10), (5, .int v5_11)]) (kt0 : ∀ (ls : Array Slot), lv_has ls 7 [(0, .ref aG), (1, .int x1), (2, .int x2), (3, .int x3), (4, .int q.1), (5, .int q.2)] → W p l e (headSpec w_G_sum rm_G_sum).room s m ([.ref aG, .int x1, .int x2, .int x3] : List Value).toArray below meth c s.heap [] 0 0 Qx (F0 m 50 ls [])), W p l e (headSpec w_G_sum rm_G_sum).room s m ([.ref aG, .int x1, .int x2, .int x3] : List Value).toArray below meth c s.heap [] 0 0 Qx (F0 m 6 ls []) := by
    intro Qx n
    induction n with
    | zero => intro v4_10 v5_11 ls q hf; cases hf
    | succ n ih =>
      intro v4_10 v5_11 ls q hf hl kt0
      rw [f_G_sum_6] at hf
      refine lv_iload hx hb d_G_sum_6 (lv_at hl 5 rfl) ?_
      refine lv_iload_n hx hb d_G_sum_8 rfl (lv_at hl 3 rfl) ?_
      refine lv_icmp_ge (tgt := 50) hx hb d_G_sum_9 (by decide) (fun hc => ?_) (fun hc => ?_)
      · have hf := z_t hc hf
        obtain rfl := Option.some.inj hf
        exact kt0 ls (lv_sub hl [0, 1, 2, 3, 4, 5] rfl)
      · have hf := z_f hc hf
        refine lv_iconst (v := 0) hx hb d_G_sum_12 (by decide) ?_
        refine lv_istore (lv' := [(6, .int (0 : Int32)), (0, .ref aG), (1, .int x1), (2, .int x2), (3, .int x3), (4, .int v4_10), (5, .int v5_11)]) hx hb d_G_sum_13 hl (by decide) rfl (fun ls hl => ?_)
        have lp16 : ∀ (Qx : State → Prop) (n : Nat) (v4_14 : Int32) (v6_15 : Int32) (ls : Array Slot) (q : Int32 × Int32) (hf : f_G_sum_15 x1 x2 x3 v5_11 G_side GA_n GA_f n v4_14 v6_15 = some q) (hl : lv_has ls 7 [(0, .ref aG), (1, .int x1), (2, .int x2), (3, .int x3), (4, .int v4_14), (5, .int v5_11), (6, .int v6_15)]) (kt0 : ∀ (ls : Array Slot), lv_has ls 7 [(0, .ref aG), (1, .int x1), (2, .int x2), (3, .int x3), (4, .int q.1), (5, .int v5_11), (6, .int q.2)] → W p l e (headSpec w_G_sum rm_G_sum).room s m ([.ref aG, .int x1, .int x2, .int x3] : List Value).toArray below meth c s.heap [] 0 0 Qx (F0 m 44 ls [])), W p l e (headSpec w_G_sum rm_G_sum).room s m ([.ref aG, .int x1, .int x2, .int x3] : List Value).toArray below meth c s.heap [] 0 0 Qx (F0 m 15 ls []) := by
          intro Qx n
          induction n with
          | zero => intro v4_14 v6_15 ls q hf; cases hf
          | succ n ih =>
            intro v4_14 v6_15 ls q hf hl kt0
            rw [f_G_sum_15] at hf
            refine lv_iload hx hb d_G_sum_15 (lv_at hl 6 rfl) ?_
            refine lv_iload_n hx hb d_G_sum_17 rfl (lv_at hl 3 rfl) ?_
            refine lv_icmp_ge (tgt := 44) hx hb d_G_sum_18 (by decide) (fun hc => ?_) (fun hc => ?_)
            · have hf := z_t hc hf
              obtain rfl := Option.some.inj hf
              exact kt0 ls (lv_sub hl [0, 1, 2, 3, 4, 5, 6] rfl)
            · have hf := z_f hc hf
              refine lv_iload hx hb d_G_sum_21 (lv_at hl 4 rfl) ?_
              refine lv_aload_n hx hb d_G_sum_23 rfl (lv_at hl 0 rfl) ?_
              refine lv_iload_n hx hb d_G_sum_24 rfl (lv_at hl 1 rfl) ?_
              refine lv_iload hx hb d_G_sum_25 (lv_at hl 6 rfl) ?_
              refine lv_iadd hx hb d_G_sum_27 ?_
              refine lv_iload_n hx hb d_G_sum_28 rfl (lv_at hl 2 rfl) ?_
              refine lv_iload hx hb d_G_sum_29 (lv_at hl 5 rfl) ?_
              refine lv_iadd hx hb d_G_sum_31 ?_
              obtain ⟨q17, hc, hf⟩ := z_b hf
              refine vp_callSi (z_cr (va_runV (As := [.int (x1 + v6_15), .int (x2 + v5_11)]) (rest := [.int v4_14]) ⟨hx, hb, hml, hown, hts⟩ (c_G_sample l dC dI cI cL (x1 + v6_15) (x2 + v5_11) hN_G hN_GA q17 hc) (cw_G_49 hts ⟨Nat.le_of_ble_eq_true rfl, Nat.le_of_ble_eq_true rfl⟩) ⟨zbR, va_recv hK hP (ci := 1) rfl hN_G, (zpR hP hK hZ)⟩ rfl rfl hl.1 rfl (lv_room (Nat.le_of_ble_eq_true rfl)) d_G_sum_32 ⟨Nat.zero_le _, Nat.zero_le _⟩)) (fun r18 hv => ?_)
              have hv := hv.symm
              subst hv
              refine lv_iadd hx hb d_G_sum_35 ?_
              refine lv_istore (lv' := [(4, .int (v4_14 + q17)), (0, .ref aG), (1, .int x1), (2, .int x2), (3, .int x3), (5, .int v5_11), (6, .int v6_15)]) hx hb d_G_sum_36 hl (by decide) rfl (fun ls hl => ?_)
              refine lv_iinc (v := (v6_15 + 1)) (lv' := [(6, .int (v6_15 + 1)), (4, .int (v4_14 + q17)), (0, .ref aG), (1, .int x1), (2, .int x2), (3, .int x3), (5, .int v5_11)]) hx hb d_G_sum_38 hl (k := 6) rfl rfl (by decide) rfl (fun ls hl => ?_)
              refine lv_goto (tgt := 15) hx hb d_G_sum_41 (by decide) ?_
              exact ih (v4_14 + q17) (v6_15 + 1) ls _ hf (lv_sub hl [2, 3, 4, 5, 1, 6, 0] rfl) kt0
        obtain ⟨q13, hc, hf⟩ := z_b hf
        refine lp16 _ FU v4_10 (0 : Int32) ls q13 hc (lv_sub hl [1, 2, 3, 4, 5, 6, 0] rfl) (fun ls hl => ?_)
        refine lv_iinc (v := (v5_11 + 1)) (lv' := [(5, .int (v5_11 + 1)), (0, .ref aG), (1, .int x1), (2, .int x2), (3, .int x3), (4, .int q13.1), (6, .int q13.2)]) hx hb d_G_sum_44 hl (k := 5) rfl rfl (by decide) rfl (fun ls hl => ?_)
        refine lv_goto (tgt := 6) hx hb d_G_sum_47 (by decide) ?_
        exact ih q13.1 (v5_11 + 1) ls _ hf (lv_sub hl [1, 2, 3, 4, 5, 0] rfl) kt0
  obtain ⟨q9, hc, hf⟩ := z_b hf
  refine lp12 _ FU (0 : Int32) (0 : Int32) ls q9 hc (lv_sub hl [2, 3, 4, 5, 1, 0] rfl) (fun ls hl => ?_)
  refine lv_iload hx hb d_G_sum_50 (lv_at hl 4 rfl) ?_
  obtain rfl := Option.some.inj hf
  exact W.iret hx hb hr (fun t ht hW => ⟨_, rfl, rfl, ht⟩) (fun q h => by cases h) d_G_sum_52
def f_G_has (x1 : Int32) (x2 : Int32) (G_side : Int32) : Option (Int32) := if x1 < 0 then (some (0 : Int32)) else (if G_side ≤ x1 then (some (0 : Int32)) else (if x2 < 0 then (some (0 : Int32)) else (if G_side ≤ x2 then (some (0 : Int32)) else (some (1 : Int32)))))
set_option maxHeartbeats 4000000 in
set_option maxRecDepth 100000 in
theorem c_G_has (l : Launch) (dC : Nat → ClassId) (dI : Nat → Nat → Nat) (cI cL : ClassId) {ws : va_W} {kG aG aGA : Nat} {G_mostSide G_side : Int32} (x1 : Int32) (x2 : Int32) (hN_G : ws[kG]? = some (aG, .inr (1, [.int G_mostSide, .ref aGA, .int G_side]))) (r : Int32) (hf : f_G_has x1 x2 G_side = some r) : Met l y_G_has w_G_has rm_G_has (va_Pc [.ref aG, .int x1, .int x2] (zR dC dI cI cL ws)) (vp_Si (fun v => v = r)) 0 0 (fun _ => False) := by
  refine Met.ofW (cc := b_G_has) (maxL := 3) (ret := some .boolean) (by decide) rfl ?_
  intro p e s m args below meth c s₁ B hml hv
  obtain ⟨rfl, hP, hK, hZ⟩ := hv
  have hx := B.exec
  have hb := B.bytes
  have hr := B.returns
  have hlocks := B.notSynchronized
  have hts : ∀ w ∈ BIG, w.before ([.ref aG, .int x1, .int x2] : List Value).toArray s = true := fun w h => atoms_spec (ws := w_G_has) B.pre w (List.mem_cons_of_mem _ h)
  have hown : s.vm.findClass "FractalMaps$Grid" = some m.cls := findClass_of_methodNamed B.named
  have hl := lv_entry ([.ref aG, .int x1, .int x2]) (n := 3) (Nat.le_of_ble_eq_true rfl)
  rw [lg_entry_eq]
  generalize (lg_sl ([.ref aG, .int x1, .int x2]) ++ List.replicate (3 - (lg_sl ([.ref aG, .int x1, .int x2])).length) Slot.unset).toArray = ls at hl ⊢
  have hl : lv_has ls 3 [(0, .ref aG), (1, .int x1), (2, .int x2)] := hl
  unfold f_G_has at hf
  refine lv_iload_n hx hb d_G_has_0 rfl (lv_at hl 1 rfl) ?_
  refine lv_if_lt (tgt := 28) hx hb d_G_has_1 (by decide) (fun hc => ?_) (fun hc => ?_)
  · have hf := z_t hc hf
    refine lv_iconst (v := 0) hx hb d_G_has_28 (by decide) ?_
    obtain rfl := Option.some.inj hf
    exact W.zret (ty := .boolean) hx hb hr (by decide) (fun t ht hW => ⟨_, rfl, rfl, ht⟩) (fun q h => by cases h) d_G_has_29
  · have hf := z_f hc hf
    refine lv_iload_n hx hb d_G_has_4 rfl (lv_at hl 1 rfl) ?_
    refine lv_aload_n hx hb d_G_has_5 rfl (lv_at hl 0 rfl) ?_
    refine gf_G_24 (v := .int G_side) hx hb hts hown hK hP hN_G rfl d_G_has_6 ?_
    refine lv_icmp_ge (tgt := 28) hx hb d_G_has_9 (by decide) (fun hc => ?_) (fun hc => ?_)
    · have hf := z_t hc hf
      refine lv_iconst (v := 0) hx hb d_G_has_28 (by decide) ?_
      obtain rfl := Option.some.inj hf
      exact W.zret (ty := .boolean) hx hb hr (by decide) (fun t ht hW => ⟨_, rfl, rfl, ht⟩) (fun q h => by cases h) d_G_has_29
    · have hf := z_f hc hf
      refine lv_iload_n hx hb d_G_has_12 rfl (lv_at hl 2 rfl) ?_
      refine lv_if_lt (tgt := 28) hx hb d_G_has_13 (by decide) (fun hc => ?_) (fun hc => ?_)
      · have hf := z_t hc hf
        refine lv_iconst (v := 0) hx hb d_G_has_28 (by decide) ?_
        obtain rfl := Option.some.inj hf
        exact W.zret (ty := .boolean) hx hb hr (by decide) (fun t ht hW => ⟨_, rfl, rfl, ht⟩) (fun q h => by cases h) d_G_has_29
      · have hf := z_f hc hf
        refine lv_iload_n hx hb d_G_has_16 rfl (lv_at hl 2 rfl) ?_
        refine lv_aload_n hx hb d_G_has_17 rfl (lv_at hl 0 rfl) ?_
        refine gf_G_24 (v := .int G_side) hx hb hts hown hK hP hN_G rfl d_G_has_18 ?_
        refine lv_icmp_ge (tgt := 28) hx hb d_G_has_21 (by decide) (fun hc => ?_) (fun hc => ?_)
        · have hf := z_t hc hf
          refine lv_iconst (v := 0) hx hb d_G_has_28 (by decide) ?_
          obtain rfl := Option.some.inj hf
          exact W.zret (ty := .boolean) hx hb hr (by decide) (fun t ht hW => ⟨_, rfl, rfl, ht⟩) (fun q h => by cases h) d_G_has_29
        · have hf := z_f hc hf
          refine lv_iconst (v := 1) hx hb d_G_has_24 (by decide) ?_
          refine lv_goto (tgt := 29) hx hb d_G_has_25 (by decide) ?_
          obtain rfl := Option.some.inj hf
          exact W.zret (ty := .boolean) hx hb hr (by decide) (fun t ht hW => ⟨_, rfl, rfl, ht⟩) (fun q h => by cases h) d_G_has_29
def f_G_set (x1 : Int32) (x2 : Int32) (x3 : Int32) (G_side : Int32) (GA_n : Nat) (GA_f : Nat → Int32) : Option (Nat → Int32) := (f_G_has x1 x2 G_side).bind (fun q19 => if q19 = 0 then (some GA_f) else (if ((x2 * G_side) + x1) < 0 ∨ GA_n ≤ ((x2 * G_side) + x1).toNatClampNeg then none else (some (upd GA_f ((x2 * G_side) + x1).toNatClampNeg x3))))
set_option maxHeartbeats 4000000 in
set_option maxRecDepth 100000 in
theorem c_G_set (l : Launch) (dC : Nat → ClassId) (dI : Nat → Nat → Nat) (cI cL : ClassId) {ws0 : va_W} (sz : Nat) {kG kGA aG aGA : Nat} {G_mostSide G_side : Int32} {GA_n : Nat} {GA_f : Nat → Int32} (x1 : Int32) (x2 : Int32) (x3 : Int32) (hN_G : ws0[kG]? = some (aG, .inr (1, [.int G_mostSide, .ref aGA, .int G_side]))) (hN_GA : ws0[kGA]? = some (aGA, .inl (cI, GA_n, .inl GA_f))) (ne_G_GA : kG ≠ kGA) (r : Nat → Int32) (hf : f_G_set x1 x2 x3 G_side GA_n GA_f = some r) : Met l y_G_set w_G_set rm_G_set (va_Pc [.ref aG, .int x1, .int x2, .int x3] (zM dC dI cI cL ws0 sz)) (va_Qv (fun ws' : va_W => ws'[kGA]? = some (aGA, .inl (cI, GA_n, .inl r)) ∧ ∀ j, j ∉ [kGA] → ws'[j]? = ws0[j]?) (zQ dC dI cI cL (va_A ws0 sz)) (va_A ws0 sz)) 0 0 (va_A ws0 sz) := by
  refine Met.ofW (cc := b_G_set) (maxL := 4) (ret := none) (by decide) rfl ?_
  intro p e s m args below meth c s₁ B hml hv
  obtain ⟨rfl, hsz, hP, hK, hZ, hD0⟩ := hv
  have hx := B.exec
  have hb := B.bytes
  have hr := B.returns
  have hlocks := B.notSynchronized
  have hts : ∀ w ∈ BIG, w.before ([.ref aG, .int x1, .int x2, .int x3] : List Value).toArray s = true := fun w h => atoms_spec (ws := w_G_set) B.pre w (List.mem_cons_of_mem _ h)
  have hown : s.vm.findClass "FractalMaps$Grid" = some m.cls := findClass_of_methodNamed B.named
  subst hsz
  have hD := hD0.self (sz := s.heap.size)
  generalize hAe : va_A ws0 s.heap.size = A at hD ⊢
  have hA : ∀ q : Nat, s.heap.size ≤ q → A q := fun q h => by rw [← hAe]; exact Or.inr h
  have hS : va_S A s.heap s.heap [] := va_S.rf
  have hw : ∀ j, j ∉ [kGA] → ws0[j]? = ws0[j]? := fun _ _ => rfl
  have hl := lv_entry ([.ref aG, .int x1, .int x2, .int x3]) (n := 4) (Nat.le_of_ble_eq_true rfl)
  rw [lg_entry_eq]
  generalize (lg_sl ([.ref aG, .int x1, .int x2, .int x3]) ++ List.replicate (4 - (lg_sl ([.ref aG, .int x1, .int x2, .int x3])).length) Slot.unset).toArray = ls at hl ⊢
  have hl : lv_has ls 4 [(0, .ref aG), (1, .int x1), (2, .int x2), (3, .int x3)] := hl
  unfold f_G_set at hf
  refine lv_aload_n hx hb d_G_set_0 rfl (lv_at hl 0 rfl) ?_
  refine lv_iload_n hx hb d_G_set_1 rfl (lv_at hl 1 rfl) ?_
  refine lv_iload_n hx hb d_G_set_2 rfl (lv_at hl 2 rfl) ?_
  obtain ⟨q19, hc, hf⟩ := z_b hf
  refine vp_callSi (z_cr (va_runV (As := [.int x1, .int x2]) (rest := []) ⟨hx, hb, hml, hown, hts⟩ (c_G_has l dC dI cI cL x1 x2 hN_G q19 hc) (cw_G_31 hts ⟨Nat.le_of_ble_eq_true rfl, Nat.le_of_ble_eq_true rfl⟩) ⟨zbR, va_recv hK hP (ci := 1) rfl hN_G, (zpR hP hK hZ)⟩ rfl rfl hl.1 rfl (lv_room (Nat.le_of_ble_eq_true rfl)) d_G_set_3 ⟨Nat.zero_le _, Nat.zero_le _⟩)) (fun r20 hv => ?_)
  have hv := hv.symm
  subst hv
  refine lv_if_eq (tgt := 23) hx hb d_G_set_6 (by decide) (fun hc => ?_) (fun hc => ?_)
  · have hf := z_t hc hf
    obtain rfl := Option.some.inj hf
    exact W.vret hx hb hr (fun t ht hW => ⟨⟨ws0, rfl, ⟨hN_GA, hw⟩, by rw [ht]; exact hP, va_K.moved hW.alike hK, hD⟩, hS.F ht⟩) hS.2.2 d_G_set_23
  · have hf := z_f hc hf
    refine lv_aload_n hx hb d_G_set_9 rfl (lv_at hl 0 rfl) ?_
    refine gf_G_27 (v := .ref aGA) hx hb hts hown hK hP hN_G rfl d_G_set_10 ?_
    refine lv_iload_n hx hb d_G_set_13 rfl (lv_at hl 2 rfl) ?_
    refine lv_aload_n hx hb d_G_set_14 rfl (lv_at hl 0 rfl) ?_
    refine gf_G_24 (v := .int G_side) hx hb hts hown hK hP hN_G rfl d_G_set_15 ?_
    refine lv_imul hx hb d_G_set_18 ?_
    refine lv_iload_n hx hb d_G_set_19 rfl (lv_at hl 1 rfl) ?_
    refine lv_iadd hx hb d_G_set_20 ?_
    refine lv_iload_n hx hb d_G_set_21 rfl (lv_at hl 3 rfl) ?_
    obtain ⟨hin, hf⟩ := z_no hf
    refine z_iast hx hb hK hP hD hS hN_GA rfl hin d_G_set_22 (fun ws H locs hP hD hS hN_GA hfr => ?_)
    have hN_GA : ws[kGA]? = some (aGA, .inl (cI, GA_n, .inl (upd GA_f ((x2 * G_side) + x1).toNatClampNeg x3))) := hN_GA
    have hN_G := (hfr _ ne_G_GA).trans hN_G
    have hw := z_fr List.mem_cons_self hw hfr
    obtain rfl := Option.some.inj hf
    exact W.vret hx hb hr (fun t ht hW => ⟨⟨ws, rfl, ⟨hN_GA, hw⟩, by rw [ht]; exact hP, va_K.moved hW.alike hK, hD⟩, hS.F ht⟩) hS.2.2 d_G_set_23
def f_B_appendBit (x1 : Int32) (B_filled : Int32) (BA_n : Nat) (BA_f : Nat → Int32) : Option (Int32 × (Nat → Int32)) := if (B_filled / (8 : Int32)) < 0 then (some (B_filled, BA_f)) else (if (B_filled / (8 : Int32)) < (nI BA_n) then (if (B_filled - B_filled / (8 : Int32) * (8 : Int32)) = 0 then (if (B_filled / (8 : Int32)) < 0 ∨ BA_n ≤ (B_filled / (8 : Int32)).toNatClampNeg then none else (some ((B_filled + (1 : Int32)), (upd BA_f (B_filled / (8 : Int32)).toNatClampNeg ((0 : Int32) ||| (x1 <<< (((7 : Int32) - (B_filled - B_filled / (8 : Int32) * (8 : Int32))) &&& 31))))))) else (if (B_filled / (8 : Int32)) < 0 ∨ BA_n ≤ (B_filled / (8 : Int32)).toNatClampNeg then none else (if (B_filled / (8 : Int32)) < 0 ∨ BA_n ≤ (B_filled / (8 : Int32)).toNatClampNeg then none else (some ((B_filled + (1 : Int32)), (upd BA_f (B_filled / (8 : Int32)).toNatClampNeg ((BA_f (B_filled / (8 : Int32)).toNatClampNeg) ||| (x1 <<< (((7 : Int32) - (B_filled - B_filled / (8 : Int32) * (8 : Int32))) &&& 31))))))))) else (some (B_filled, BA_f)))
set_option maxHeartbeats 4000000 in
set_option maxRecDepth 100000 in
theorem c_B_appendBit (l : Launch) (dC : Nat → ClassId) (dI : Nat → Nat → Nat) (cI cL : ClassId) {ws0 : va_W} (sz : Nat) {kB kBA aB aBA : Nat} {B_filled B_taken : Int32} {BA_n : Nat} {BA_f : Nat → Int32} (x1 : Int32) (hN_B : ws0[kB]? = some (aB, .inr (6, [.ref aBA, .int B_filled, .int B_taken]))) (hN_BA : ws0[kBA]? = some (aBA, .inl (cI, BA_n, .inl BA_f))) (ne_B_BA : kB ≠ kBA) (r : Int32 × (Nat → Int32)) (hf : f_B_appendBit x1 B_filled BA_n BA_f = some r) : Met l y_B_appendBit w_B_appendBit rm_B_appendBit (va_Pc [.ref aB, .int x1] (zM dC dI cI cL ws0 sz)) (va_Qv (fun ws' : va_W => ws'[kB]? = some (aB, .inr (6, [.ref aBA, .int r.1, .int B_taken])) ∧ ws'[kBA]? = some (aBA, .inl (cI, BA_n, .inl r.2)) ∧ ∀ j, j ∉ [kB, kBA] → ws'[j]? = ws0[j]?) (zQ dC dI cI cL (va_A ws0 sz)) (va_A ws0 sz)) 0 0 (va_A ws0 sz) := by
  refine Met.ofW (cc := b_B_appendBit) (maxL := 5) (ret := none) (by decide) rfl ?_
  intro p e s m args below meth c s₁ B hml hv
  obtain ⟨rfl, hsz, hP, hK, hZ, hD0⟩ := hv
  have hx := B.exec
  have hb := B.bytes
  have hr := B.returns
  have hlocks := B.notSynchronized
  have hts : ∀ w ∈ BIG, w.before ([.ref aB, .int x1] : List Value).toArray s = true := fun w h => atoms_spec (ws := w_B_appendBit) B.pre w (List.mem_cons_of_mem _ h)
  have hown : s.vm.findClass "FractalMaps$Bits" = some m.cls := findClass_of_methodNamed B.named
  subst hsz
  have hD := hD0.self (sz := s.heap.size)
  generalize hAe : va_A ws0 s.heap.size = A at hD ⊢
  have hA : ∀ q : Nat, s.heap.size ≤ q → A q := fun q h => by rw [← hAe]; exact Or.inr h
  have hS : va_S A s.heap s.heap [] := va_S.rf
  have hw : ∀ j, j ∉ [kB, kBA] → ws0[j]? = ws0[j]? := fun _ _ => rfl
  have hl := lv_entry ([.ref aB, .int x1]) (n := 5) (Nat.le_of_ble_eq_true rfl)
  rw [lg_entry_eq]
  generalize (lg_sl ([.ref aB, .int x1]) ++ List.replicate (5 - (lg_sl ([.ref aB, .int x1])).length) Slot.unset).toArray = ls at hl ⊢
  have hl : lv_has ls 5 [(0, .ref aB), (1, .int x1)] := hl
  unfold f_B_appendBit at hf
  refine lv_aload_n hx hb d_B_appendBit_0 rfl (lv_at hl 0 rfl) ?_
  refine gf_B_24 (v := .int B_filled) hx hb hts hown hK hP hN_B rfl d_B_appendBit_1 ?_
  refine lv_bipush (v := 8) hx hb d_B_appendBit_4 (by decide) ?_
  refine lv_idiv hx hb d_B_appendBit_6 (by decide) ?_
  refine lv_istore_n (lv' := [(2, .int (B_filled / (8 : Int32))), (0, .ref aB), (1, .int x1)]) hx hb d_B_appendBit_7 rfl hl (by decide) rfl (fun ls hl => ?_)
  refine lv_iload_n hx hb d_B_appendBit_8 rfl (lv_at hl 0 rfl) ?_
  refine lv_if_lt (tgt := 21) hx hb d_B_appendBit_9 (by decide) (fun hc => ?_) (fun hc => ?_)
  · have hf := z_t hc hf
    obtain rfl := Option.some.inj hf
    exact W.vret hx hb hr (fun t ht hW => ⟨⟨ws0, rfl, ⟨hN_B, hN_BA, hw⟩, by rw [ht]; exact hP, va_K.moved hW.alike hK, hD⟩, hS.F ht⟩) hS.2.2 d_B_appendBit_21
  · have hf := z_f hc hf
    refine lv_iload_n hx hb d_B_appendBit_12 rfl (lv_at hl 0 rfl) ?_
    refine lv_aload_n hx hb d_B_appendBit_13 rfl (lv_at hl 1 rfl) ?_
    refine gf_B_18 (v := .ref aBA) hx hb hts hown hK hP hN_B rfl d_B_appendBit_14 ?_
    refine va_alen (v := nI BA_n) hx hb hK hP _ 0 hN_BA rfl rfl d_B_appendBit_17 ?_
    refine lv_icmp_lt (tgt := 22) hx hb d_B_appendBit_18 (by decide) (fun hc => ?_) (fun hc => ?_)
    · have hf := z_t hc hf
      refine lv_aload_n hx hb d_B_appendBit_22 rfl (lv_at hl 1 rfl) ?_
      refine gf_B_24 (v := .int B_filled) hx hb hts hown hK hP hN_B rfl d_B_appendBit_23 ?_
      refine lv_bipush (v := 8) hx hb d_B_appendBit_26 (by decide) ?_
      refine lv_irem hx hb d_B_appendBit_28 (by decide) ?_
      refine lv_istore_n (lv' := [(3, .int (B_filled - B_filled / (8 : Int32) * (8 : Int32))), (2, .int (B_filled / (8 : Int32))), (0, .ref aB), (1, .int x1)]) hx hb d_B_appendBit_29 rfl hl (by decide) rfl (fun ls hl => ?_)
      refine lv_iload_n hx hb d_B_appendBit_30 rfl (lv_at hl 0 rfl) ?_
      refine lv_if_ne (tgt := 38) hx hb d_B_appendBit_31 (by decide) (fun hc => ?_) (fun hc => ?_)
      · have hf := z_f hc hf
        refine lv_aload_n hx hb d_B_appendBit_38 rfl (lv_at hl 2 rfl) ?_
        refine gf_B_18 (v := .ref aBA) hx hb hts hown hK hP hN_B rfl d_B_appendBit_39 ?_
        refine lv_iload_n hx hb d_B_appendBit_42 rfl (lv_at hl 1 rfl) ?_
        obtain ⟨hin, hf⟩ := z_no hf
        refine va_iald hx hb hK hP _ 0 hN_BA rfl hin d_B_appendBit_43 ?_
        refine lv_istore (lv' := [(4, .int (BA_f (B_filled / (8 : Int32)).toNatClampNeg)), (3, .int (B_filled - B_filled / (8 : Int32) * (8 : Int32))), (2, .int (B_filled / (8 : Int32))), (0, .ref aB), (1, .int x1)]) hx hb d_B_appendBit_44 hl (by decide) rfl (fun ls hl => ?_)
        refine lv_aload_n hx hb d_B_appendBit_46 rfl (lv_at hl 3 rfl) ?_
        refine gf_B_18 (v := .ref aBA) hx hb hts hown hK hP hN_B rfl d_B_appendBit_47 ?_
        refine lv_iload_n hx hb d_B_appendBit_50 rfl (lv_at hl 2 rfl) ?_
        refine lv_iload hx hb d_B_appendBit_51 (lv_at hl 0 rfl) ?_
        refine lv_iload_n hx hb d_B_appendBit_53 rfl (lv_at hl 4 rfl) ?_
        refine lv_bipush (v := 7) hx hb d_B_appendBit_54 (by decide) ?_
        refine lv_iload_n hx hb d_B_appendBit_56 rfl (lv_at hl 1 rfl) ?_
        refine lv_isub hx hb d_B_appendBit_57 ?_
        refine lv_ishl hx hb d_B_appendBit_58 ?_
        refine lv_ior hx hb d_B_appendBit_59 ?_
        obtain ⟨hin, hf⟩ := z_no hf
        refine z_iast hx hb hK hP hD hS hN_BA rfl hin d_B_appendBit_60 (fun ws H locs hP hD hS hN_BA hfr => ?_)
        have hN_BA : ws[kBA]? = some (aBA, .inl (cI, BA_n, .inl (upd BA_f (B_filled / (8 : Int32)).toNatClampNeg ((BA_f (B_filled / (8 : Int32)).toNatClampNeg) ||| (x1 <<< (((7 : Int32) - (B_filled - B_filled / (8 : Int32) * (8 : Int32))) &&& 31)))))) := hN_BA
        have hN_B := (hfr _ ne_B_BA).trans hN_B
        have hw := z_fr (List.mem_cons_of_mem _ List.mem_cons_self) hw hfr
        refine lv_aload_n hx hb d_B_appendBit_61 rfl (lv_at hl 3 rfl) ?_
        refine lv_dup hx hb d_B_appendBit_62 rfl ?_
        refine gf_B_24 (v := .int B_filled) hx hb hts hown hK hP hN_B rfl d_B_appendBit_63 ?_
        refine lv_iconst (v := 1) hx hb d_B_appendBit_66 (by decide) ?_
        refine lv_iadd hx hb d_B_appendBit_67 ?_
        refine pf_B_24 (v := .int (B_filled + (1 : Int32))) hx hb hts hown hK hP hD hS hN_B rfl rfl (Nat.le_of_ble_eq_true rfl) d_B_appendBit_68 (fun ws H locs hP hD hS hN_B hfr => ?_)
        have hN_B : ws[kB]? = some (aB, .inr (6, [.ref aBA, .int (B_filled + (1 : Int32)), .int B_taken])) := hN_B
        have hN_BA := (hfr _ ne_B_BA.symm).trans hN_BA
        have hw := z_fr List.mem_cons_self hw hfr
        obtain rfl := Option.some.inj hf
        exact W.vret hx hb hr (fun t ht hW => ⟨⟨ws, rfl, ⟨hN_B, hN_BA, hw⟩, by rw [ht]; exact hP, va_K.moved hW.alike hK, hD⟩, hS.F ht⟩) hS.2.2 d_B_appendBit_71
      · have hf := z_t hc hf
        refine lv_iconst (v := 0) hx hb d_B_appendBit_34 (by decide) ?_
        refine lv_goto (tgt := 44) hx hb d_B_appendBit_35 (by decide) ?_
        refine lv_istore (lv' := [(4, .int (0 : Int32)), (3, .int (B_filled - B_filled / (8 : Int32) * (8 : Int32))), (2, .int (B_filled / (8 : Int32))), (0, .ref aB), (1, .int x1)]) hx hb d_B_appendBit_44 hl (by decide) rfl (fun ls hl => ?_)
        refine lv_aload_n hx hb d_B_appendBit_46 rfl (lv_at hl 3 rfl) ?_
        refine gf_B_18 (v := .ref aBA) hx hb hts hown hK hP hN_B rfl d_B_appendBit_47 ?_
        refine lv_iload_n hx hb d_B_appendBit_50 rfl (lv_at hl 2 rfl) ?_
        refine lv_iload hx hb d_B_appendBit_51 (lv_at hl 0 rfl) ?_
        refine lv_iload_n hx hb d_B_appendBit_53 rfl (lv_at hl 4 rfl) ?_
        refine lv_bipush (v := 7) hx hb d_B_appendBit_54 (by decide) ?_
        refine lv_iload_n hx hb d_B_appendBit_56 rfl (lv_at hl 1 rfl) ?_
        refine lv_isub hx hb d_B_appendBit_57 ?_
        refine lv_ishl hx hb d_B_appendBit_58 ?_
        refine lv_ior hx hb d_B_appendBit_59 ?_
        obtain ⟨hin, hf⟩ := z_no hf
        refine z_iast hx hb hK hP hD hS hN_BA rfl hin d_B_appendBit_60 (fun ws H locs hP hD hS hN_BA hfr => ?_)
        have hN_BA : ws[kBA]? = some (aBA, .inl (cI, BA_n, .inl (upd BA_f (B_filled / (8 : Int32)).toNatClampNeg ((0 : Int32) ||| (x1 <<< (((7 : Int32) - (B_filled - B_filled / (8 : Int32) * (8 : Int32))) &&& 31)))))) := hN_BA
        have hN_B := (hfr _ ne_B_BA).trans hN_B
        have hw := z_fr (List.mem_cons_of_mem _ List.mem_cons_self) hw hfr
        refine lv_aload_n hx hb d_B_appendBit_61 rfl (lv_at hl 3 rfl) ?_
        refine lv_dup hx hb d_B_appendBit_62 rfl ?_
        refine gf_B_24 (v := .int B_filled) hx hb hts hown hK hP hN_B rfl d_B_appendBit_63 ?_
        refine lv_iconst (v := 1) hx hb d_B_appendBit_66 (by decide) ?_
        refine lv_iadd hx hb d_B_appendBit_67 ?_
        refine pf_B_24 (v := .int (B_filled + (1 : Int32))) hx hb hts hown hK hP hD hS hN_B rfl rfl (Nat.le_of_ble_eq_true rfl) d_B_appendBit_68 (fun ws H locs hP hD hS hN_B hfr => ?_)
        have hN_B : ws[kB]? = some (aB, .inr (6, [.ref aBA, .int (B_filled + (1 : Int32)), .int B_taken])) := hN_B
        have hN_BA := (hfr _ ne_B_BA.symm).trans hN_BA
        have hw := z_fr List.mem_cons_self hw hfr
        obtain rfl := Option.some.inj hf
        exact W.vret hx hb hr (fun t ht hW => ⟨⟨ws, rfl, ⟨hN_B, hN_BA, hw⟩, by rw [ht]; exact hP, va_K.moved hW.alike hK, hD⟩, hS.F ht⟩) hS.2.2 d_B_appendBit_71
    · have hf := z_f hc hf
      obtain rfl := Option.some.inj hf
      exact W.vret hx hb hr (fun t ht hW => ⟨⟨ws0, rfl, ⟨hN_B, hN_BA, hw⟩, by rw [ht]; exact hP, va_K.moved hW.alike hK, hD⟩, hS.F ht⟩) hS.2.2 d_B_appendBit_21
def f_B_append_4 (p1 : Int32) (p2 : Int32) (BA_n : Nat) : Nat → Int32 → Int32 → (Nat → Int32) → Option (Int32 × Int32 × (Nat → Int32))
  | 0, _, _, _ => none
  | n + 1, v3, B_filled, BA_f => if v3 < 0 then (some (v3, B_filled, BA_f)) else ((f_B_appendBit ((p1 >>> (v3 &&& 31)) &&& (1 : Int32)) B_filled BA_n BA_f).bind (fun q21 => f_B_append_4 p1 p2 BA_n n (v3 + (-1)) q21.1 q21.2))
def f_B_append (x1 : Int32) (x2 : Int32) (B_filled : Int32) (BA_n : Nat) (BA_f : Nat → Int32) : Option (Int32 × (Nat → Int32)) := (f_B_append_4 x1 x2 BA_n FU (x2 - (1 : Int32)) B_filled BA_f).bind (fun q22 => some (q22.2.1, q22.2.2))
set_option maxHeartbeats 4000000 in
set_option maxRecDepth 100000 in
theorem c_B_append (l : Launch) (dC : Nat → ClassId) (dI : Nat → Nat → Nat) (cI cL : ClassId) {ws0 : va_W} (sz : Nat) {kB kBA aB aBA : Nat} {B_filled B_taken : Int32} {BA_n : Nat} {BA_f : Nat → Int32} (x1 : Int32) (x2 : Int32) (hN_B : ws0[kB]? = some (aB, .inr (6, [.ref aBA, .int B_filled, .int B_taken]))) (hN_BA : ws0[kBA]? = some (aBA, .inl (cI, BA_n, .inl BA_f))) (ne_B_BA : kB ≠ kBA) (r : Int32 × (Nat → Int32)) (hf : f_B_append x1 x2 B_filled BA_n BA_f = some r) : Met l y_B_append w_B_append rm_B_append (va_Pc [.ref aB, .int x1, .int x2] (zM dC dI cI cL ws0 sz)) (va_Qv (fun ws' : va_W => ws'[kB]? = some (aB, .inr (6, [.ref aBA, .int r.1, .int B_taken])) ∧ ws'[kBA]? = some (aBA, .inl (cI, BA_n, .inl r.2)) ∧ ∀ j, j ∉ [kB, kBA] → ws'[j]? = ws0[j]?) (zQ dC dI cI cL (va_A ws0 sz)) (va_A ws0 sz)) 0 0 (va_A ws0 sz) := by
  refine Met.ofW (cc := b_B_append) (maxL := 4) (ret := none) (by decide) rfl ?_
  intro p e s m args below meth c s₁ B hml hv
  obtain ⟨rfl, hsz, hP, hK, hZ, hD0⟩ := hv
  have hx := B.exec
  have hb := B.bytes
  have hr := B.returns
  have hlocks := B.notSynchronized
  have hts : ∀ w ∈ BIG, w.before ([.ref aB, .int x1, .int x2] : List Value).toArray s = true := fun w h => atoms_spec (ws := w_B_append) B.pre w (List.mem_cons_of_mem _ h)
  have hown : s.vm.findClass "FractalMaps$Bits" = some m.cls := findClass_of_methodNamed B.named
  subst hsz
  have hD := hD0.self (sz := s.heap.size)
  generalize hAe : va_A ws0 s.heap.size = A at hD ⊢
  have hA : ∀ q : Nat, s.heap.size ≤ q → A q := fun q h => by rw [← hAe]; exact Or.inr h
  have hS : va_S A s.heap s.heap [] := va_S.rf
  have hw : ∀ j, j ∉ [kB, kBA] → ws0[j]? = ws0[j]? := fun _ _ => rfl
  have hl := lv_entry ([.ref aB, .int x1, .int x2]) (n := 4) (Nat.le_of_ble_eq_true rfl)
  rw [lg_entry_eq]
  generalize (lg_sl ([.ref aB, .int x1, .int x2]) ++ List.replicate (4 - (lg_sl ([.ref aB, .int x1, .int x2])).length) Slot.unset).toArray = ls at hl ⊢
  have hl : lv_has ls 4 [(0, .ref aB), (1, .int x1), (2, .int x2)] := hl
  unfold f_B_append at hf
  refine lv_iload_n hx hb d_B_append_0 rfl (lv_at hl 2 rfl) ?_
  refine lv_iconst (v := 1) hx hb d_B_append_1 (by decide) ?_
  refine lv_isub hx hb d_B_append_2 ?_
  refine lv_istore_n (lv' := [(3, .int (x2 - (1 : Int32))), (0, .ref aB), (1, .int x1), (2, .int x2)]) hx hb d_B_append_3 rfl hl (by decide) rfl (fun ls hl => ?_)
  have lp26 : ∀ (Qx : State → Prop) (n : Nat) (v3_23 : Int32) (B_filled_24 : Int32) (BA_f_25 : Nat → Int32) (ws : va_W) (H : Heap) (locs : List Loc) (ls : Array Slot) (q : Int32 × Int32 × (Nat → Int32)) (hf : f_B_append_4 x1 x2 BA_n n v3_23 B_filled_24 BA_f_25 = some q) (hl : lv_has ls 4 [(0, .ref aB), (1, .int x1), (2, .int x2), (3, .int v3_23)]) (hP : va_P (dC, dI) classes ws H) (hD : va_D A ws) (hS : va_S A s.heap H locs) (hN_B : ws[kB]? = some (aB, .inr (6, [.ref aBA, .int B_filled_24, .int B_taken]))) (hN_BA : ws[kBA]? = some (aBA, .inl (cI, BA_n, .inl BA_f_25))) (hw : ∀ j, j ∉ [kB, kBA] → ws[j]? = ws0[j]?) (kt0 : ∀ (ws : va_W) (H : Heap) (locs : List Loc) (ls : Array Slot), lv_has ls 4 [(0, .ref aB), (1, .int x1), (2, .int x2), (3, .int q.1)] → (va_P (dC, dI) classes ws H) → (va_D A ws) → (va_S A s.heap H locs) → (ws[kB]? = some (aB, .inr (6, [.ref aBA, .int q.2.1, .int B_taken]))) → (ws[kBA]? = some (aBA, .inl (cI, BA_n, .inl q.2.2))) → (∀ j, j ∉ [kB, kBA] → ws[j]? = ws0[j]?) → W p l e (headSpec w_B_append rm_B_append).room s m ([.ref aB, .int x1, .int x2] : List Value).toArray below meth c H locs 0 0 Qx (F0 m 23 ls [])), W p l e (headSpec w_B_append rm_B_append).room s m ([.ref aB, .int x1, .int x2] : List Value).toArray below meth c H locs 0 0 Qx (F0 m 4 ls []) := by
    intro Qx n
    induction n with
    | zero => intro v3_23 B_filled_24 BA_f_25 ws H locs ls q hf; cases hf
    | succ n ih =>
      intro v3_23 B_filled_24 BA_f_25 ws H locs ls q hf hl hP hD hS hN_B hN_BA hw kt0
      rw [f_B_append_4] at hf
      refine lv_iload_n hx hb d_B_append_4 rfl (lv_at hl 3 rfl) ?_
      refine lv_if_lt (tgt := 23) hx hb d_B_append_5 (by decide) (fun hc => ?_) (fun hc => ?_)
      · have hf := z_t hc hf
        obtain rfl := Option.some.inj hf
        exact kt0 _ _ _ ls (lv_sub hl [0, 1, 2, 3] rfl) hP hD hS hN_B hN_BA hw
      · have hf := z_f hc hf
        refine lv_aload_n hx hb d_B_append_8 rfl (lv_at hl 0 rfl) ?_
        refine lv_iload_n hx hb d_B_append_9 rfl (lv_at hl 1 rfl) ?_
        refine lv_iload_n hx hb d_B_append_10 rfl (lv_at hl 3 rfl) ?_
        refine lv_ishr hx hb d_B_append_11 ?_
        refine lv_iconst (v := 1) hx hb d_B_append_12 (by decide) ?_
        refine lv_iand hx hb d_B_append_13 ?_
        obtain ⟨q27, hc, hf⟩ := z_b hf
        have hFc := z_free hD hS hA
        refine va_callv (va_runV (As := [.int ((x1 >>> (v3_23 &&& 31)) &&& (1 : Int32))]) (rest := []) ⟨hx, hb, hml, hown, hts⟩ (c_B_appendBit l dC dI cI cL _ ((x1 >>> (v3_23 &&& 31)) &&& (1 : Int32)) hN_B hN_BA ne_B_BA q27 hc) (cw_B_31 hts ⟨Nat.le_of_ble_eq_true rfl, Nat.le_of_ble_eq_true rfl⟩) ⟨zbM, va_recv hK hP (ci := 6) rfl hN_B, (zpM hP hK hZ hD)⟩ rfl rfl hl.1 rfl (lv_room (Nat.le_of_ble_eq_true rfl)) d_B_append_14 ⟨Nat.zero_le _, Nat.zero_le _⟩) hS (fun q _ h => hFc q h) hFc (fun ws t H locs ht hvm hu hB hz1 hk1 hS => ?_)
        obtain ⟨hN_B, hN_BA, hfr⟩ := hu
        obtain ⟨hP, -, hD1⟩ := hB
        rw [ht] at hP
        have hD := hD1.weaken (fun _ _ _ h => hFc _ h)
        have hN_B : ws[kB]? = some (aB, .inr (6, [.ref aBA, .int q27.1, .int B_taken])) := hN_B
        have hN_BA : ws[kBA]? = some (aBA, .inl (cI, BA_n, .inl q27.2)) := hN_BA
        have hw := z_frC (z_sc List.mem_cons_self (z_sc (List.mem_cons_of_mem _ List.mem_cons_self) z_sn)) hw hfr
        refine lv_iinc (v := (v3_23 + (-1))) (lv' := [(3, .int (v3_23 + (-1))), (0, .ref aB), (1, .int x1), (2, .int x2)]) hx hb d_B_append_17 hl (k := 3) rfl rfl (by decide) rfl (fun ls hl => ?_)
        refine lv_goto (tgt := 4) hx hb d_B_append_20 (by decide) ?_
        exact ih (v3_23 + (-1)) q27.1 q27.2 _ _ _ ls _ hf (lv_sub hl [1, 2, 3, 0] rfl) hP hD hS hN_B hN_BA hw kt0
  obtain ⟨q22, hc, hf⟩ := z_b hf
  refine lp26 _ FU (x2 - (1 : Int32)) B_filled BA_f _ _ _ ls q22 hc (lv_sub hl [1, 2, 3, 0] rfl) hP hD hS hN_B hN_BA hw (fun ws H locs ls hl hP hD hS hN_B hN_BA hw => ?_)
  obtain rfl := Option.some.inj hf
  exact W.vret hx hb hr (fun t ht hW => ⟨⟨ws, rfl, ⟨hN_B, hN_BA, hw⟩, by rw [ht]; exact hP, va_K.moved hW.alike hK, hD⟩, hS.F ht⟩) hS.2.2 d_B_append_23
def f_F_acrossOf (x1 : Int32) : Option (Int32) := some (x1 &&& (1 : Int32))
set_option maxHeartbeats 4000000 in
set_option maxRecDepth 100000 in
theorem c_F_acrossOf (l : Launch) (x1 : Int32) (r : Int32) (hf : f_F_acrossOf x1 = some r) : Met l y_F_acrossOf w_F_acrossOf rm_F_acrossOf (va_Pc [.int x1] (fun _ => True)) (vp_Si (fun v => v = r)) 0 0 (fun _ => False) := by
  refine Met.ofW (cc := b_F_acrossOf) (maxL := 1) (ret := some .int) (by decide) rfl ?_
  intro p e s m args below meth c s₁ B hml hv
  obtain ⟨rfl, -⟩ := hv
  have hx := B.exec
  have hb := B.bytes
  have hr := B.returns
  have hlocks := B.notSynchronized
  have hts : ∀ w ∈ BIG, w.before ([.int x1] : List Value).toArray s = true := fun w h => atoms_spec (ws := w_F_acrossOf) B.pre w (List.mem_cons_of_mem _ h)
  have hown : s.vm.findClass "FractalMaps" = some m.cls := findClass_of_methodNamed B.named
  have hl := lv_entry ([.int x1]) (n := 1) (Nat.le_of_ble_eq_true rfl)
  rw [lg_entry_eq]
  generalize (lg_sl ([.int x1]) ++ List.replicate (1 - (lg_sl ([.int x1])).length) Slot.unset).toArray = ls at hl ⊢
  have hl : lv_has ls 1 [(0, .int x1)] := hl
  unfold f_F_acrossOf at hf
  refine lv_iload_n hx hb d_F_acrossOf_0 rfl (lv_at hl 0 rfl) ?_
  refine lv_iconst (v := 1) hx hb d_F_acrossOf_1 (by decide) ?_
  refine lv_iand hx hb d_F_acrossOf_2 ?_
  obtain rfl := Option.some.inj hf
  exact W.iret hx hb hr (fun t ht hW => ⟨_, rfl, rfl, ht⟩) (fun q h => by cases h) d_F_acrossOf_3
