set_option maxHeartbeats 4000000 in
set_option maxRecDepth 100000 in
theorem c_G_init (l : Launch) (dC : Nat → ClassId) (dI : Nat → Nat → Nat) (cI cL : ClassId) {ws0 : va_W} (sz : Nat) (n0 : Nat) {kG aG N_GA : Nat} (x1 x2 : Int32) (hN_G : zA ws0 kG (aG, .inr (1, [.int 0, .null, .int 0]))) (hlen : ws0.length = n0) (e1_GA : ¬ ((if (1 : Int32) < (if (64 : Int32) < x1 then (64 : Int32) else x1) then (if (64 : Int32) < x1 then (64 : Int32) else x1) else (1 : Int32)) * (if (1 : Int32) < (if (64 : Int32) < x1 then (64 : Int32) else x1) then (if (64 : Int32) < x1 then (64 : Int32) else x1) else (1 : Int32))) < 0) (e2_GA : ((if (1 : Int32) < (if (64 : Int32) < x1 then (64 : Int32) else x1) then (if (64 : Int32) < x1 then (64 : Int32) else x1) else (1 : Int32)) * (if (1 : Int32) < (if (64 : Int32) < x1 then (64 : Int32) else x1) then (if (64 : Int32) < x1 then (64 : Int32) else x1) else (1 : Int32))).toNatClampNeg = N_GA) (e3_GA : N_GA ≤ 4096) : Met l y_G_init w_G_init rm_G_init (va_Pc [.ref aG, .int x1, .int x2] (zM dC dI cI cL ws0 sz)) (va_Qv (fun ws' : va_W => ws'.length = n0 + 1 ∧ (∃ aGA, zA ws' kG (aG, .inr (1, [.int (if (1 : Int32) < (if (64 : Int32) < x1 then (64 : Int32) else x1) then (if (64 : Int32) < x1 then (64 : Int32) else x1) else (1 : Int32)), .ref aGA, .int (if (0 : Int32) < (if (if (1 : Int32) < (if (64 : Int32) < x1 then (64 : Int32) else x1) then (if (64 : Int32) < x1 then (64 : Int32) else x1) else (1 : Int32)) < x2 then (if (1 : Int32) < (if (64 : Int32) < x1 then (64 : Int32) else x1) then (if (64 : Int32) < x1 then (64 : Int32) else x1) else (1 : Int32)) else x2) then (if (if (1 : Int32) < (if (64 : Int32) < x1 then (64 : Int32) else x1) then (if (64 : Int32) < x1 then (64 : Int32) else x1) else (1 : Int32)) < x2 then (if (1 : Int32) < (if (64 : Int32) < x1 then (64 : Int32) else x1) then (if (64 : Int32) < x1 then (64 : Int32) else x1) else (1 : Int32)) else x2) else (0 : Int32))])) ∧ zA ws' n0 (aGA, .inl (cI, N_GA, .inl (fun _ => 0)))) ∧ ∀ j, j < n0 → j ≠ kG → ws'[j]? = ws0[j]?) (zQ dC dI cI cL (va_A ws0 sz)) (va_A ws0 sz)) 1 4096 (va_A ws0 sz) := by
  refine Met.ofW (cc := b_G_init) (maxL := 3) (ret := none) (by decide) rfl ?_
  intro p e s m args below meth c s₁ B hml hv
  obtain ⟨rfl, hsz, hP, hK, hZ, hD0⟩ := hv
  have hx := B.exec
  have hb := B.bytes
  have hr := B.returns
  have hlocks := B.notSynchronized
  have hin : meth.name = "<init>" := (name_of_methodNamed B.named B.method).1
  have hts : ∀ w ∈ BIG, w.before ([.ref aG, .int x1, .int x2] : List Value).toArray s = true := fun w h => atoms_spec (ws := w_G_init) B.pre w (List.mem_cons_of_mem _ h)
  have hown : s.vm.findClass "FractalMaps$Grid" = some m.cls := findClass_of_methodNamed B.named
  subst hsz
  have hD := hD0.self (sz := s.heap.size)
  generalize hAe : va_A ws0 s.heap.size = A at hD ⊢
  have hA : ∀ q : Nat, s.heap.size ≤ q → A q := fun q h => by rw [← hAe]; exact Or.inr h
  have hS : va_S A s.heap s.heap [] := va_S.rf
  have hw : ∀ j, j < n0 → j ≠ kG → ws0[j]? = ws0[j]? := fun _ _ _ => rfl
  have lt_G := z_lt hN_G hlen
  have hl := lv_entry ([.ref aG, .int x1, .int x2]) (n := 3) (Nat.le_of_ble_eq_true rfl)
  rw [lg_entry_eq]
  generalize (lg_sl ([.ref aG, .int x1, .int x2]) ++ List.replicate (3 - (lg_sl ([.ref aG, .int x1, .int x2])).length) Slot.unset).toArray = ls at hl ⊢
  have hl : lv_has ls 3 [(0, .ref aG), (1, .int x1), (2, .int x2)] := hl
  refine lv_aload_n hx hb d_G_init_0 rfl (lv_at hl 0 rfl) ?_
  refine W.objInit hx hb hown (hts _ k_73) (hts _ k_60) (hts _ k_61) rfl (by rw [hml]; exact hl.1) rfl d_G_init_1 (Nat.le_of_ble_eq_true rfl) (Nat.le_of_ble_eq_true rfl) ?_
  refine W.eq (g2 := F0 m 4 ls []) rfl ?_
  refine lv_aload_n hx hb d_G_init_4 rfl (lv_at hl 0 rfl) ?_
  refine lv_iconst (v := 1) hx hb d_G_init_5 (by decide) ?_
  refine lv_iload_n hx hb d_G_init_6 rfl (lv_at hl 1 rfl) ?_
  refine lv_bipush (v := 64) hx hb d_G_init_7 (by decide) ?_
  refine mm_G_9 hx hb (hml.trans hl.1.symm) hown hts (Nat.le_of_ble_eq_true rfl) (Nat.le_of_ble_eq_true rfl) (Nat.le_of_ble_eq_true rfl) (Nat.le_of_ble_eq_true rfl) d_G_init_9 ?_
  refine mm_G_15 hx hb (hml.trans hl.1.symm) hown hts (Nat.le_of_ble_eq_true rfl) (Nat.le_of_ble_eq_true rfl) (Nat.le_of_ble_eq_true rfl) (Nat.le_of_ble_eq_true rfl) d_G_init_12 ?_
  refine pI_G_18 (v := .int (if (1 : Int32) < (if (64 : Int32) < x1 then (64 : Int32) else x1) then (if (64 : Int32) < x1 then (64 : Int32) else x1) else (1 : Int32))) hx hb hts hown hK hP hD hS hin hN_G rfl rfl (Nat.le_of_ble_eq_true rfl) d_G_init_15 (fun ws H locs hP hD hS hlen1 hN_G hfr => ?_)
  have hlen := hlen1.trans hlen
  have hN_G : zA ws kG (aG, .inr (1, [.int (if (1 : Int32) < (if (64 : Int32) < x1 then (64 : Int32) else x1) then (if (64 : Int32) < x1 then (64 : Int32) else x1) else (1 : Int32)), .null, .int 0])) := hN_G
  have hw : ∀ j, j < n0 → j ≠ kG → ws[j]? = ws0[j]? := fun j h1 h2 => (hfr j h2).trans (hw j h1 h2)
  refine lv_aload_n hx hb d_G_init_18 rfl (lv_at hl 0 rfl) ?_
  refine lv_iconst (v := 0) hx hb d_G_init_19 (by decide) ?_
  refine lv_iload_n hx hb d_G_init_20 rfl (lv_at hl 2 rfl) ?_
  refine lv_aload_n hx hb d_G_init_21 rfl (lv_at hl 0 rfl) ?_
  refine gf_G_18 (v := .int (if (1 : Int32) < (if (64 : Int32) < x1 then (64 : Int32) else x1) then (if (64 : Int32) < x1 then (64 : Int32) else x1) else (1 : Int32))) hx hb hts hown hK hP hN_G rfl d_G_init_22 ?_
  refine mm_G_9 hx hb (hml.trans hl.1.symm) hown hts (Nat.le_of_ble_eq_true rfl) (Nat.le_of_ble_eq_true rfl) (Nat.le_of_ble_eq_true rfl) (Nat.le_of_ble_eq_true rfl) d_G_init_25 ?_
  refine mm_G_15 hx hb (hml.trans hl.1.symm) hown hts (Nat.le_of_ble_eq_true rfl) (Nat.le_of_ble_eq_true rfl) (Nat.le_of_ble_eq_true rfl) (Nat.le_of_ble_eq_true rfl) d_G_init_28 ?_
  refine pI_G_24 (v := .int (if (0 : Int32) < (if (if (1 : Int32) < (if (64 : Int32) < x1 then (64 : Int32) else x1) then (if (64 : Int32) < x1 then (64 : Int32) else x1) else (1 : Int32)) < x2 then (if (1 : Int32) < (if (64 : Int32) < x1 then (64 : Int32) else x1) then (if (64 : Int32) < x1 then (64 : Int32) else x1) else (1 : Int32)) else x2) then (if (if (1 : Int32) < (if (64 : Int32) < x1 then (64 : Int32) else x1) then (if (64 : Int32) < x1 then (64 : Int32) else x1) else (1 : Int32)) < x2 then (if (1 : Int32) < (if (64 : Int32) < x1 then (64 : Int32) else x1) then (if (64 : Int32) < x1 then (64 : Int32) else x1) else (1 : Int32)) else x2) else (0 : Int32))) hx hb hts hown hK hP hD hS hN_G rfl rfl (Nat.le_of_ble_eq_true rfl) d_G_init_31 (fun ws H locs hP hD hS hlen1 hN_G hfr => ?_)
  have hlen := hlen1.trans hlen
  have hN_G : zA ws kG (aG, .inr (1, [.int (if (1 : Int32) < (if (64 : Int32) < x1 then (64 : Int32) else x1) then (if (64 : Int32) < x1 then (64 : Int32) else x1) else (1 : Int32)), .null, .int (if (0 : Int32) < (if (if (1 : Int32) < (if (64 : Int32) < x1 then (64 : Int32) else x1) then (if (64 : Int32) < x1 then (64 : Int32) else x1) else (1 : Int32)) < x2 then (if (1 : Int32) < (if (64 : Int32) < x1 then (64 : Int32) else x1) then (if (64 : Int32) < x1 then (64 : Int32) else x1) else (1 : Int32)) else x2) then (if (if (1 : Int32) < (if (64 : Int32) < x1 then (64 : Int32) else x1) then (if (64 : Int32) < x1 then (64 : Int32) else x1) else (1 : Int32)) < x2 then (if (1 : Int32) < (if (64 : Int32) < x1 then (64 : Int32) else x1) then (if (64 : Int32) < x1 then (64 : Int32) else x1) else (1 : Int32)) else x2) else (0 : Int32))])) := hN_G
  have hw : ∀ j, j < n0 → j ≠ kG → ws[j]? = ws0[j]? := fun j h1 h2 => (hfr j h2).trans (hw j h1 h2)
  refine lv_aload_n hx hb d_G_init_34 rfl (lv_at hl 0 rfl) ?_
  refine lv_aload_n hx hb d_G_init_35 rfl (lv_at hl 0 rfl) ?_
  refine gf_G_18 (v := .int (if (1 : Int32) < (if (64 : Int32) < x1 then (64 : Int32) else x1) then (if (64 : Int32) < x1 then (64 : Int32) else x1) else (1 : Int32))) hx hb hts hown hK hP hN_G rfl d_G_init_36 ?_
  refine lv_aload_n hx hb d_G_init_39 rfl (lv_at hl 0 rfl) ?_
  refine gf_G_18 (v := .int (if (1 : Int32) < (if (64 : Int32) < x1 then (64 : Int32) else x1) then (if (64 : Int32) < x1 then (64 : Int32) else x1) else (1 : Int32))) hx hb hts hown hK hP hN_G rfl d_G_init_40 ?_
  refine lv_imul hx hb d_G_init_43 ?_
  refine z_newa (N := N_GA) (B := 4096) hx hb (hts _ k_91) hK hP hD hS hA hlen e1_GA e2_GA e3_GA (by decide) (Nat.le_of_ble_eq_true rfl) (Nat.le_of_ble_eq_true rfl) d_G_init_44 (fun ws aGA H hP hD hS hlen hN_GA hfr => ?_)
  have hN_G := (hfr _ lt_G).trans hN_G
  have hw : ∀ j, j < n0 → j ≠ kG → ws[j]? = ws0[j]? := fun j h1 h2 => (hfr j (by omega)).trans (hw j h1 h2)
  refine pI_G_27 (v := .ref aGA) hx hb hts hown hK hP hD hS hin hN_G rfl rfl (Nat.le_of_ble_eq_true rfl) d_G_init_46 (fun ws H locs hP hD hS hlen1 hN_G hfr => ?_)
  have hlen := hlen1.trans hlen
  have hN_G : zA ws kG (aG, .inr (1, [.int (if (1 : Int32) < (if (64 : Int32) < x1 then (64 : Int32) else x1) then (if (64 : Int32) < x1 then (64 : Int32) else x1) else (1 : Int32)), .ref aGA, .int (if (0 : Int32) < (if (if (1 : Int32) < (if (64 : Int32) < x1 then (64 : Int32) else x1) then (if (64 : Int32) < x1 then (64 : Int32) else x1) else (1 : Int32)) < x2 then (if (1 : Int32) < (if (64 : Int32) < x1 then (64 : Int32) else x1) then (if (64 : Int32) < x1 then (64 : Int32) else x1) else (1 : Int32)) else x2) then (if (if (1 : Int32) < (if (64 : Int32) < x1 then (64 : Int32) else x1) then (if (64 : Int32) < x1 then (64 : Int32) else x1) else (1 : Int32)) < x2 then (if (1 : Int32) < (if (64 : Int32) < x1 then (64 : Int32) else x1) then (if (64 : Int32) < x1 then (64 : Int32) else x1) else (1 : Int32)) else x2) else (0 : Int32))])) := hN_G
  have hN_GA := (hfr _ (by omega)).trans hN_GA
  have hw : ∀ j, j < n0 → j ≠ kG → ws[j]? = ws0[j]? := fun j h1 h2 => (hfr j h2).trans (hw j h1 h2)
  exact W.vret hx hb hr (fun t ht hW => ⟨⟨ws, rfl, ⟨hlen, ⟨aGA, hN_G, hN_GA⟩, hw⟩, by rw [ht]; exact hP, va_K.moved hW.alike hK, hD⟩, hS.F ht⟩) hS.2.2 d_G_init_49
set_option maxHeartbeats 4000000 in
set_option maxRecDepth 100000 in
theorem c_B_init (l : Launch) (dC : Nat → ClassId) (dI : Nat → Nat → Nat) (cI cL : ClassId) {ws0 : va_W} (sz : Nat) (n0 : Nat) {kB aB N_BA : Nat} (x1 : Int32) (hN_B : zA ws0 kB (aB, .inr (6, [.null, .int 0, .int 0]))) (hlen : ws0.length = n0) (e1_BA : ¬ (if (1 : Int32) < (if (2000 : Int32) < x1 then (2000 : Int32) else x1) then (if (2000 : Int32) < x1 then (2000 : Int32) else x1) else (1 : Int32)) < 0) (e2_BA : (if (1 : Int32) < (if (2000 : Int32) < x1 then (2000 : Int32) else x1) then (if (2000 : Int32) < x1 then (2000 : Int32) else x1) else (1 : Int32)).toNatClampNeg = N_BA) (e3_BA : N_BA ≤ 2000) : Met l y_B_init w_B_init rm_B_init (va_Pc [.ref aB, .int x1] (zM dC dI cI cL ws0 sz)) (va_Qv (fun ws' : va_W => ws'.length = n0 + 1 ∧ (∃ aBA, zA ws' kB (aB, .inr (6, [.ref aBA, .int 0, .int 0])) ∧ zA ws' n0 (aBA, .inl (cI, N_BA, .inl (fun _ => 0)))) ∧ ∀ j, j < n0 → j ≠ kB → ws'[j]? = ws0[j]?) (zQ dC dI cI cL (va_A ws0 sz)) (va_A ws0 sz)) 1 2000 (va_A ws0 sz) := by
  refine Met.ofW (cc := b_B_init) (maxL := 2) (ret := none) (by decide) rfl ?_
  intro p e s m args below meth c s₁ B hml hv
  obtain ⟨rfl, hsz, hP, hK, hZ, hD0⟩ := hv
  have hx := B.exec
  have hb := B.bytes
  have hr := B.returns
  have hlocks := B.notSynchronized
  have hin : meth.name = "<init>" := (name_of_methodNamed B.named B.method).1
  have hts : ∀ w ∈ BIG, w.before ([.ref aB, .int x1] : List Value).toArray s = true := fun w h => atoms_spec (ws := w_B_init) B.pre w (List.mem_cons_of_mem _ h)
  have hown : s.vm.findClass "FractalMaps$Bits" = some m.cls := findClass_of_methodNamed B.named
  subst hsz
  have hD := hD0.self (sz := s.heap.size)
  generalize hAe : va_A ws0 s.heap.size = A at hD ⊢
  have hA : ∀ q : Nat, s.heap.size ≤ q → A q := fun q h => by rw [← hAe]; exact Or.inr h
  have hS : va_S A s.heap s.heap [] := va_S.rf
  have hw : ∀ j, j < n0 → j ≠ kB → ws0[j]? = ws0[j]? := fun _ _ _ => rfl
  have lt_B := z_lt hN_B hlen
  have hl := lv_entry ([.ref aB, .int x1]) (n := 2) (Nat.le_of_ble_eq_true rfl)
  rw [lg_entry_eq]
  generalize (lg_sl ([.ref aB, .int x1]) ++ List.replicate (2 - (lg_sl ([.ref aB, .int x1])).length) Slot.unset).toArray = ls at hl ⊢
  have hl : lv_has ls 2 [(0, .ref aB), (1, .int x1)] := hl
  refine lv_aload_n hx hb d_B_init_0 rfl (lv_at hl 0 rfl) ?_
  refine W.objInit hx hb hown (hts _ k_226) (hts _ k_60) (hts _ k_61) rfl (by rw [hml]; exact hl.1) rfl d_B_init_1 (Nat.le_of_ble_eq_true rfl) (Nat.le_of_ble_eq_true rfl) ?_
  refine W.eq (g2 := F0 m 4 ls []) rfl ?_
  refine lv_aload_n hx hb d_B_init_4 rfl (lv_at hl 0 rfl) ?_
  refine lv_iconst (v := 1) hx hb d_B_init_5 (by decide) ?_
  refine lv_iload_n hx hb d_B_init_6 rfl (lv_at hl 1 rfl) ?_
  refine lv_sipush (v := 2000) hx hb d_B_init_7 (by decide) ?_
  refine mm_B_9 hx hb (hml.trans hl.1.symm) hown hts (Nat.le_of_ble_eq_true rfl) (Nat.le_of_ble_eq_true rfl) (Nat.le_of_ble_eq_true rfl) (Nat.le_of_ble_eq_true rfl) d_B_init_10 ?_
  refine mm_B_15 hx hb (hml.trans hl.1.symm) hown hts (Nat.le_of_ble_eq_true rfl) (Nat.le_of_ble_eq_true rfl) (Nat.le_of_ble_eq_true rfl) (Nat.le_of_ble_eq_true rfl) d_B_init_13 ?_
  refine z_newa (N := N_BA) (B := 2000) hx hb (hts _ k_91) hK hP hD hS hA hlen e1_BA e2_BA e3_BA (by decide) (Nat.le_of_ble_eq_true rfl) (Nat.le_of_ble_eq_true rfl) d_B_init_16 (fun ws aBA H hP hD hS hlen hN_BA hfr => ?_)
  have hN_B := (hfr _ lt_B).trans hN_B
  have hw : ∀ j, j < n0 → j ≠ kB → ws[j]? = ws0[j]? := fun j h1 h2 => (hfr j (by omega)).trans (hw j h1 h2)
  refine pI_B_18 (v := .ref aBA) hx hb hts hown hK hP hD hS hin hN_B rfl rfl (Nat.le_of_ble_eq_true rfl) d_B_init_18 (fun ws H locs hP hD hS hlen1 hN_B hfr => ?_)
  have hlen := hlen1.trans hlen
  have hN_B : zA ws kB (aB, .inr (6, [.ref aBA, .int 0, .int 0])) := hN_B
  have hN_BA := (hfr _ (by omega)).trans hN_BA
  have hw : ∀ j, j < n0 → j ≠ kB → ws[j]? = ws0[j]? := fun j h1 h2 => (hfr j h2).trans (hw j h1 h2)
  exact W.vret hx hb hr (fun t ht hW => ⟨⟨ws, rfl, ⟨hlen, ⟨aBA, hN_B, hN_BA⟩, hw⟩, by rw [ht]; exact hP, va_K.moved hW.alike hK, hD⟩, hS.F ht⟩) hS.2.2 d_B_init_21
set_option maxHeartbeats 4000000 in
set_option maxRecDepth 100000 in
theorem c_K_init (l : Launch) (dC : Nat → ClassId) (dI : Nat → Nat → Nat) (cI cL : ClassId) {ws0 : va_W} (sz : Nat) (n0 : Nat) {kK aK N_KA : Nat} (x1 : Int32) (hN_K : zA ws0 kK (aK, .inr (5, [.null, .int 0]))) (hlen : ws0.length = n0) (e1_KA : ¬ ((8 : Int32) * (if (1 : Int32) < (if (256 : Int32) < x1 then (256 : Int32) else x1) then (if (256 : Int32) < x1 then (256 : Int32) else x1) else (1 : Int32))) < 0) (e2_KA : ((8 : Int32) * (if (1 : Int32) < (if (256 : Int32) < x1 then (256 : Int32) else x1) then (if (256 : Int32) < x1 then (256 : Int32) else x1) else (1 : Int32))).toNatClampNeg = N_KA) (e3_KA : N_KA ≤ 2048) : Met l y_K_init w_K_init rm_K_init (va_Pc [.ref aK, .int x1] (zM dC dI cI cL ws0 sz)) (va_Qv (fun ws' : va_W => ws'.length = n0 + 1 ∧ (∃ aKA, zA ws' kK (aK, .inr (5, [.ref aKA, .int 0])) ∧ zA ws' n0 (aKA, .inl (cI, N_KA, .inl (fun _ => 0)))) ∧ ∀ j, j < n0 → j ≠ kK → ws'[j]? = ws0[j]?) (zQ dC dI cI cL (va_A ws0 sz)) (va_A ws0 sz)) 1 2048 (va_A ws0 sz) := by
  refine Met.ofW (cc := b_K_init) (maxL := 2) (ret := none) (by decide) rfl ?_
  intro p e s m args below meth c s₁ B hml hv
  obtain ⟨rfl, hsz, hP, hK, hZ, hD0⟩ := hv
  have hx := B.exec
  have hb := B.bytes
  have hr := B.returns
  have hlocks := B.notSynchronized
  have hin : meth.name = "<init>" := (name_of_methodNamed B.named B.method).1
  have hts : ∀ w ∈ BIG, w.before ([.ref aK, .int x1] : List Value).toArray s = true := fun w h => atoms_spec (ws := w_K_init) B.pre w (List.mem_cons_of_mem _ h)
  have hown : s.vm.findClass "FractalMaps$Blocks" = some m.cls := findClass_of_methodNamed B.named
  subst hsz
  have hD := hD0.self (sz := s.heap.size)
  generalize hAe : va_A ws0 s.heap.size = A at hD ⊢
  have hA : ∀ q : Nat, s.heap.size ≤ q → A q := fun q h => by rw [← hAe]; exact Or.inr h
  have hS : va_S A s.heap s.heap [] := va_S.rf
  have hw : ∀ j, j < n0 → j ≠ kK → ws0[j]? = ws0[j]? := fun _ _ _ => rfl
  have lt_K := z_lt hN_K hlen
  have hl := lv_entry ([.ref aK, .int x1]) (n := 2) (Nat.le_of_ble_eq_true rfl)
  rw [lg_entry_eq]
  generalize (lg_sl ([.ref aK, .int x1]) ++ List.replicate (2 - (lg_sl ([.ref aK, .int x1])).length) Slot.unset).toArray = ls at hl ⊢
  have hl : lv_has ls 2 [(0, .ref aK), (1, .int x1)] := hl
  refine lv_aload_n hx hb d_K_init_0 rfl (lv_at hl 0 rfl) ?_
  refine W.objInit hx hb hown (hts _ k_208) (hts _ k_60) (hts _ k_61) rfl (by rw [hml]; exact hl.1) rfl d_K_init_1 (Nat.le_of_ble_eq_true rfl) (Nat.le_of_ble_eq_true rfl) ?_
  refine W.eq (g2 := F0 m 4 ls []) rfl ?_
  refine lv_aload_n hx hb d_K_init_4 rfl (lv_at hl 0 rfl) ?_
  refine lv_bipush (v := 8) hx hb d_K_init_5 (by decide) ?_
  refine lv_iconst (v := 1) hx hb d_K_init_7 (by decide) ?_
  refine lv_iload_n hx hb d_K_init_8 rfl (lv_at hl 1 rfl) ?_
  refine lv_sipush (v := 256) hx hb d_K_init_9 (by decide) ?_
  refine mm_K_11 hx hb (hml.trans hl.1.symm) hown hts (Nat.le_of_ble_eq_true rfl) (Nat.le_of_ble_eq_true rfl) (Nat.le_of_ble_eq_true rfl) (Nat.le_of_ble_eq_true rfl) d_K_init_12 ?_
  refine mm_K_17 hx hb (hml.trans hl.1.symm) hown hts (Nat.le_of_ble_eq_true rfl) (Nat.le_of_ble_eq_true rfl) (Nat.le_of_ble_eq_true rfl) (Nat.le_of_ble_eq_true rfl) d_K_init_15 ?_
  refine lv_imul hx hb d_K_init_18 ?_
  refine z_newa (N := N_KA) (B := 2048) hx hb (hts _ k_91) hK hP hD hS hA hlen e1_KA e2_KA e3_KA (by decide) (Nat.le_of_ble_eq_true rfl) (Nat.le_of_ble_eq_true rfl) d_K_init_19 (fun ws aKA H hP hD hS hlen hN_KA hfr => ?_)
  have hN_K := (hfr _ lt_K).trans hN_K
  have hw : ∀ j, j < n0 → j ≠ kK → ws[j]? = ws0[j]? := fun j h1 h2 => (hfr j (by omega)).trans (hw j h1 h2)
  refine pI_K_20 (v := .ref aKA) hx hb hts hown hK hP hD hS hin hN_K rfl rfl (Nat.le_of_ble_eq_true rfl) d_K_init_21 (fun ws H locs hP hD hS hlen1 hN_K hfr => ?_)
  have hlen := hlen1.trans hlen
  have hN_K : zA ws kK (aK, .inr (5, [.ref aKA, .int 0])) := hN_K
  have hN_KA := (hfr _ (by omega)).trans hN_KA
  have hw : ∀ j, j < n0 → j ≠ kK → ws[j]? = ws0[j]? := fun j h1 h2 => (hfr j h2).trans (hw j h1 h2)
  exact W.vret hx hb hr (fun t ht hW => ⟨⟨ws, rfl, ⟨hlen, ⟨aKA, hN_K, hN_KA⟩, hw⟩, by rw [ht]; exact hP, va_K.moved hW.alike hK, hD⟩, hS.F ht⟩) hS.2.2 d_K_init_24
set_option maxHeartbeats 4000000 in
set_option maxRecDepth 100000 in
theorem c_T_init (l : Launch) (dC : Nat → ClassId) (dI : Nat → Nat → Nat) (cI cL : ClassId) {ws0 : va_W} (sz : Nat) (n0 : Nat) {kT aT : Nat} (hN_T : zA ws0 kT (aT, .inr (4, [.int 0, .int 0, .int 0, .int 0, .int 0]))) (hlen : ws0.length = n0) : Met l y_T_init w_T_init rm_T_init (va_Pc [.ref aT] (zM dC dI cI cL ws0 sz)) (va_Qv (fun ws' : va_W => ws'.length = n0 ∧ (zA ws' kT (aT, .inr (4, [.int 0, .int 0, .int 0, .int 0, .int 0]))) ∧ ∀ j, j < n0 → j ≠ kT → ws'[j]? = ws0[j]?) (zQ dC dI cI cL (va_A ws0 sz)) (va_A ws0 sz)) 0 0 (va_A ws0 sz) := by
  refine Met.ofW (cc := b_T_init) (maxL := 1) (ret := none) (by decide) rfl ?_
  intro p e s m args below meth c s₁ B hml hv
  obtain ⟨rfl, hsz, hP, hK, hZ, hD0⟩ := hv
  have hx := B.exec
  have hb := B.bytes
  have hr := B.returns
  have hlocks := B.notSynchronized
  have hin : meth.name = "<init>" := (name_of_methodNamed B.named B.method).1
  have hts : ∀ w ∈ BIG, w.before ([.ref aT] : List Value).toArray s = true := fun w h => atoms_spec (ws := w_T_init) B.pre w (List.mem_cons_of_mem _ h)
  have hown : s.vm.findClass "FractalMaps$Fit" = some m.cls := findClass_of_methodNamed B.named
  subst hsz
  have hD := hD0.self (sz := s.heap.size)
  generalize hAe : va_A ws0 s.heap.size = A at hD ⊢
  have hA : ∀ q : Nat, s.heap.size ≤ q → A q := fun q h => by rw [← hAe]; exact Or.inr h
  have hS : va_S A s.heap s.heap [] := va_S.rf
  have hw : ∀ j, j < n0 → j ≠ kT → ws0[j]? = ws0[j]? := fun _ _ _ => rfl
  have lt_T := z_lt hN_T hlen
  have hl := lv_entry ([.ref aT]) (n := 1) (Nat.le_of_ble_eq_true rfl)
  rw [lg_entry_eq]
  generalize (lg_sl ([.ref aT]) ++ List.replicate (1 - (lg_sl ([.ref aT])).length) Slot.unset).toArray = ls at hl ⊢
  have hl : lv_has ls 1 [(0, .ref aT)] := hl
  refine lv_aload_n hx hb d_T_init_0 rfl (lv_at hl 0 rfl) ?_
  refine W.objInit hx hb hown (hts _ k_130) (hts _ k_60) (hts _ k_61) rfl (by rw [hml]; exact hl.1) rfl d_T_init_1 (Nat.le_of_ble_eq_true rfl) (Nat.le_of_ble_eq_true rfl) ?_
  refine W.eq (g2 := F0 m 4 ls []) rfl ?_
  exact W.vret hx hb hr (fun t ht hW => ⟨⟨ws0, rfl, ⟨hlen, hN_T, hw⟩, by rw [ht]; exact hP, va_K.moved hW.alike hK, hD⟩, hS.F ht⟩) hS.2.2 d_T_init_4
set_option maxHeartbeats 4000000 in
set_option maxRecDepth 100000 in
theorem c_V_init (l : Launch) (dC : Nat → ClassId) (dI : Nat → Nat → Nat) (cI cL : ClassId) {ws0 : va_W} (sz : Nat) {aV aH : Nat} (hN_V : zA ws0 7 (aV, .inr (2, [.null, .int 0, .int 0, .int 0, .int 0, .int 0]))) (hlen : ws0.length = 8) : Met l y_V_init w_V_init rm_V_init (va_Pc [.ref aV, .ref aH] (zM dC dI cI cL ws0 sz)) (va_Qv (fun ws' : va_W => ws'.length = 8 ∧ (zA ws' 7 (aV, .inr (2, [.ref aH, .int 0, .int 0, .int 0, .int 0, .int 0]))) ∧ ∀ j, j < 8 → j ≠ 7 → ws'[j]? = ws0[j]?) (zQ dC dI cI cL (va_A ws0 sz)) (va_A ws0 sz)) 0 0 (va_A ws0 sz) := by
  refine Met.ofW (cc := b_V_init) (maxL := 2) (ret := none) (by decide) rfl ?_
  intro p e s m args below meth c s₁ B hml hv
  obtain ⟨rfl, hsz, hP, hK, hZ, hD0⟩ := hv
  have hx := B.exec
  have hb := B.bytes
  have hr := B.returns
  have hlocks := B.notSynchronized
  have hin : meth.name = "<init>" := (name_of_methodNamed B.named B.method).1
  have hts : ∀ w ∈ BIG, w.before ([.ref aV, .ref aH] : List Value).toArray s = true := fun w h => atoms_spec (ws := w_V_init) B.pre w (List.mem_cons_of_mem _ h)
  have hown : s.vm.findClass "FractalMaps$View" = some m.cls := findClass_of_methodNamed B.named
  subst hsz
  have hD := hD0.self (sz := s.heap.size)
  generalize hAe : va_A ws0 s.heap.size = A at hD ⊢
  have hA : ∀ q : Nat, s.heap.size ≤ q → A q := fun q h => by rw [← hAe]; exact Or.inr h
  have hS : va_S A s.heap s.heap [] := va_S.rf
  have hw : ∀ j, j < 8 → j ≠ 7 → ws0[j]? = ws0[j]? := fun _ _ _ => rfl
  have hl := lv_entry ([.ref aV, .ref aH]) (n := 2) (Nat.le_of_ble_eq_true rfl)
  rw [lg_entry_eq]
  generalize (lg_sl ([.ref aV, .ref aH]) ++ List.replicate (2 - (lg_sl ([.ref aV, .ref aH])).length) Slot.unset).toArray = ls at hl ⊢
  have hl : lv_has ls 2 [(0, .ref aV), (1, .ref aH)] := hl
  refine lv_aload_n hx hb d_V_init_0 rfl (lv_at hl 0 rfl) ?_
  refine W.objInit hx hb hown (hts _ k_97) (hts _ k_60) (hts _ k_61) rfl (by rw [hml]; exact hl.1) rfl d_V_init_1 (Nat.le_of_ble_eq_true rfl) (Nat.le_of_ble_eq_true rfl) ?_
  refine W.eq (g2 := F0 m 4 ls []) rfl ?_
  refine lv_aload_n hx hb d_V_init_4 rfl (lv_at hl 0 rfl) ?_
  refine lv_aload_n hx hb d_V_init_5 rfl (lv_at hl 1 rfl) ?_
  refine pI_V_7 (v := .ref aH) hx hb hts hown hK hP hD hS hin hN_V rfl rfl (Nat.le_of_ble_eq_true rfl) d_V_init_6 (fun ws H locs hP hD hS hlen1 hN_V hfr => ?_)
  have hlen := hlen1.trans hlen
  have hN_V : zA ws 7 (aV, .inr (2, [.ref aH, .int 0, .int 0, .int 0, .int 0, .int 0])) := hN_V
  have hw : ∀ j, j < 8 → j ≠ 7 → ws[j]? = ws0[j]? := fun j h1 h2 => (hfr j h2).trans (hw j h1 h2)
  exact W.vret hx hb hr (fun t ht hW => ⟨⟨ws, rfl, ⟨hlen, hN_V, hw⟩, by rw [ht]; exact hP, va_K.moved hW.alike hK, hD⟩, hS.F ht⟩) hS.2.2 d_V_init_9
set_option maxHeartbeats 4000000 in
set_option maxRecDepth 100000 in
theorem c_S_init (l : Launch) (dC : Nat → ClassId) (dI : Nat → Nat → Nat) (cI cL : ClassId) {ws0 : va_W} (sz : Nat) {aS aP aH aV N_W N_D aPA PA_n : Nat} {P_mostSide P_side : Int32} {PA_f : Nat → Int32} (hN_S : zA ws0 8 (aS, .inr (3, [.null, .null, .null, .null, .null, .null, .null, .null, .int 0, .int 0, .int 0, .int 0, .int 0, .int 0]))) (hN_P : zA ws0 1 (aP, .inr (1, [.int P_mostSide, .ref aPA, .int P_side]))) (hN_PA : zA ws0 2 (aPA, .inl (cI, PA_n, .inl PA_f))) (hlen : ws0.length = 9) (e1_W : ¬ ((nI PA_n) / (4 : Int32)) < 0) (e2_W : ((nI PA_n) / (4 : Int32)).toNatClampNeg = N_W) (e3_W : N_W ≤ 1024) (e1_D : ¬ ((nI PA_n) / (4 : Int32)) < 0) (e2_D : ((nI PA_n) / (4 : Int32)).toNatClampNeg = N_D) (e3_D : N_D ≤ 1024) : Met l y_S_init w_S_init rm_S_init (va_Pc [.ref aS, .ref aP, .ref aH, .ref aV] (zM dC dI cI cL ws0 sz)) (va_Qv (fun ws' : va_W => ws'.length = 14 ∧ (∃ aW aD aQ aR aE, zA ws' 8 (aS, .inr (3, [.ref aP, .ref aH, .ref aV, .ref aW, .ref aD, .ref aQ, .ref aR, .ref aE, .int 0, .int 0, .int 0, .int 0, .int 0, .int 0])) ∧ zA ws' 9 (aW, .inl (cI, N_W, .inl (fun _ => 0))) ∧ zA ws' 10 (aD, .inl (cI, N_D, .inl (fun _ => 0))) ∧ zA ws' 11 (aQ, .inl (cI, 4, .inl (fun _ => 0))) ∧ zA ws' 12 (aR, .inl (cI, 8, .inl (fun _ => 0))) ∧ zA ws' 13 (aE, .inr (4, [.int 0, .int 0, .int 0, .int 0, .int 0]))) ∧ ∀ j, j < 9 → j ≠ 8 → ws'[j]? = ws0[j]?) (zQ dC dI cI cL (va_A ws0 sz)) (va_A ws0 sz)) 5 2065 (va_A ws0 sz) := by
  refine Met.ofW (cc := b_S_init) (maxL := 5) (ret := none) (by decide) rfl ?_
  intro p e s m args below meth c s₁ B hml hv
  obtain ⟨rfl, hsz, hP, hK, hZ, hD0⟩ := hv
  have hx := B.exec
  have hb := B.bytes
  have hr := B.returns
  have hlocks := B.notSynchronized
  have hin : meth.name = "<init>" := (name_of_methodNamed B.named B.method).1
  have hts : ∀ w ∈ BIG, w.before ([.ref aS, .ref aP, .ref aH, .ref aV] : List Value).toArray s = true := fun w h => atoms_spec (ws := w_S_init) B.pre w (List.mem_cons_of_mem _ h)
  have hown : s.vm.findClass "FractalMaps$Search" = some m.cls := findClass_of_methodNamed B.named
  subst hsz
  have hD := hD0.self (sz := s.heap.size)
  generalize hAe : va_A ws0 s.heap.size = A at hD ⊢
  have hA : ∀ q : Nat, s.heap.size ≤ q → A q := fun q h => by rw [← hAe]; exact Or.inr h
  have hS : va_S A s.heap s.heap [] := va_S.rf
  have hw : ∀ j, j < 9 → j ≠ 8 → ws0[j]? = ws0[j]? := fun _ _ _ => rfl
  have hl := lv_entry ([.ref aS, .ref aP, .ref aH, .ref aV]) (n := 5) (Nat.le_of_ble_eq_true rfl)
  rw [lg_entry_eq]
  generalize (lg_sl ([.ref aS, .ref aP, .ref aH, .ref aV]) ++ List.replicate (5 - (lg_sl ([.ref aS, .ref aP, .ref aH, .ref aV])).length) Slot.unset).toArray = ls at hl ⊢
  have hl : lv_has ls 5 [(0, .ref aS), (1, .ref aP), (2, .ref aH), (3, .ref aV)] := hl
  refine lv_aload_n hx hb d_S_init_0 rfl (lv_at hl 0 rfl) ?_
  refine W.objInit hx hb hown (hts _ k_124) (hts _ k_60) (hts _ k_61) rfl (by rw [hml]; exact hl.1) rfl d_S_init_1 (Nat.le_of_ble_eq_true rfl) (Nat.le_of_ble_eq_true rfl) ?_
  refine W.eq (g2 := F0 m 4 ls []) rfl ?_
  refine lv_aload_n hx hb d_S_init_4 rfl (lv_at hl 0 rfl) ?_
  refine lv_aload_n hx hb d_S_init_5 rfl (lv_at hl 1 rfl) ?_
  refine pI_S_9 (v := .ref aP) hx hb hts hown hK hP hD hS hin hN_S rfl rfl (Nat.le_of_ble_eq_true rfl) d_S_init_6 (fun ws H locs hP hD hS hlen1 hN_S hfr => ?_)
  have hlen := hlen1.trans hlen
  have hN_S : zA ws 8 (aS, .inr (3, [.ref aP, .null, .null, .null, .null, .null, .null, .null, .int 0, .int 0, .int 0, .int 0, .int 0, .int 0])) := hN_S
  have hN_P := (hfr _ (by decide)).trans hN_P
  have hN_PA := (hfr _ (by decide)).trans hN_PA
  have hw : ∀ j, j < 9 → j ≠ 8 → ws[j]? = ws0[j]? := fun j h1 h2 => (hfr j h2).trans (hw j h1 h2)
  refine lv_aload_n hx hb d_S_init_9 rfl (lv_at hl 0 rfl) ?_
  refine lv_aload_n hx hb d_S_init_10 rfl (lv_at hl 2 rfl) ?_
  refine pI_S_15 (v := .ref aH) hx hb hts hown hK hP hD hS hin hN_S rfl rfl (Nat.le_of_ble_eq_true rfl) d_S_init_11 (fun ws H locs hP hD hS hlen1 hN_S hfr => ?_)
  have hlen := hlen1.trans hlen
  have hN_S : zA ws 8 (aS, .inr (3, [.ref aP, .ref aH, .null, .null, .null, .null, .null, .null, .int 0, .int 0, .int 0, .int 0, .int 0, .int 0])) := hN_S
  have hN_P := (hfr _ (by decide)).trans hN_P
  have hN_PA := (hfr _ (by decide)).trans hN_PA
  have hw : ∀ j, j < 9 → j ≠ 8 → ws[j]? = ws0[j]? := fun j h1 h2 => (hfr j h2).trans (hw j h1 h2)
  refine lv_aload_n hx hb d_S_init_14 rfl (lv_at hl 0 rfl) ?_
  refine lv_aload_n hx hb d_S_init_15 rfl (lv_at hl 3 rfl) ?_
  refine pI_S_18 (v := .ref aV) hx hb hts hown hK hP hD hS hin hN_S rfl rfl (Nat.le_of_ble_eq_true rfl) d_S_init_16 (fun ws H locs hP hD hS hlen1 hN_S hfr => ?_)
  have hlen := hlen1.trans hlen
  have hN_S : zA ws 8 (aS, .inr (3, [.ref aP, .ref aH, .ref aV, .null, .null, .null, .null, .null, .int 0, .int 0, .int 0, .int 0, .int 0, .int 0])) := hN_S
  have hN_P := (hfr _ (by decide)).trans hN_P
  have hN_PA := (hfr _ (by decide)).trans hN_PA
  have hw : ∀ j, j < 9 → j ≠ 8 → ws[j]? = ws0[j]? := fun j h1 h2 => (hfr j h2).trans (hw j h1 h2)
  refine lv_aload_n hx hb d_S_init_19 rfl (lv_at hl 1 rfl) ?_
  refine gf_S_22 (v := .ref aPA) hx hb hts hown hK hZ hP hN_P rfl d_S_init_20 ?_
  refine va_alen (v := nI PA_n) hx hb hK hP _ 0 hN_PA rfl rfl d_S_init_23 ?_
  refine lv_iconst (v := 4) hx hb d_S_init_24 (by decide) ?_
  refine lv_idiv hx hb d_S_init_25 (by decide) ?_
  refine lv_istore (lv' := [(4, .int ((nI PA_n) / (4 : Int32))), (0, .ref aS), (1, .ref aP), (2, .ref aH), (3, .ref aV)]) hx hb d_S_init_26 hl (by decide) rfl (fun ls hl => ?_)
  refine lv_aload_n hx hb d_S_init_28 rfl (lv_at hl 1 rfl) ?_
  refine lv_iload hx hb d_S_init_29 (lv_at hl 0 rfl) ?_
  refine z_newa (N := N_W) (B := 1024) hx hb (hts _ k_91) hK hP hD hS hA hlen e1_W e2_W e3_W (by decide) (Nat.le_of_ble_eq_true rfl) (Nat.le_of_ble_eq_true rfl) d_S_init_31 (fun ws aW H hP hD hS hlen hN_W hfr => ?_)
  have hN_S := (hfr _ (by decide)).trans hN_S
  have hN_P := (hfr _ (by decide)).trans hN_P
  have hN_PA := (hfr _ (by decide)).trans hN_PA
  have hlen : ws.length = 10 := hlen
  have hw : ∀ j, j < 9 → j ≠ 8 → ws[j]? = ws0[j]? := fun j h1 h2 => (hfr j (by omega)).trans (hw j h1 h2)
  refine pI_S_28 (v := .ref aW) hx hb hts hown hK hP hD hS hin hN_S rfl rfl (Nat.le_of_ble_eq_true rfl) d_S_init_33 (fun ws H locs hP hD hS hlen1 hN_S hfr => ?_)
  have hlen := hlen1.trans hlen
  have hN_S : zA ws 8 (aS, .inr (3, [.ref aP, .ref aH, .ref aV, .ref aW, .null, .null, .null, .null, .int 0, .int 0, .int 0, .int 0, .int 0, .int 0])) := hN_S
  have hN_P := (hfr _ (by decide)).trans hN_P
  have hN_PA := (hfr _ (by decide)).trans hN_PA
  have hN_W := (hfr _ (by decide)).trans hN_W
  have hw : ∀ j, j < 9 → j ≠ 8 → ws[j]? = ws0[j]? := fun j h1 h2 => (hfr j h2).trans (hw j h1 h2)
  refine lv_aload_n hx hb d_S_init_36 rfl (lv_at hl 1 rfl) ?_
  refine lv_iload hx hb d_S_init_37 (lv_at hl 0 rfl) ?_
  refine z_newa (N := N_D) (B := 1024) hx hb (hts _ k_91) hK hP hD hS hA hlen e1_D e2_D e3_D (by decide) (Nat.le_of_ble_eq_true rfl) (Nat.le_of_ble_eq_true rfl) d_S_init_39 (fun ws aD H hP hD hS hlen hN_D hfr => ?_)
  have hN_S := (hfr _ (by decide)).trans hN_S
  have hN_P := (hfr _ (by decide)).trans hN_P
  have hN_PA := (hfr _ (by decide)).trans hN_PA
  have hN_W := (hfr _ (by decide)).trans hN_W
  have hlen : ws.length = 11 := hlen
  have hw : ∀ j, j < 9 → j ≠ 8 → ws[j]? = ws0[j]? := fun j h1 h2 => (hfr j (by omega)).trans (hw j h1 h2)
  refine pI_S_31 (v := .ref aD) hx hb hts hown hK hP hD hS hin hN_S rfl rfl (Nat.le_of_ble_eq_true rfl) d_S_init_41 (fun ws H locs hP hD hS hlen1 hN_S hfr => ?_)
  have hlen := hlen1.trans hlen
  have hN_S : zA ws 8 (aS, .inr (3, [.ref aP, .ref aH, .ref aV, .ref aW, .ref aD, .null, .null, .null, .int 0, .int 0, .int 0, .int 0, .int 0, .int 0])) := hN_S
  have hN_P := (hfr _ (by decide)).trans hN_P
  have hN_PA := (hfr _ (by decide)).trans hN_PA
  have hN_W := (hfr _ (by decide)).trans hN_W
  have hN_D := (hfr _ (by decide)).trans hN_D
  have hw : ∀ j, j < 9 → j ≠ 8 → ws[j]? = ws0[j]? := fun j h1 h2 => (hfr j h2).trans (hw j h1 h2)
  refine lv_aload_n hx hb d_S_init_44 rfl (lv_at hl 1 rfl) ?_
  refine lv_iconst (v := 4) hx hb d_S_init_45 (by decide) ?_
  refine z_newa (N := 4) (B := 4) hx hb (hts _ k_91) hK hP hD hS hA hlen (by decide) (by decide) (by decide) (by decide) (Nat.le_of_ble_eq_true rfl) (Nat.le_of_ble_eq_true rfl) d_S_init_46 (fun ws aQ H hP hD hS hlen hN_Q hfr => ?_)
  have hN_S := (hfr _ (by decide)).trans hN_S
  have hN_P := (hfr _ (by decide)).trans hN_P
  have hN_PA := (hfr _ (by decide)).trans hN_PA
  have hN_W := (hfr _ (by decide)).trans hN_W
  have hN_D := (hfr _ (by decide)).trans hN_D
  have hlen : ws.length = 12 := hlen
  have hw : ∀ j, j < 9 → j ≠ 8 → ws[j]? = ws0[j]? := fun j h1 h2 => (hfr j (by omega)).trans (hw j h1 h2)
  refine pI_S_34 (v := .ref aQ) hx hb hts hown hK hP hD hS hin hN_S rfl rfl (Nat.le_of_ble_eq_true rfl) d_S_init_48 (fun ws H locs hP hD hS hlen1 hN_S hfr => ?_)
  have hlen := hlen1.trans hlen
  have hN_S : zA ws 8 (aS, .inr (3, [.ref aP, .ref aH, .ref aV, .ref aW, .ref aD, .ref aQ, .null, .null, .int 0, .int 0, .int 0, .int 0, .int 0, .int 0])) := hN_S
  have hN_P := (hfr _ (by decide)).trans hN_P
  have hN_PA := (hfr _ (by decide)).trans hN_PA
  have hN_W := (hfr _ (by decide)).trans hN_W
  have hN_D := (hfr _ (by decide)).trans hN_D
  have hN_Q := (hfr _ (by decide)).trans hN_Q
  have hw : ∀ j, j < 9 → j ≠ 8 → ws[j]? = ws0[j]? := fun j h1 h2 => (hfr j h2).trans (hw j h1 h2)
  refine lv_aload_n hx hb d_S_init_51 rfl (lv_at hl 1 rfl) ?_
  refine lv_bipush (v := 8) hx hb d_S_init_52 (by decide) ?_
  refine z_newa (N := 8) (B := 8) hx hb (hts _ k_91) hK hP hD hS hA hlen (by decide) (by decide) (by decide) (by decide) (Nat.le_of_ble_eq_true rfl) (Nat.le_of_ble_eq_true rfl) d_S_init_54 (fun ws aR H hP hD hS hlen hN_R hfr => ?_)
  have hN_S := (hfr _ (by decide)).trans hN_S
  have hN_P := (hfr _ (by decide)).trans hN_P
  have hN_PA := (hfr _ (by decide)).trans hN_PA
  have hN_W := (hfr _ (by decide)).trans hN_W
  have hN_D := (hfr _ (by decide)).trans hN_D
  have hN_Q := (hfr _ (by decide)).trans hN_Q
  have hlen : ws.length = 13 := hlen
  have hw : ∀ j, j < 9 → j ≠ 8 → ws[j]? = ws0[j]? := fun j h1 h2 => (hfr j (by omega)).trans (hw j h1 h2)
  refine pI_S_37 (v := .ref aR) hx hb hts hown hK hP hD hS hin hN_S rfl rfl (Nat.le_of_ble_eq_true rfl) d_S_init_56 (fun ws H locs hP hD hS hlen1 hN_S hfr => ?_)
  have hlen := hlen1.trans hlen
  have hN_S : zA ws 8 (aS, .inr (3, [.ref aP, .ref aH, .ref aV, .ref aW, .ref aD, .ref aQ, .ref aR, .null, .int 0, .int 0, .int 0, .int 0, .int 0, .int 0])) := hN_S
  have hN_P := (hfr _ (by decide)).trans hN_P
  have hN_PA := (hfr _ (by decide)).trans hN_PA
  have hN_W := (hfr _ (by decide)).trans hN_W
  have hN_D := (hfr _ (by decide)).trans hN_D
  have hN_Q := (hfr _ (by decide)).trans hN_Q
  have hN_R := (hfr _ (by decide)).trans hN_R
  have hw : ∀ j, j < 9 → j ≠ 8 → ws[j]? = ws0[j]? := fun j h1 h2 => (hfr j h2).trans (hw j h1 h2)
  refine lv_aload_n hx hb d_S_init_59 rfl (lv_at hl 1 rfl) ?_
  refine z_new (ci := 4) (C := "FractalMaps$Fit") (T := F_T) (N := 5) hx hb hts i_T ty_T ty_T_ok hown k_125 k_126 k_42 hK hP hD hS hA hlen rfl df_T (Nat.le_of_ble_eq_true rfl) (Nat.le_of_ble_eq_true rfl) d_S_init_60 (fun ws aE H hP hD hS hlen hN_E hfr => ?_)
  have hN_S := (hfr _ (by decide)).trans hN_S
  have hN_P := (hfr _ (by decide)).trans hN_P
  have hN_PA := (hfr _ (by decide)).trans hN_PA
  have hN_W := (hfr _ (by decide)).trans hN_W
  have hN_D := (hfr _ (by decide)).trans hN_D
  have hN_Q := (hfr _ (by decide)).trans hN_Q
  have hN_R := (hfr _ (by decide)).trans hN_R
  have hlen : ws.length = 14 := hlen
  have hw : ∀ j, j < 9 → j ≠ 8 → ws[j]? = ws0[j]? := fun j h1 h2 => (hfr j (by omega)).trans (hw j h1 h2)
  refine lv_dup hx hb d_S_init_63 rfl ?_
  have hFc := z_free hD hS hA
  refine va_callv (va_runIN (As := []) (rest := [.ref aE, .ref aS]) ⟨hx, hb, hml, hown, hts⟩ (c_T_init l dC dI cI cL _ 14  hN_E hlen ) (cw_S_42 hts hZ ⟨Nat.le_of_ble_eq_true rfl, Nat.le_of_ble_eq_true rfl⟩) ⟨zbM, zpM hP hK hZ hD⟩ rfl rfl hl.1 rfl (lv_room (Nat.le_of_ble_eq_true rfl)) d_S_init_64 ⟨Nat.le_of_ble_eq_true rfl, Nat.le_of_ble_eq_true rfl⟩) hS (fun q _ h => hFc q h) hFc (fun ws t H locs ht hvm hu hB hz1 hk1 hS => ?_)
  obtain ⟨hlen, hN_E, hfr⟩ := hu
  obtain ⟨hP, -, hD1⟩ := hB
  rw [ht] at hP
  have hD := hD1.weaken (fun _ _ _ h => hFc _ h)
  have hN_E : zA ws 13 (aE, .inr (4, [.int 0, .int 0, .int 0, .int 0, .int 0])) := hN_E
  have hN_S := (hfr _ (by decide) (by decide)).trans hN_S
  have hN_P := (hfr _ (by decide) (by decide)).trans hN_P
  have hN_PA := (hfr _ (by decide) (by decide)).trans hN_PA
  have hN_W := (hfr _ (by decide) (by decide)).trans hN_W
  have hN_D := (hfr _ (by decide) (by decide)).trans hN_D
  have hN_Q := (hfr _ (by decide) (by decide)).trans hN_Q
  have hN_R := (hfr _ (by decide) (by decide)).trans hN_R
  have hlen : ws.length = 14 := hlen
  have hw : ∀ j, j < 9 → j ≠ 8 → ws[j]? = ws0[j]? := fun j h1 h2 => (hfr j (by omega) (by omega)).trans (hw j h1 h2)
  refine pI_S_43 (v := .ref aE) hx hb hts hown hK hP hD hS hin hN_S rfl rfl (Nat.le_of_ble_eq_true rfl) d_S_init_67 (fun ws H locs hP hD hS hlen1 hN_S hfr => ?_)
  have hlen := hlen1.trans hlen
  have hN_S : zA ws 8 (aS, .inr (3, [.ref aP, .ref aH, .ref aV, .ref aW, .ref aD, .ref aQ, .ref aR, .ref aE, .int 0, .int 0, .int 0, .int 0, .int 0, .int 0])) := hN_S
  have hN_P := (hfr _ (by decide)).trans hN_P
  have hN_PA := (hfr _ (by decide)).trans hN_PA
  have hN_W := (hfr _ (by decide)).trans hN_W
  have hN_D := (hfr _ (by decide)).trans hN_D
  have hN_Q := (hfr _ (by decide)).trans hN_Q
  have hN_R := (hfr _ (by decide)).trans hN_R
  have hN_E := (hfr _ (by decide)).trans hN_E
  have hw : ∀ j, j < 9 → j ≠ 8 → ws[j]? = ws0[j]? := fun j h1 h2 => (hfr j h2).trans (hw j h1 h2)
  exact W.vret hx hb hr (fun t ht hW => ⟨⟨ws, rfl, ⟨hlen, ⟨aW, aD, aQ, aR, aE, hN_S, hN_W, hN_D, hN_Q, hN_R, hN_E⟩, hw⟩, by rw [ht]; exact hP, va_K.moved hW.alike hK, hD⟩, hS.F ht⟩) hS.2.2 d_S_init_70
set_option maxHeartbeats 4000000 in
set_option maxRecDepth 100000 in
theorem c_F_init (l : Launch) (dC : Nat → ClassId) (dI : Nat → Nat → Nat) (cI cL : ClassId) {ws0 : va_W} (sz : Nat) {aO N_PA N_NA N_HA N_W N_D N_KA N_CA N_IA : Nat} (x1 : Int32) (sd : Int32) (hsd : ((4 : Int32) <<< ((if (0 : Int32) < (if (3 : Int32) < x1 then (3 : Int32) else x1) then (if (3 : Int32) < x1 then (3 : Int32) else x1) else (0 : Int32)) &&& 31)) = sd) (hN_O : zA ws0 0 (aO, .inr (0, [.int 0, .null, .null, .null, .null, .null, .null, .null, .null, .null]))) (hlen : ws0.length = 1) (e1_PA : ¬ ((if (1 : Int32) < (if (64 : Int32) < sd then (64 : Int32) else sd) then (if (64 : Int32) < sd then (64 : Int32) else sd) else (1 : Int32)) * (if (1 : Int32) < (if (64 : Int32) < sd then (64 : Int32) else sd) then (if (64 : Int32) < sd then (64 : Int32) else sd) else (1 : Int32))) < 0) (e2_PA : ((if (1 : Int32) < (if (64 : Int32) < sd then (64 : Int32) else sd) then (if (64 : Int32) < sd then (64 : Int32) else sd) else (1 : Int32)) * (if (1 : Int32) < (if (64 : Int32) < sd then (64 : Int32) else sd) then (if (64 : Int32) < sd then (64 : Int32) else sd) else (1 : Int32))).toNatClampNeg = N_PA) (e3_PA : N_PA ≤ 4096) (e1_NA : ¬ ((if (1 : Int32) < (if (64 : Int32) < ((2 : Int32) * sd) then (64 : Int32) else ((2 : Int32) * sd)) then (if (64 : Int32) < ((2 : Int32) * sd) then (64 : Int32) else ((2 : Int32) * sd)) else (1 : Int32)) * (if (1 : Int32) < (if (64 : Int32) < ((2 : Int32) * sd) then (64 : Int32) else ((2 : Int32) * sd)) then (if (64 : Int32) < ((2 : Int32) * sd) then (64 : Int32) else ((2 : Int32) * sd)) else (1 : Int32))) < 0) (e2_NA : ((if (1 : Int32) < (if (64 : Int32) < ((2 : Int32) * sd) then (64 : Int32) else ((2 : Int32) * sd)) then (if (64 : Int32) < ((2 : Int32) * sd) then (64 : Int32) else ((2 : Int32) * sd)) else (1 : Int32)) * (if (1 : Int32) < (if (64 : Int32) < ((2 : Int32) * sd) then (64 : Int32) else ((2 : Int32) * sd)) then (if (64 : Int32) < ((2 : Int32) * sd) then (64 : Int32) else ((2 : Int32) * sd)) else (1 : Int32))).toNatClampNeg = N_NA) (e3_NA : N_NA ≤ 4096) (e1_HA : ¬ ((if (1 : Int32) < (if (64 : Int32) < sd then (64 : Int32) else sd) then (if (64 : Int32) < sd then (64 : Int32) else sd) else (1 : Int32)) * (if (1 : Int32) < (if (64 : Int32) < sd then (64 : Int32) else sd) then (if (64 : Int32) < sd then (64 : Int32) else sd) else (1 : Int32))) < 0) (e2_HA : ((if (1 : Int32) < (if (64 : Int32) < sd then (64 : Int32) else sd) then (if (64 : Int32) < sd then (64 : Int32) else sd) else (1 : Int32)) * (if (1 : Int32) < (if (64 : Int32) < sd then (64 : Int32) else sd) then (if (64 : Int32) < sd then (64 : Int32) else sd) else (1 : Int32))).toNatClampNeg = N_HA) (e3_HA : N_HA ≤ 4096) (e1_W : ¬ ((nI N_PA) / (4 : Int32)) < 0) (e2_W : ((nI N_PA) / (4 : Int32)).toNatClampNeg = N_W) (e3_W : N_W ≤ 1024) (e1_D : ¬ ((nI N_PA) / (4 : Int32)) < 0) (e2_D : ((nI N_PA) / (4 : Int32)).toNatClampNeg = N_D) (e3_D : N_D ≤ 1024) (e1_KA : ¬ ((8 : Int32) * (if (1 : Int32) < (if (256 : Int32) < ((sd * sd) / (4 : Int32)) then (256 : Int32) else ((sd * sd) / (4 : Int32))) then (if (256 : Int32) < ((sd * sd) / (4 : Int32)) then (256 : Int32) else ((sd * sd) / (4 : Int32))) else (1 : Int32))) < 0) (e2_KA : ((8 : Int32) * (if (1 : Int32) < (if (256 : Int32) < ((sd * sd) / (4 : Int32)) then (256 : Int32) else ((sd * sd) / (4 : Int32))) then (if (256 : Int32) < ((sd * sd) / (4 : Int32)) then (256 : Int32) else ((sd * sd) / (4 : Int32))) else (1 : Int32))).toNatClampNeg = N_KA) (e3_KA : N_KA ≤ 2048) (e1_CA : ¬ (if (1 : Int32) < (if (2000 : Int32) < (sd * sd) then (2000 : Int32) else (sd * sd)) then (if (2000 : Int32) < (sd * sd) then (2000 : Int32) else (sd * sd)) else (1 : Int32)) < 0) (e2_CA : (if (1 : Int32) < (if (2000 : Int32) < (sd * sd) then (2000 : Int32) else (sd * sd)) then (if (2000 : Int32) < (sd * sd) then (2000 : Int32) else (sd * sd)) else (1 : Int32)).toNatClampNeg = N_CA) (e3_CA : N_CA ≤ 2000) (e1_IA : ¬ (if (1 : Int32) < (if (2000 : Int32) < (2000 : Int32) then (2000 : Int32) else (2000 : Int32)) then (if (2000 : Int32) < (2000 : Int32) then (2000 : Int32) else (2000 : Int32)) else (1 : Int32)) < 0) (e2_IA : (if (1 : Int32) < (if (2000 : Int32) < (2000 : Int32) then (2000 : Int32) else (2000 : Int32)) then (if (2000 : Int32) < (2000 : Int32) then (2000 : Int32) else (2000 : Int32)) else (1 : Int32)).toNatClampNeg = N_IA) (e3_IA : N_IA ≤ 2000) : Met l y_F_init w_F_init rm_F_init (va_Pc [.ref aO, .int x1] (zM dC dI cI cL ws0 sz)) (va_Qv (fun ws' : va_W => ws'.length = 21 ∧ (∃ aP aPA aN aNA aH aHA aV aS aW aD aQ aR aE aK aKA aT aC aCA aI aIA, zA ws' 0 (aO, .inr (0, [.int sd, .ref aP, .ref aN, .ref aH, .ref aV, .ref aS, .ref aK, .ref aT, .ref aC, .ref aI])) ∧ zA ws' 1 (aP, .inr (1, [.int (if (1 : Int32) < (if (64 : Int32) < sd then (64 : Int32) else sd) then (if (64 : Int32) < sd then (64 : Int32) else sd) else (1 : Int32)), .ref aPA, .int (if (0 : Int32) < (if (if (1 : Int32) < (if (64 : Int32) < sd then (64 : Int32) else sd) then (if (64 : Int32) < sd then (64 : Int32) else sd) else (1 : Int32)) < sd then (if (1 : Int32) < (if (64 : Int32) < sd then (64 : Int32) else sd) then (if (64 : Int32) < sd then (64 : Int32) else sd) else (1 : Int32)) else sd) then (if (if (1 : Int32) < (if (64 : Int32) < sd then (64 : Int32) else sd) then (if (64 : Int32) < sd then (64 : Int32) else sd) else (1 : Int32)) < sd then (if (1 : Int32) < (if (64 : Int32) < sd then (64 : Int32) else sd) then (if (64 : Int32) < sd then (64 : Int32) else sd) else (1 : Int32)) else sd) else (0 : Int32))])) ∧ zA ws' 2 (aPA, .inl (cI, N_PA, .inl (fun _ => 0))) ∧ zA ws' 3 (aN, .inr (1, [.int (if (1 : Int32) < (if (64 : Int32) < ((2 : Int32) * sd) then (64 : Int32) else ((2 : Int32) * sd)) then (if (64 : Int32) < ((2 : Int32) * sd) then (64 : Int32) else ((2 : Int32) * sd)) else (1 : Int32)), .ref aNA, .int (if (0 : Int32) < (if (if (1 : Int32) < (if (64 : Int32) < ((2 : Int32) * sd) then (64 : Int32) else ((2 : Int32) * sd)) then (if (64 : Int32) < ((2 : Int32) * sd) then (64 : Int32) else ((2 : Int32) * sd)) else (1 : Int32)) < (0 : Int32) then (if (1 : Int32) < (if (64 : Int32) < ((2 : Int32) * sd) then (64 : Int32) else ((2 : Int32) * sd)) then (if (64 : Int32) < ((2 : Int32) * sd) then (64 : Int32) else ((2 : Int32) * sd)) else (1 : Int32)) else (0 : Int32)) then (if (if (1 : Int32) < (if (64 : Int32) < ((2 : Int32) * sd) then (64 : Int32) else ((2 : Int32) * sd)) then (if (64 : Int32) < ((2 : Int32) * sd) then (64 : Int32) else ((2 : Int32) * sd)) else (1 : Int32)) < (0 : Int32) then (if (1 : Int32) < (if (64 : Int32) < ((2 : Int32) * sd) then (64 : Int32) else ((2 : Int32) * sd)) then (if (64 : Int32) < ((2 : Int32) * sd) then (64 : Int32) else ((2 : Int32) * sd)) else (1 : Int32)) else (0 : Int32)) else (0 : Int32))])) ∧ zA ws' 4 (aNA, .inl (cI, N_NA, .inl (fun _ => 0))) ∧ zA ws' 5 (aH, .inr (1, [.int (if (1 : Int32) < (if (64 : Int32) < sd then (64 : Int32) else sd) then (if (64 : Int32) < sd then (64 : Int32) else sd) else (1 : Int32)), .ref aHA, .int (if (0 : Int32) < (if (if (1 : Int32) < (if (64 : Int32) < sd then (64 : Int32) else sd) then (if (64 : Int32) < sd then (64 : Int32) else sd) else (1 : Int32)) < (0 : Int32) then (if (1 : Int32) < (if (64 : Int32) < sd then (64 : Int32) else sd) then (if (64 : Int32) < sd then (64 : Int32) else sd) else (1 : Int32)) else (0 : Int32)) then (if (if (1 : Int32) < (if (64 : Int32) < sd then (64 : Int32) else sd) then (if (64 : Int32) < sd then (64 : Int32) else sd) else (1 : Int32)) < (0 : Int32) then (if (1 : Int32) < (if (64 : Int32) < sd then (64 : Int32) else sd) then (if (64 : Int32) < sd then (64 : Int32) else sd) else (1 : Int32)) else (0 : Int32)) else (0 : Int32))])) ∧ zA ws' 6 (aHA, .inl (cI, N_HA, .inl (fun _ => 0))) ∧ zA ws' 7 (aV, .inr (2, [.ref aH, .int 0, .int 0, .int 0, .int 0, .int 0])) ∧ zA ws' 8 (aS, .inr (3, [.ref aP, .ref aH, .ref aV, .ref aW, .ref aD, .ref aQ, .ref aR, .ref aE, .int 0, .int 0, .int 0, .int 0, .int 0, .int 0])) ∧ zA ws' 9 (aW, .inl (cI, N_W, .inl (fun _ => 0))) ∧ zA ws' 10 (aD, .inl (cI, N_D, .inl (fun _ => 0))) ∧ zA ws' 11 (aQ, .inl (cI, 4, .inl (fun _ => 0))) ∧ zA ws' 12 (aR, .inl (cI, 8, .inl (fun _ => 0))) ∧ zA ws' 13 (aE, .inr (4, [.int 0, .int 0, .int 0, .int 0, .int 0])) ∧ zA ws' 14 (aK, .inr (5, [.ref aKA, .int 0])) ∧ zA ws' 15 (aKA, .inl (cI, N_KA, .inl (fun _ => 0))) ∧ zA ws' 16 (aT, .inr (4, [.int 0, .int 0, .int 0, .int 0, .int 0])) ∧ zA ws' 17 (aC, .inr (6, [.ref aCA, .int 0, .int 0])) ∧ zA ws' 18 (aCA, .inl (cI, N_CA, .inl (fun _ => 0))) ∧ zA ws' 19 (aI, .inr (6, [.ref aIA, .int 0, .int 0])) ∧ zA ws' 20 (aIA, .inl (cI, N_IA, .inl (fun _ => 0)))) ∧ ∀ j, j < 1 → j ≠ 0 → ws'[j]? = ws0[j]?) (zQ dC dI cI cL (va_A ws0 sz)) (va_A ws0 sz)) 20 20443 (va_A ws0 sz) := by
  refine Met.ofW (cc := b_F_init) (maxL := 2) (ret := none) (by decide) rfl ?_
  intro p e s m args below meth c s₁ B hml hv
  obtain ⟨rfl, hsz, hP, hK, hZ, hD0⟩ := hv
  have hx := B.exec
  have hb := B.bytes
  have hr := B.returns
  have hlocks := B.notSynchronized
  have hin : meth.name = "<init>" := (name_of_methodNamed B.named B.method).1
  have hts : ∀ w ∈ BIG, w.before ([.ref aO, .int x1] : List Value).toArray s = true := fun w h => atoms_spec (ws := w_F_init) B.pre w (List.mem_cons_of_mem _ h)
  have hown : s.vm.findClass "FractalMaps" = some m.cls := findClass_of_methodNamed B.named
  subst hsz
  have hD := hD0.self (sz := s.heap.size)
  generalize hAe : va_A ws0 s.heap.size = A at hD ⊢
  have hA : ∀ q : Nat, s.heap.size ≤ q → A q := fun q h => by rw [← hAe]; exact Or.inr h
  have hS : va_S A s.heap s.heap [] := va_S.rf
  have hw : ∀ j, j < 1 → j ≠ 0 → ws0[j]? = ws0[j]? := fun _ _ _ => rfl
  have hl := lv_entry ([.ref aO, .int x1]) (n := 2) (Nat.le_of_ble_eq_true rfl)
  rw [lg_entry_eq]
  generalize (lg_sl ([.ref aO, .int x1]) ++ List.replicate (2 - (lg_sl ([.ref aO, .int x1])).length) Slot.unset).toArray = ls at hl ⊢
  have hl : lv_has ls 2 [(0, .ref aO), (1, .int x1)] := hl
  refine lv_aload_n hx hb d_F_init_0 rfl (lv_at hl 0 rfl) ?_
  refine W.objInit hx hb hown (hts _ k_59) (hts _ k_60) (hts _ k_61) rfl (by rw [hml]; exact hl.1) rfl d_F_init_1 (Nat.le_of_ble_eq_true rfl) (Nat.le_of_ble_eq_true rfl) ?_
  refine W.eq (g2 := F0 m 4 ls []) rfl ?_
  refine lv_aload_n hx hb d_F_init_4 rfl (lv_at hl 0 rfl) ?_
  refine lv_iconst (v := 4) hx hb d_F_init_5 (by decide) ?_
  refine lv_iconst (v := 0) hx hb d_F_init_6 (by decide) ?_
  refine lv_iload_n hx hb d_F_init_7 rfl (lv_at hl 1 rfl) ?_
  refine lv_iconst (v := 3) hx hb d_F_init_8 (by decide) ?_
  refine mm_F_7 hx hb (hml.trans hl.1.symm) hown hts (Nat.le_of_ble_eq_true rfl) (Nat.le_of_ble_eq_true rfl) (Nat.le_of_ble_eq_true rfl) (Nat.le_of_ble_eq_true rfl) d_F_init_9 ?_
  refine mm_F_13 hx hb (hml.trans hl.1.symm) hown hts (Nat.le_of_ble_eq_true rfl) (Nat.le_of_ble_eq_true rfl) (Nat.le_of_ble_eq_true rfl) (Nat.le_of_ble_eq_true rfl) d_F_init_12 ?_
  refine lv_ishl hx hb d_F_init_15 ?_
  refine lv_topi (fun sd0 hsdq => ?_)
  obtain rfl : sd = sd0 := (hsdq.trans hsd).symm
  refine pI_F_16 (v := .int sd) hx hb hts hown hK hP hD hS hin hN_O rfl rfl (Nat.le_of_ble_eq_true rfl) d_F_init_16 (fun ws H locs hP hD hS hlen1 hN_O hfr => ?_)
  have hlen := hlen1.trans hlen
  have hN_O : zA ws 0 (aO, .inr (0, [.int sd, .null, .null, .null, .null, .null, .null, .null, .null, .null])) := hN_O
  have hw : ∀ j, j < 1 → j ≠ 0 → ws[j]? = ws0[j]? := fun j h1 h2 => (hfr j h2).trans (hw j h1 h2)
  refine lv_aload_n hx hb d_F_init_19 rfl (lv_at hl 0 rfl) ?_
  refine z_new (ci := 1) (C := "FractalMaps$Grid") (T := F_G) (N := 3) hx hb hts i_G ty_G ty_G_ok hown k_68 k_69 k_39 hK hP hD hS hA hlen rfl df_G (Nat.le_of_ble_eq_true rfl) (Nat.le_of_ble_eq_true rfl) d_F_init_20 (fun ws aP H hP hD hS hlen hN_P hfr => ?_)
  have hN_O := (hfr _ (by decide)).trans hN_O
  have hlen : ws.length = 2 := hlen
  have hw : ∀ j, j < 1 → j ≠ 0 → ws[j]? = ws0[j]? := fun j h1 h2 => (hfr j (by omega)).trans (hw j h1 h2)
  refine lv_dup hx hb d_F_init_23 rfl ?_
  refine lv_aload_n hx hb d_F_init_24 rfl (lv_at hl 0 rfl) ?_
  refine gf_F_16 (v := .int sd) hx hb hts hown hK hP hN_O rfl d_F_init_25 ?_
  refine lv_aload_n hx hb d_F_init_28 rfl (lv_at hl 0 rfl) ?_
  refine gf_F_16 (v := .int sd) hx hb hts hown hK hP hN_O rfl d_F_init_29 ?_
  have hFc := z_free hD hS hA
  refine va_callv (va_runI (As := [.int sd, .int sd]) (rest := [.ref aP, .ref aO]) ⟨hx, hb, hml, hown, hts⟩ (c_G_init l dC dI cI cL _ 2 sd sd hN_P hlen e1_PA e2_PA e3_PA) (cw_F_24 hts ⟨Nat.le_of_ble_eq_true rfl, Nat.le_of_ble_eq_true rfl⟩) ⟨zbM, zpM hP hK hZ hD⟩ rfl rfl hl.1 rfl (lv_room (Nat.le_of_ble_eq_true rfl)) d_F_init_32 ⟨Nat.le_of_ble_eq_true rfl, Nat.le_of_ble_eq_true rfl⟩) hS (fun q _ h => hFc q h) hFc (fun ws t H locs ht hvm hu hB hz1 hk1 hS => ?_)
  obtain ⟨hlen, ⟨aPA, hN_P, hN_PA⟩, hfr⟩ := hu
  obtain ⟨hP, -, hD1⟩ := hB
  rw [ht] at hP
  have hD := hD1.weaken (fun _ _ _ h => hFc _ h)
  have hN_P : zA ws 1 (aP, .inr (1, [.int (if (1 : Int32) < (if (64 : Int32) < sd then (64 : Int32) else sd) then (if (64 : Int32) < sd then (64 : Int32) else sd) else (1 : Int32)), .ref aPA, .int (if (0 : Int32) < (if (if (1 : Int32) < (if (64 : Int32) < sd then (64 : Int32) else sd) then (if (64 : Int32) < sd then (64 : Int32) else sd) else (1 : Int32)) < sd then (if (1 : Int32) < (if (64 : Int32) < sd then (64 : Int32) else sd) then (if (64 : Int32) < sd then (64 : Int32) else sd) else (1 : Int32)) else sd) then (if (if (1 : Int32) < (if (64 : Int32) < sd then (64 : Int32) else sd) then (if (64 : Int32) < sd then (64 : Int32) else sd) else (1 : Int32)) < sd then (if (1 : Int32) < (if (64 : Int32) < sd then (64 : Int32) else sd) then (if (64 : Int32) < sd then (64 : Int32) else sd) else (1 : Int32)) else sd) else (0 : Int32))])) := hN_P
  have hN_PA : zA ws 2 (aPA, .inl (cI, N_PA, .inl (fun _ => 0))) := hN_PA
  have hN_O := (hfr _ (by decide) (by decide)).trans hN_O
  have hlen : ws.length = 3 := hlen
  have hw : ∀ j, j < 1 → j ≠ 0 → ws[j]? = ws0[j]? := fun j h1 h2 => (hfr j (by omega) (by omega)).trans (hw j h1 h2)
  refine pI_F_27 (v := .ref aP) hx hb hts hown hK hP hD hS hin hN_O rfl rfl (Nat.le_of_ble_eq_true rfl) d_F_init_35 (fun ws H locs hP hD hS hlen1 hN_O hfr => ?_)
  have hlen := hlen1.trans hlen
  have hN_O : zA ws 0 (aO, .inr (0, [.int sd, .ref aP, .null, .null, .null, .null, .null, .null, .null, .null])) := hN_O
  have hN_P := (hfr _ (by decide)).trans hN_P
  have hN_PA := (hfr _ (by decide)).trans hN_PA
  have hw : ∀ j, j < 1 → j ≠ 0 → ws[j]? = ws0[j]? := fun j h1 h2 => (hfr j h2).trans (hw j h1 h2)
  refine lv_aload_n hx hb d_F_init_38 rfl (lv_at hl 0 rfl) ?_
  refine z_new (ci := 1) (C := "FractalMaps$Grid") (T := F_G) (N := 3) hx hb hts i_G ty_G ty_G_ok hown k_68 k_69 k_39 hK hP hD hS hA hlen rfl df_G (Nat.le_of_ble_eq_true rfl) (Nat.le_of_ble_eq_true rfl) d_F_init_39 (fun ws aN H hP hD hS hlen hN_N hfr => ?_)
  have hN_O := (hfr _ (by decide)).trans hN_O
  have hN_P := (hfr _ (by decide)).trans hN_P
  have hN_PA := (hfr _ (by decide)).trans hN_PA
  have hlen : ws.length = 4 := hlen
  have hw : ∀ j, j < 1 → j ≠ 0 → ws[j]? = ws0[j]? := fun j h1 h2 => (hfr j (by omega)).trans (hw j h1 h2)
  refine lv_dup hx hb d_F_init_42 rfl ?_
  refine lv_iconst (v := 2) hx hb d_F_init_43 (by decide) ?_
  refine lv_aload_n hx hb d_F_init_44 rfl (lv_at hl 0 rfl) ?_
  refine gf_F_16 (v := .int sd) hx hb hts hown hK hP hN_O rfl d_F_init_45 ?_
  refine lv_imul hx hb d_F_init_48 ?_
  refine lv_iconst (v := 0) hx hb d_F_init_49 (by decide) ?_
  have hFc := z_free hD hS hA
  refine va_callv (va_runI (As := [.int ((2 : Int32) * sd), .int (0 : Int32)]) (rest := [.ref aN, .ref aO]) ⟨hx, hb, hml, hown, hts⟩ (c_G_init l dC dI cI cL _ 4 ((2 : Int32) * sd) (0 : Int32) hN_N hlen e1_NA e2_NA e3_NA) (cw_F_24 hts ⟨Nat.le_of_ble_eq_true rfl, Nat.le_of_ble_eq_true rfl⟩) ⟨zbM, zpM hP hK hZ hD⟩ rfl rfl hl.1 rfl (lv_room (Nat.le_of_ble_eq_true rfl)) d_F_init_50 ⟨Nat.le_of_ble_eq_true rfl, Nat.le_of_ble_eq_true rfl⟩) hS (fun q _ h => hFc q h) hFc (fun ws t H locs ht hvm hu hB hz1 hk1 hS => ?_)
  obtain ⟨hlen, ⟨aNA, hN_N, hN_NA⟩, hfr⟩ := hu
  obtain ⟨hP, -, hD1⟩ := hB
  rw [ht] at hP
  have hD := hD1.weaken (fun _ _ _ h => hFc _ h)
  have hN_N : zA ws 3 (aN, .inr (1, [.int (if (1 : Int32) < (if (64 : Int32) < ((2 : Int32) * sd) then (64 : Int32) else ((2 : Int32) * sd)) then (if (64 : Int32) < ((2 : Int32) * sd) then (64 : Int32) else ((2 : Int32) * sd)) else (1 : Int32)), .ref aNA, .int (if (0 : Int32) < (if (if (1 : Int32) < (if (64 : Int32) < ((2 : Int32) * sd) then (64 : Int32) else ((2 : Int32) * sd)) then (if (64 : Int32) < ((2 : Int32) * sd) then (64 : Int32) else ((2 : Int32) * sd)) else (1 : Int32)) < (0 : Int32) then (if (1 : Int32) < (if (64 : Int32) < ((2 : Int32) * sd) then (64 : Int32) else ((2 : Int32) * sd)) then (if (64 : Int32) < ((2 : Int32) * sd) then (64 : Int32) else ((2 : Int32) * sd)) else (1 : Int32)) else (0 : Int32)) then (if (if (1 : Int32) < (if (64 : Int32) < ((2 : Int32) * sd) then (64 : Int32) else ((2 : Int32) * sd)) then (if (64 : Int32) < ((2 : Int32) * sd) then (64 : Int32) else ((2 : Int32) * sd)) else (1 : Int32)) < (0 : Int32) then (if (1 : Int32) < (if (64 : Int32) < ((2 : Int32) * sd) then (64 : Int32) else ((2 : Int32) * sd)) then (if (64 : Int32) < ((2 : Int32) * sd) then (64 : Int32) else ((2 : Int32) * sd)) else (1 : Int32)) else (0 : Int32)) else (0 : Int32))])) := hN_N
  have hN_NA : zA ws 4 (aNA, .inl (cI, N_NA, .inl (fun _ => 0))) := hN_NA
  have hN_O := (hfr _ (by decide) (by decide)).trans hN_O
  have hN_P := (hfr _ (by decide) (by decide)).trans hN_P
  have hN_PA := (hfr _ (by decide) (by decide)).trans hN_PA
  have hlen : ws.length = 5 := hlen
  have hw : ∀ j, j < 1 → j ≠ 0 → ws[j]? = ws0[j]? := fun j h1 h2 => (hfr j (by omega) (by omega)).trans (hw j h1 h2)
  refine pI_F_31 (v := .ref aN) hx hb hts hown hK hP hD hS hin hN_O rfl rfl (Nat.le_of_ble_eq_true rfl) d_F_init_53 (fun ws H locs hP hD hS hlen1 hN_O hfr => ?_)
  have hlen := hlen1.trans hlen
  have hN_O : zA ws 0 (aO, .inr (0, [.int sd, .ref aP, .ref aN, .null, .null, .null, .null, .null, .null, .null])) := hN_O
  have hN_P := (hfr _ (by decide)).trans hN_P
  have hN_PA := (hfr _ (by decide)).trans hN_PA
  have hN_N := (hfr _ (by decide)).trans hN_N
  have hN_NA := (hfr _ (by decide)).trans hN_NA
  have hw : ∀ j, j < 1 → j ≠ 0 → ws[j]? = ws0[j]? := fun j h1 h2 => (hfr j h2).trans (hw j h1 h2)
  refine lv_aload_n hx hb d_F_init_56 rfl (lv_at hl 0 rfl) ?_
  refine z_new (ci := 1) (C := "FractalMaps$Grid") (T := F_G) (N := 3) hx hb hts i_G ty_G ty_G_ok hown k_68 k_69 k_39 hK hP hD hS hA hlen rfl df_G (Nat.le_of_ble_eq_true rfl) (Nat.le_of_ble_eq_true rfl) d_F_init_57 (fun ws aH H hP hD hS hlen hN_H hfr => ?_)
  have hN_O := (hfr _ (by decide)).trans hN_O
  have hN_P := (hfr _ (by decide)).trans hN_P
  have hN_PA := (hfr _ (by decide)).trans hN_PA
  have hN_N := (hfr _ (by decide)).trans hN_N
  have hN_NA := (hfr _ (by decide)).trans hN_NA
  have hlen : ws.length = 6 := hlen
  have hw : ∀ j, j < 1 → j ≠ 0 → ws[j]? = ws0[j]? := fun j h1 h2 => (hfr j (by omega)).trans (hw j h1 h2)
  refine lv_dup hx hb d_F_init_60 rfl ?_
  refine lv_aload_n hx hb d_F_init_61 rfl (lv_at hl 0 rfl) ?_
  refine gf_F_16 (v := .int sd) hx hb hts hown hK hP hN_O rfl d_F_init_62 ?_
  refine lv_iconst (v := 0) hx hb d_F_init_65 (by decide) ?_
  have hFc := z_free hD hS hA
  refine va_callv (va_runI (As := [.int sd, .int (0 : Int32)]) (rest := [.ref aH, .ref aO]) ⟨hx, hb, hml, hown, hts⟩ (c_G_init l dC dI cI cL _ 6 sd (0 : Int32) hN_H hlen e1_HA e2_HA e3_HA) (cw_F_24 hts ⟨Nat.le_of_ble_eq_true rfl, Nat.le_of_ble_eq_true rfl⟩) ⟨zbM, zpM hP hK hZ hD⟩ rfl rfl hl.1 rfl (lv_room (Nat.le_of_ble_eq_true rfl)) d_F_init_66 ⟨Nat.le_of_ble_eq_true rfl, Nat.le_of_ble_eq_true rfl⟩) hS (fun q _ h => hFc q h) hFc (fun ws t H locs ht hvm hu hB hz1 hk1 hS => ?_)
  obtain ⟨hlen, ⟨aHA, hN_H, hN_HA⟩, hfr⟩ := hu
  obtain ⟨hP, -, hD1⟩ := hB
  rw [ht] at hP
  have hD := hD1.weaken (fun _ _ _ h => hFc _ h)
  have hN_H : zA ws 5 (aH, .inr (1, [.int (if (1 : Int32) < (if (64 : Int32) < sd then (64 : Int32) else sd) then (if (64 : Int32) < sd then (64 : Int32) else sd) else (1 : Int32)), .ref aHA, .int (if (0 : Int32) < (if (if (1 : Int32) < (if (64 : Int32) < sd then (64 : Int32) else sd) then (if (64 : Int32) < sd then (64 : Int32) else sd) else (1 : Int32)) < (0 : Int32) then (if (1 : Int32) < (if (64 : Int32) < sd then (64 : Int32) else sd) then (if (64 : Int32) < sd then (64 : Int32) else sd) else (1 : Int32)) else (0 : Int32)) then (if (if (1 : Int32) < (if (64 : Int32) < sd then (64 : Int32) else sd) then (if (64 : Int32) < sd then (64 : Int32) else sd) else (1 : Int32)) < (0 : Int32) then (if (1 : Int32) < (if (64 : Int32) < sd then (64 : Int32) else sd) then (if (64 : Int32) < sd then (64 : Int32) else sd) else (1 : Int32)) else (0 : Int32)) else (0 : Int32))])) := hN_H
  have hN_HA : zA ws 6 (aHA, .inl (cI, N_HA, .inl (fun _ => 0))) := hN_HA
  have hN_O := (hfr _ (by decide) (by decide)).trans hN_O
  have hN_P := (hfr _ (by decide) (by decide)).trans hN_P
  have hN_PA := (hfr _ (by decide) (by decide)).trans hN_PA
  have hN_N := (hfr _ (by decide) (by decide)).trans hN_N
  have hN_NA := (hfr _ (by decide) (by decide)).trans hN_NA
  have hlen : ws.length = 7 := hlen
  have hw : ∀ j, j < 1 → j ≠ 0 → ws[j]? = ws0[j]? := fun j h1 h2 => (hfr j (by omega) (by omega)).trans (hw j h1 h2)
  refine pI_F_34 (v := .ref aH) hx hb hts hown hK hP hD hS hin hN_O rfl rfl (Nat.le_of_ble_eq_true rfl) d_F_init_69 (fun ws H locs hP hD hS hlen1 hN_O hfr => ?_)
  have hlen := hlen1.trans hlen
  have hN_O : zA ws 0 (aO, .inr (0, [.int sd, .ref aP, .ref aN, .ref aH, .null, .null, .null, .null, .null, .null])) := hN_O
  have hN_P := (hfr _ (by decide)).trans hN_P
  have hN_PA := (hfr _ (by decide)).trans hN_PA
  have hN_N := (hfr _ (by decide)).trans hN_N
  have hN_NA := (hfr _ (by decide)).trans hN_NA
  have hN_H := (hfr _ (by decide)).trans hN_H
  have hN_HA := (hfr _ (by decide)).trans hN_HA
  have hw : ∀ j, j < 1 → j ≠ 0 → ws[j]? = ws0[j]? := fun j h1 h2 => (hfr j h2).trans (hw j h1 h2)
  refine lv_aload_n hx hb d_F_init_72 rfl (lv_at hl 0 rfl) ?_
  refine z_new (ci := 2) (C := "FractalMaps$View") (T := F_V) (N := 6) hx hb hts i_V ty_V ty_V_ok hown k_92 k_93 k_40 hK hP hD hS hA hlen rfl df_V (Nat.le_of_ble_eq_true rfl) (Nat.le_of_ble_eq_true rfl) d_F_init_73 (fun ws aV H hP hD hS hlen hN_V hfr => ?_)
  have hN_O := (hfr _ (by decide)).trans hN_O
  have hN_P := (hfr _ (by decide)).trans hN_P
  have hN_PA := (hfr _ (by decide)).trans hN_PA
  have hN_N := (hfr _ (by decide)).trans hN_N
  have hN_NA := (hfr _ (by decide)).trans hN_NA
  have hN_H := (hfr _ (by decide)).trans hN_H
  have hN_HA := (hfr _ (by decide)).trans hN_HA
  have hlen : ws.length = 8 := hlen
  have hw : ∀ j, j < 1 → j ≠ 0 → ws[j]? = ws0[j]? := fun j h1 h2 => (hfr j (by omega)).trans (hw j h1 h2)
  refine lv_dup hx hb d_F_init_76 rfl ?_
  refine lv_aload_n hx hb d_F_init_77 rfl (lv_at hl 0 rfl) ?_
  refine gf_F_34 (v := .ref aH) hx hb hts hown hK hP hN_O rfl d_F_init_78 ?_
  have hFc := z_free hD hS hA
  refine va_callv (va_runI (As := [.ref aH]) (rest := [.ref aV, .ref aO]) ⟨hx, hb, hml, hown, hts⟩ (c_V_init l dC dI cI cL _  hN_V hlen ) (cw_F_39 hts ⟨Nat.le_of_ble_eq_true rfl, Nat.le_of_ble_eq_true rfl⟩) ⟨zbM, zpM hP hK hZ hD⟩ rfl rfl hl.1 rfl (lv_room (Nat.le_of_ble_eq_true rfl)) d_F_init_81 ⟨Nat.le_of_ble_eq_true rfl, Nat.le_of_ble_eq_true rfl⟩) hS (fun q _ h => hFc q h) hFc (fun ws t H locs ht hvm hu hB hz1 hk1 hS => ?_)
  obtain ⟨hlen, hN_V, hfr⟩ := hu
  obtain ⟨hP, -, hD1⟩ := hB
  rw [ht] at hP
  have hD := hD1.weaken (fun _ _ _ h => hFc _ h)
  have hN_V : zA ws 7 (aV, .inr (2, [.ref aH, .int 0, .int 0, .int 0, .int 0, .int 0])) := hN_V
  have hN_O := (hfr _ (by decide) (by decide)).trans hN_O
  have hN_P := (hfr _ (by decide) (by decide)).trans hN_P
  have hN_PA := (hfr _ (by decide) (by decide)).trans hN_PA
  have hN_N := (hfr _ (by decide) (by decide)).trans hN_N
  have hN_NA := (hfr _ (by decide) (by decide)).trans hN_NA
  have hN_H := (hfr _ (by decide) (by decide)).trans hN_H
  have hN_HA := (hfr _ (by decide) (by decide)).trans hN_HA
  have hlen : ws.length = 8 := hlen
  have hw : ∀ j, j < 1 → j ≠ 0 → ws[j]? = ws0[j]? := fun j h1 h2 => (hfr j (by omega) (by omega)).trans (hw j h1 h2)
  refine pI_F_42 (v := .ref aV) hx hb hts hown hK hP hD hS hin hN_O rfl rfl (Nat.le_of_ble_eq_true rfl) d_F_init_84 (fun ws H locs hP hD hS hlen1 hN_O hfr => ?_)
  have hlen := hlen1.trans hlen
  have hN_O : zA ws 0 (aO, .inr (0, [.int sd, .ref aP, .ref aN, .ref aH, .ref aV, .null, .null, .null, .null, .null])) := hN_O
  have hN_P := (hfr _ (by decide)).trans hN_P
  have hN_PA := (hfr _ (by decide)).trans hN_PA
  have hN_N := (hfr _ (by decide)).trans hN_N
  have hN_NA := (hfr _ (by decide)).trans hN_NA
  have hN_H := (hfr _ (by decide)).trans hN_H
  have hN_HA := (hfr _ (by decide)).trans hN_HA
  have hN_V := (hfr _ (by decide)).trans hN_V
  have hw : ∀ j, j < 1 → j ≠ 0 → ws[j]? = ws0[j]? := fun j h1 h2 => (hfr j h2).trans (hw j h1 h2)
  refine lv_aload_n hx hb d_F_init_87 rfl (lv_at hl 0 rfl) ?_
  refine z_new (ci := 3) (C := "FractalMaps$Search") (T := F_S) (N := 14) hx hb hts i_S ty_S ty_S_ok hown k_119 k_120 k_41 hK hP hD hS hA hlen rfl df_S (Nat.le_of_ble_eq_true rfl) (Nat.le_of_ble_eq_true rfl) d_F_init_88 (fun ws aS H hP hD hS hlen hN_S hfr => ?_)
  have hN_O := (hfr _ (by decide)).trans hN_O
  have hN_P := (hfr _ (by decide)).trans hN_P
  have hN_PA := (hfr _ (by decide)).trans hN_PA
  have hN_N := (hfr _ (by decide)).trans hN_N
  have hN_NA := (hfr _ (by decide)).trans hN_NA
  have hN_H := (hfr _ (by decide)).trans hN_H
  have hN_HA := (hfr _ (by decide)).trans hN_HA
  have hN_V := (hfr _ (by decide)).trans hN_V
  have hlen : ws.length = 9 := hlen
  have hw : ∀ j, j < 1 → j ≠ 0 → ws[j]? = ws0[j]? := fun j h1 h2 => (hfr j (by omega)).trans (hw j h1 h2)
  refine lv_dup hx hb d_F_init_91 rfl ?_
  refine lv_aload_n hx hb d_F_init_92 rfl (lv_at hl 0 rfl) ?_
  refine gf_F_27 (v := .ref aP) hx hb hts hown hK hP hN_O rfl d_F_init_93 ?_
  refine lv_aload_n hx hb d_F_init_96 rfl (lv_at hl 0 rfl) ?_
  refine gf_F_34 (v := .ref aH) hx hb hts hown hK hP hN_O rfl d_F_init_97 ?_
  refine lv_aload_n hx hb d_F_init_100 rfl (lv_at hl 0 rfl) ?_
  refine gf_F_42 (v := .ref aV) hx hb hts hown hK hP hN_O rfl d_F_init_101 ?_
  have hFc := z_free hD hS hA
  refine va_callv (va_runI (As := [.ref aP, .ref aH, .ref aV]) (rest := [.ref aS, .ref aO]) ⟨hx, hb, hml, hown, hts⟩ (c_S_init l dC dI cI cL _  hN_S hN_P hN_PA hlen e1_W e2_W e3_W e1_D e2_D e3_D) (cw_F_48 hts ⟨Nat.le_of_ble_eq_true rfl, Nat.le_of_ble_eq_true rfl⟩) ⟨zbM, zpM hP hK hZ hD⟩ rfl rfl hl.1 rfl (lv_room (Nat.le_of_ble_eq_true rfl)) d_F_init_104 ⟨Nat.le_of_ble_eq_true rfl, Nat.le_of_ble_eq_true rfl⟩) hS (fun q _ h => hFc q h) hFc (fun ws t H locs ht hvm hu hB hz1 hk1 hS => ?_)
  obtain ⟨hlen, ⟨aW, aD, aQ, aR, aE, hN_S, hN_W, hN_D, hN_Q, hN_R, hN_E⟩, hfr⟩ := hu
  obtain ⟨hP, -, hD1⟩ := hB
  rw [ht] at hP
  have hD := hD1.weaken (fun _ _ _ h => hFc _ h)
  have hN_S : zA ws 8 (aS, .inr (3, [.ref aP, .ref aH, .ref aV, .ref aW, .ref aD, .ref aQ, .ref aR, .ref aE, .int 0, .int 0, .int 0, .int 0, .int 0, .int 0])) := hN_S
  have hN_W : zA ws 9 (aW, .inl (cI, N_W, .inl (fun _ => 0))) := hN_W
  have hN_D : zA ws 10 (aD, .inl (cI, N_D, .inl (fun _ => 0))) := hN_D
  have hN_Q : zA ws 11 (aQ, .inl (cI, 4, .inl (fun _ => 0))) := hN_Q
  have hN_R : zA ws 12 (aR, .inl (cI, 8, .inl (fun _ => 0))) := hN_R
  have hN_E : zA ws 13 (aE, .inr (4, [.int 0, .int 0, .int 0, .int 0, .int 0])) := hN_E
  have hN_O := (hfr _ (by decide) (by decide)).trans hN_O
  have hN_P := (hfr _ (by decide) (by decide)).trans hN_P
  have hN_PA := (hfr _ (by decide) (by decide)).trans hN_PA
  have hN_N := (hfr _ (by decide) (by decide)).trans hN_N
  have hN_NA := (hfr _ (by decide) (by decide)).trans hN_NA
  have hN_H := (hfr _ (by decide) (by decide)).trans hN_H
  have hN_HA := (hfr _ (by decide) (by decide)).trans hN_HA
  have hN_V := (hfr _ (by decide) (by decide)).trans hN_V
  have hlen : ws.length = 14 := hlen
  have hw : ∀ j, j < 1 → j ≠ 0 → ws[j]? = ws0[j]? := fun j h1 h2 => (hfr j (by omega) (by omega)).trans (hw j h1 h2)
  refine pI_F_51 (v := .ref aS) hx hb hts hown hK hP hD hS hin hN_O rfl rfl (Nat.le_of_ble_eq_true rfl) d_F_init_107 (fun ws H locs hP hD hS hlen1 hN_O hfr => ?_)
  have hlen := hlen1.trans hlen
  have hN_O : zA ws 0 (aO, .inr (0, [.int sd, .ref aP, .ref aN, .ref aH, .ref aV, .ref aS, .null, .null, .null, .null])) := hN_O
  have hN_P := (hfr _ (by decide)).trans hN_P
  have hN_PA := (hfr _ (by decide)).trans hN_PA
  have hN_N := (hfr _ (by decide)).trans hN_N
  have hN_NA := (hfr _ (by decide)).trans hN_NA
  have hN_H := (hfr _ (by decide)).trans hN_H
  have hN_HA := (hfr _ (by decide)).trans hN_HA
  have hN_V := (hfr _ (by decide)).trans hN_V
  have hN_S := (hfr _ (by decide)).trans hN_S
  have hN_W := (hfr _ (by decide)).trans hN_W
  have hN_D := (hfr _ (by decide)).trans hN_D
  have hN_Q := (hfr _ (by decide)).trans hN_Q
  have hN_R := (hfr _ (by decide)).trans hN_R
  have hN_E := (hfr _ (by decide)).trans hN_E
  have hw : ∀ j, j < 1 → j ≠ 0 → ws[j]? = ws0[j]? := fun j h1 h2 => (hfr j h2).trans (hw j h1 h2)
  refine lv_aload_n hx hb d_F_init_110 rfl (lv_at hl 0 rfl) ?_
  refine z_new (ci := 5) (C := "FractalMaps$Blocks") (T := F_K) (N := 2) hx hb hts i_K ty_K ty_K_ok hown k_203 k_204 k_43 hK hP hD hS hA hlen rfl df_K (Nat.le_of_ble_eq_true rfl) (Nat.le_of_ble_eq_true rfl) d_F_init_111 (fun ws aK H hP hD hS hlen hN_K hfr => ?_)
  have hN_O := (hfr _ (by decide)).trans hN_O
  have hN_P := (hfr _ (by decide)).trans hN_P
  have hN_PA := (hfr _ (by decide)).trans hN_PA
  have hN_N := (hfr _ (by decide)).trans hN_N
  have hN_NA := (hfr _ (by decide)).trans hN_NA
  have hN_H := (hfr _ (by decide)).trans hN_H
  have hN_HA := (hfr _ (by decide)).trans hN_HA
  have hN_V := (hfr _ (by decide)).trans hN_V
  have hN_S := (hfr _ (by decide)).trans hN_S
  have hN_W := (hfr _ (by decide)).trans hN_W
  have hN_D := (hfr _ (by decide)).trans hN_D
  have hN_Q := (hfr _ (by decide)).trans hN_Q
  have hN_R := (hfr _ (by decide)).trans hN_R
  have hN_E := (hfr _ (by decide)).trans hN_E
  have hlen : ws.length = 15 := hlen
  have hw : ∀ j, j < 1 → j ≠ 0 → ws[j]? = ws0[j]? := fun j h1 h2 => (hfr j (by omega)).trans (hw j h1 h2)
  refine lv_dup hx hb d_F_init_114 rfl ?_
  refine lv_aload_n hx hb d_F_init_115 rfl (lv_at hl 0 rfl) ?_
  refine gf_F_16 (v := .int sd) hx hb hts hown hK hP hN_O rfl d_F_init_116 ?_
  refine lv_aload_n hx hb d_F_init_119 rfl (lv_at hl 0 rfl) ?_
  refine gf_F_16 (v := .int sd) hx hb hts hown hK hP hN_O rfl d_F_init_120 ?_
  refine lv_imul hx hb d_F_init_123 ?_
  refine lv_iconst (v := 4) hx hb d_F_init_124 (by decide) ?_
  refine lv_idiv hx hb d_F_init_125 (by decide) ?_
  have hFc := z_free hD hS hA
  refine va_callv (va_runI (As := [.int ((sd * sd) / (4 : Int32))]) (rest := [.ref aK, .ref aO]) ⟨hx, hb, hml, hown, hts⟩ (c_K_init l dC dI cI cL _ 15 ((sd * sd) / (4 : Int32)) hN_K hlen e1_KA e2_KA e3_KA) (cw_F_57 hts ⟨Nat.le_of_ble_eq_true rfl, Nat.le_of_ble_eq_true rfl⟩) ⟨zbM, zpM hP hK hZ hD⟩ rfl rfl hl.1 rfl (lv_room (Nat.le_of_ble_eq_true rfl)) d_F_init_126 ⟨Nat.le_of_ble_eq_true rfl, Nat.le_of_ble_eq_true rfl⟩) hS (fun q _ h => hFc q h) hFc (fun ws t H locs ht hvm hu hB hz1 hk1 hS => ?_)
  obtain ⟨hlen, ⟨aKA, hN_K, hN_KA⟩, hfr⟩ := hu
  obtain ⟨hP, -, hD1⟩ := hB
  rw [ht] at hP
  have hD := hD1.weaken (fun _ _ _ h => hFc _ h)
  have hN_K : zA ws 14 (aK, .inr (5, [.ref aKA, .int 0])) := hN_K
  have hN_KA : zA ws 15 (aKA, .inl (cI, N_KA, .inl (fun _ => 0))) := hN_KA
  have hN_O := (hfr _ (by decide) (by decide)).trans hN_O
  have hN_P := (hfr _ (by decide) (by decide)).trans hN_P
  have hN_PA := (hfr _ (by decide) (by decide)).trans hN_PA
  have hN_N := (hfr _ (by decide) (by decide)).trans hN_N
  have hN_NA := (hfr _ (by decide) (by decide)).trans hN_NA
  have hN_H := (hfr _ (by decide) (by decide)).trans hN_H
  have hN_HA := (hfr _ (by decide) (by decide)).trans hN_HA
  have hN_V := (hfr _ (by decide) (by decide)).trans hN_V
  have hN_S := (hfr _ (by decide) (by decide)).trans hN_S
  have hN_W := (hfr _ (by decide) (by decide)).trans hN_W
  have hN_D := (hfr _ (by decide) (by decide)).trans hN_D
  have hN_Q := (hfr _ (by decide) (by decide)).trans hN_Q
  have hN_R := (hfr _ (by decide) (by decide)).trans hN_R
  have hN_E := (hfr _ (by decide) (by decide)).trans hN_E
  have hlen : ws.length = 16 := hlen
  have hw : ∀ j, j < 1 → j ≠ 0 → ws[j]? = ws0[j]? := fun j h1 h2 => (hfr j (by omega) (by omega)).trans (hw j h1 h2)
  refine pI_F_60 (v := .ref aK) hx hb hts hown hK hP hD hS hin hN_O rfl rfl (Nat.le_of_ble_eq_true rfl) d_F_init_129 (fun ws H locs hP hD hS hlen1 hN_O hfr => ?_)
  have hlen := hlen1.trans hlen
  have hN_O : zA ws 0 (aO, .inr (0, [.int sd, .ref aP, .ref aN, .ref aH, .ref aV, .ref aS, .ref aK, .null, .null, .null])) := hN_O
  have hN_P := (hfr _ (by decide)).trans hN_P
  have hN_PA := (hfr _ (by decide)).trans hN_PA
  have hN_N := (hfr _ (by decide)).trans hN_N
  have hN_NA := (hfr _ (by decide)).trans hN_NA
  have hN_H := (hfr _ (by decide)).trans hN_H
  have hN_HA := (hfr _ (by decide)).trans hN_HA
  have hN_V := (hfr _ (by decide)).trans hN_V
  have hN_S := (hfr _ (by decide)).trans hN_S
  have hN_W := (hfr _ (by decide)).trans hN_W
  have hN_D := (hfr _ (by decide)).trans hN_D
  have hN_Q := (hfr _ (by decide)).trans hN_Q
  have hN_R := (hfr _ (by decide)).trans hN_R
  have hN_E := (hfr _ (by decide)).trans hN_E
  have hN_K := (hfr _ (by decide)).trans hN_K
  have hN_KA := (hfr _ (by decide)).trans hN_KA
  have hw : ∀ j, j < 1 → j ≠ 0 → ws[j]? = ws0[j]? := fun j h1 h2 => (hfr j h2).trans (hw j h1 h2)
  refine lv_aload_n hx hb d_F_init_132 rfl (lv_at hl 0 rfl) ?_
  refine z_new (ci := 4) (C := "FractalMaps$Fit") (T := F_T) (N := 5) hx hb hts i_T ty_T ty_T_ok hown k_219 k_126 k_42 hK hP hD hS hA hlen rfl df_T (Nat.le_of_ble_eq_true rfl) (Nat.le_of_ble_eq_true rfl) d_F_init_133 (fun ws aT H hP hD hS hlen hN_T hfr => ?_)
  have hN_O := (hfr _ (by decide)).trans hN_O
  have hN_P := (hfr _ (by decide)).trans hN_P
  have hN_PA := (hfr _ (by decide)).trans hN_PA
  have hN_N := (hfr _ (by decide)).trans hN_N
  have hN_NA := (hfr _ (by decide)).trans hN_NA
  have hN_H := (hfr _ (by decide)).trans hN_H
  have hN_HA := (hfr _ (by decide)).trans hN_HA
  have hN_V := (hfr _ (by decide)).trans hN_V
  have hN_S := (hfr _ (by decide)).trans hN_S
  have hN_W := (hfr _ (by decide)).trans hN_W
  have hN_D := (hfr _ (by decide)).trans hN_D
  have hN_Q := (hfr _ (by decide)).trans hN_Q
  have hN_R := (hfr _ (by decide)).trans hN_R
  have hN_E := (hfr _ (by decide)).trans hN_E
  have hN_K := (hfr _ (by decide)).trans hN_K
  have hN_KA := (hfr _ (by decide)).trans hN_KA
  have hlen : ws.length = 17 := hlen
  have hw : ∀ j, j < 1 → j ≠ 0 → ws[j]? = ws0[j]? := fun j h1 h2 => (hfr j (by omega)).trans (hw j h1 h2)
  refine lv_dup hx hb d_F_init_136 rfl ?_
  have hFc := z_free hD hS hA
  refine va_callv (va_runIN (As := []) (rest := [.ref aT, .ref aO]) ⟨hx, hb, hml, hown, hts⟩ (c_T_init l dC dI cI cL _ 17  hN_T hlen ) (cw_F_66 hts hZ ⟨Nat.le_of_ble_eq_true rfl, Nat.le_of_ble_eq_true rfl⟩) ⟨zbM, zpM hP hK hZ hD⟩ rfl rfl hl.1 rfl (lv_room (Nat.le_of_ble_eq_true rfl)) d_F_init_137 ⟨Nat.le_of_ble_eq_true rfl, Nat.le_of_ble_eq_true rfl⟩) hS (fun q _ h => hFc q h) hFc (fun ws t H locs ht hvm hu hB hz1 hk1 hS => ?_)
  obtain ⟨hlen, hN_T, hfr⟩ := hu
  obtain ⟨hP, -, hD1⟩ := hB
  rw [ht] at hP
  have hD := hD1.weaken (fun _ _ _ h => hFc _ h)
  have hN_T : zA ws 16 (aT, .inr (4, [.int 0, .int 0, .int 0, .int 0, .int 0])) := hN_T
  have hN_O := (hfr _ (by decide) (by decide)).trans hN_O
  have hN_P := (hfr _ (by decide) (by decide)).trans hN_P
  have hN_PA := (hfr _ (by decide) (by decide)).trans hN_PA
  have hN_N := (hfr _ (by decide) (by decide)).trans hN_N
  have hN_NA := (hfr _ (by decide) (by decide)).trans hN_NA
  have hN_H := (hfr _ (by decide) (by decide)).trans hN_H
  have hN_HA := (hfr _ (by decide) (by decide)).trans hN_HA
  have hN_V := (hfr _ (by decide) (by decide)).trans hN_V
  have hN_S := (hfr _ (by decide) (by decide)).trans hN_S
  have hN_W := (hfr _ (by decide) (by decide)).trans hN_W
  have hN_D := (hfr _ (by decide) (by decide)).trans hN_D
  have hN_Q := (hfr _ (by decide) (by decide)).trans hN_Q
  have hN_R := (hfr _ (by decide) (by decide)).trans hN_R
  have hN_E := (hfr _ (by decide) (by decide)).trans hN_E
  have hN_K := (hfr _ (by decide) (by decide)).trans hN_K
  have hN_KA := (hfr _ (by decide) (by decide)).trans hN_KA
  have hlen : ws.length = 17 := hlen
  have hw : ∀ j, j < 1 → j ≠ 0 → ws[j]? = ws0[j]? := fun j h1 h2 => (hfr j (by omega) (by omega)).trans (hw j h1 h2)
  refine pI_F_67 (v := .ref aT) hx hb hts hown hK hP hD hS hin hN_O rfl rfl (Nat.le_of_ble_eq_true rfl) d_F_init_140 (fun ws H locs hP hD hS hlen1 hN_O hfr => ?_)
  have hlen := hlen1.trans hlen
  have hN_O : zA ws 0 (aO, .inr (0, [.int sd, .ref aP, .ref aN, .ref aH, .ref aV, .ref aS, .ref aK, .ref aT, .null, .null])) := hN_O
  have hN_P := (hfr _ (by decide)).trans hN_P
  have hN_PA := (hfr _ (by decide)).trans hN_PA
  have hN_N := (hfr _ (by decide)).trans hN_N
  have hN_NA := (hfr _ (by decide)).trans hN_NA
  have hN_H := (hfr _ (by decide)).trans hN_H
  have hN_HA := (hfr _ (by decide)).trans hN_HA
  have hN_V := (hfr _ (by decide)).trans hN_V
  have hN_S := (hfr _ (by decide)).trans hN_S
  have hN_W := (hfr _ (by decide)).trans hN_W
  have hN_D := (hfr _ (by decide)).trans hN_D
  have hN_Q := (hfr _ (by decide)).trans hN_Q
  have hN_R := (hfr _ (by decide)).trans hN_R
  have hN_E := (hfr _ (by decide)).trans hN_E
  have hN_K := (hfr _ (by decide)).trans hN_K
  have hN_KA := (hfr _ (by decide)).trans hN_KA
  have hN_T := (hfr _ (by decide)).trans hN_T
  have hw : ∀ j, j < 1 → j ≠ 0 → ws[j]? = ws0[j]? := fun j h1 h2 => (hfr j h2).trans (hw j h1 h2)
  refine lv_aload_n hx hb d_F_init_143 rfl (lv_at hl 0 rfl) ?_
  refine z_new (ci := 6) (C := "FractalMaps$Bits") (T := F_B) (N := 3) hx hb hts i_B ty_B ty_B_ok hown k_221 k_222 k_44 hK hP hD hS hA hlen rfl df_B (Nat.le_of_ble_eq_true rfl) (Nat.le_of_ble_eq_true rfl) d_F_init_144 (fun ws aC H hP hD hS hlen hN_C hfr => ?_)
  have hN_O := (hfr _ (by decide)).trans hN_O
  have hN_P := (hfr _ (by decide)).trans hN_P
  have hN_PA := (hfr _ (by decide)).trans hN_PA
  have hN_N := (hfr _ (by decide)).trans hN_N
  have hN_NA := (hfr _ (by decide)).trans hN_NA
  have hN_H := (hfr _ (by decide)).trans hN_H
  have hN_HA := (hfr _ (by decide)).trans hN_HA
  have hN_V := (hfr _ (by decide)).trans hN_V
  have hN_S := (hfr _ (by decide)).trans hN_S
  have hN_W := (hfr _ (by decide)).trans hN_W
  have hN_D := (hfr _ (by decide)).trans hN_D
  have hN_Q := (hfr _ (by decide)).trans hN_Q
  have hN_R := (hfr _ (by decide)).trans hN_R
  have hN_E := (hfr _ (by decide)).trans hN_E
  have hN_K := (hfr _ (by decide)).trans hN_K
  have hN_KA := (hfr _ (by decide)).trans hN_KA
  have hN_T := (hfr _ (by decide)).trans hN_T
  have hlen : ws.length = 18 := hlen
  have hw : ∀ j, j < 1 → j ≠ 0 → ws[j]? = ws0[j]? := fun j h1 h2 => (hfr j (by omega)).trans (hw j h1 h2)
  refine lv_dup hx hb d_F_init_147 rfl ?_
  refine lv_aload_n hx hb d_F_init_148 rfl (lv_at hl 0 rfl) ?_
  refine gf_F_16 (v := .int sd) hx hb hts hown hK hP hN_O rfl d_F_init_149 ?_
  refine lv_aload_n hx hb d_F_init_152 rfl (lv_at hl 0 rfl) ?_
  refine gf_F_16 (v := .int sd) hx hb hts hown hK hP hN_O rfl d_F_init_153 ?_
  refine lv_imul hx hb d_F_init_156 ?_
  have hFc := z_free hD hS hA
  refine va_callv (va_runI (As := [.int (sd * sd)]) (rest := [.ref aC, .ref aO]) ⟨hx, hb, hml, hown, hts⟩ (c_B_init l dC dI cI cL _ 18 (sd * sd) hN_C hlen e1_CA e2_CA e3_CA) (cw_F_73 hts ⟨Nat.le_of_ble_eq_true rfl, Nat.le_of_ble_eq_true rfl⟩) ⟨zbM, zpM hP hK hZ hD⟩ rfl rfl hl.1 rfl (lv_room (Nat.le_of_ble_eq_true rfl)) d_F_init_157 ⟨Nat.le_of_ble_eq_true rfl, Nat.le_of_ble_eq_true rfl⟩) hS (fun q _ h => hFc q h) hFc (fun ws t H locs ht hvm hu hB hz1 hk1 hS => ?_)
  obtain ⟨hlen, ⟨aCA, hN_C, hN_CA⟩, hfr⟩ := hu
  obtain ⟨hP, -, hD1⟩ := hB
  rw [ht] at hP
  have hD := hD1.weaken (fun _ _ _ h => hFc _ h)
  have hN_C : zA ws 17 (aC, .inr (6, [.ref aCA, .int 0, .int 0])) := hN_C
  have hN_CA : zA ws 18 (aCA, .inl (cI, N_CA, .inl (fun _ => 0))) := hN_CA
  have hN_O := (hfr _ (by decide) (by decide)).trans hN_O
  have hN_P := (hfr _ (by decide) (by decide)).trans hN_P
  have hN_PA := (hfr _ (by decide) (by decide)).trans hN_PA
  have hN_N := (hfr _ (by decide) (by decide)).trans hN_N
  have hN_NA := (hfr _ (by decide) (by decide)).trans hN_NA
  have hN_H := (hfr _ (by decide) (by decide)).trans hN_H
  have hN_HA := (hfr _ (by decide) (by decide)).trans hN_HA
  have hN_V := (hfr _ (by decide) (by decide)).trans hN_V
  have hN_S := (hfr _ (by decide) (by decide)).trans hN_S
  have hN_W := (hfr _ (by decide) (by decide)).trans hN_W
  have hN_D := (hfr _ (by decide) (by decide)).trans hN_D
  have hN_Q := (hfr _ (by decide) (by decide)).trans hN_Q
  have hN_R := (hfr _ (by decide) (by decide)).trans hN_R
  have hN_E := (hfr _ (by decide) (by decide)).trans hN_E
  have hN_K := (hfr _ (by decide) (by decide)).trans hN_K
  have hN_KA := (hfr _ (by decide) (by decide)).trans hN_KA
  have hN_T := (hfr _ (by decide) (by decide)).trans hN_T
  have hlen : ws.length = 19 := hlen
  have hw : ∀ j, j < 1 → j ≠ 0 → ws[j]? = ws0[j]? := fun j h1 h2 => (hfr j (by omega) (by omega)).trans (hw j h1 h2)
  refine pI_F_74 (v := .ref aC) hx hb hts hown hK hP hD hS hin hN_O rfl rfl (Nat.le_of_ble_eq_true rfl) d_F_init_160 (fun ws H locs hP hD hS hlen1 hN_O hfr => ?_)
  have hlen := hlen1.trans hlen
  have hN_O : zA ws 0 (aO, .inr (0, [.int sd, .ref aP, .ref aN, .ref aH, .ref aV, .ref aS, .ref aK, .ref aT, .ref aC, .null])) := hN_O
  have hN_P := (hfr _ (by decide)).trans hN_P
  have hN_PA := (hfr _ (by decide)).trans hN_PA
  have hN_N := (hfr _ (by decide)).trans hN_N
  have hN_NA := (hfr _ (by decide)).trans hN_NA
  have hN_H := (hfr _ (by decide)).trans hN_H
  have hN_HA := (hfr _ (by decide)).trans hN_HA
  have hN_V := (hfr _ (by decide)).trans hN_V
  have hN_S := (hfr _ (by decide)).trans hN_S
  have hN_W := (hfr _ (by decide)).trans hN_W
  have hN_D := (hfr _ (by decide)).trans hN_D
  have hN_Q := (hfr _ (by decide)).trans hN_Q
  have hN_R := (hfr _ (by decide)).trans hN_R
  have hN_E := (hfr _ (by decide)).trans hN_E
  have hN_K := (hfr _ (by decide)).trans hN_K
  have hN_KA := (hfr _ (by decide)).trans hN_KA
  have hN_T := (hfr _ (by decide)).trans hN_T
  have hN_C := (hfr _ (by decide)).trans hN_C
  have hN_CA := (hfr _ (by decide)).trans hN_CA
  have hw : ∀ j, j < 1 → j ≠ 0 → ws[j]? = ws0[j]? := fun j h1 h2 => (hfr j h2).trans (hw j h1 h2)
  refine lv_aload_n hx hb d_F_init_163 rfl (lv_at hl 0 rfl) ?_
  refine z_new (ci := 6) (C := "FractalMaps$Bits") (T := F_B) (N := 3) hx hb hts i_B ty_B ty_B_ok hown k_221 k_222 k_44 hK hP hD hS hA hlen rfl df_B (Nat.le_of_ble_eq_true rfl) (Nat.le_of_ble_eq_true rfl) d_F_init_164 (fun ws aI H hP hD hS hlen hN_I hfr => ?_)
  have hN_O := (hfr _ (by decide)).trans hN_O
  have hN_P := (hfr _ (by decide)).trans hN_P
  have hN_PA := (hfr _ (by decide)).trans hN_PA
  have hN_N := (hfr _ (by decide)).trans hN_N
  have hN_NA := (hfr _ (by decide)).trans hN_NA
  have hN_H := (hfr _ (by decide)).trans hN_H
  have hN_HA := (hfr _ (by decide)).trans hN_HA
  have hN_V := (hfr _ (by decide)).trans hN_V
  have hN_S := (hfr _ (by decide)).trans hN_S
  have hN_W := (hfr _ (by decide)).trans hN_W
  have hN_D := (hfr _ (by decide)).trans hN_D
  have hN_Q := (hfr _ (by decide)).trans hN_Q
  have hN_R := (hfr _ (by decide)).trans hN_R
  have hN_E := (hfr _ (by decide)).trans hN_E
  have hN_K := (hfr _ (by decide)).trans hN_K
  have hN_KA := (hfr _ (by decide)).trans hN_KA
  have hN_T := (hfr _ (by decide)).trans hN_T
  have hN_C := (hfr _ (by decide)).trans hN_C
  have hN_CA := (hfr _ (by decide)).trans hN_CA
  have hlen : ws.length = 20 := hlen
  have hw : ∀ j, j < 1 → j ≠ 0 → ws[j]? = ws0[j]? := fun j h1 h2 => (hfr j (by omega)).trans (hw j h1 h2)
  refine lv_dup hx hb d_F_init_167 rfl ?_
  refine lv_sipush (v := 2000) hx hb d_F_init_168 (by decide) ?_
  have hFc := z_free hD hS hA
  refine va_callv (va_runI (As := [.int (2000 : Int32)]) (rest := [.ref aI, .ref aO]) ⟨hx, hb, hml, hown, hts⟩ (c_B_init l dC dI cI cL _ 20 (2000 : Int32) hN_I hlen e1_IA e2_IA e3_IA) (cw_F_73 hts ⟨Nat.le_of_ble_eq_true rfl, Nat.le_of_ble_eq_true rfl⟩) ⟨zbM, zpM hP hK hZ hD⟩ rfl rfl hl.1 rfl (lv_room (Nat.le_of_ble_eq_true rfl)) d_F_init_171 ⟨Nat.le_of_ble_eq_true rfl, Nat.le_of_ble_eq_true rfl⟩) hS (fun q _ h => hFc q h) hFc (fun ws t H locs ht hvm hu hB hz1 hk1 hS => ?_)
  obtain ⟨hlen, ⟨aIA, hN_I, hN_IA⟩, hfr⟩ := hu
  obtain ⟨hP, -, hD1⟩ := hB
  rw [ht] at hP
  have hD := hD1.weaken (fun _ _ _ h => hFc _ h)
  have hN_I : zA ws 19 (aI, .inr (6, [.ref aIA, .int 0, .int 0])) := hN_I
  have hN_IA : zA ws 20 (aIA, .inl (cI, N_IA, .inl (fun _ => 0))) := hN_IA
  have hN_O := (hfr _ (by decide) (by decide)).trans hN_O
  have hN_P := (hfr _ (by decide) (by decide)).trans hN_P
  have hN_PA := (hfr _ (by decide) (by decide)).trans hN_PA
  have hN_N := (hfr _ (by decide) (by decide)).trans hN_N
  have hN_NA := (hfr _ (by decide) (by decide)).trans hN_NA
  have hN_H := (hfr _ (by decide) (by decide)).trans hN_H
  have hN_HA := (hfr _ (by decide) (by decide)).trans hN_HA
  have hN_V := (hfr _ (by decide) (by decide)).trans hN_V
  have hN_S := (hfr _ (by decide) (by decide)).trans hN_S
  have hN_W := (hfr _ (by decide) (by decide)).trans hN_W
  have hN_D := (hfr _ (by decide) (by decide)).trans hN_D
  have hN_Q := (hfr _ (by decide) (by decide)).trans hN_Q
  have hN_R := (hfr _ (by decide) (by decide)).trans hN_R
  have hN_E := (hfr _ (by decide) (by decide)).trans hN_E
  have hN_K := (hfr _ (by decide) (by decide)).trans hN_K
  have hN_KA := (hfr _ (by decide) (by decide)).trans hN_KA
  have hN_T := (hfr _ (by decide) (by decide)).trans hN_T
  have hN_C := (hfr _ (by decide) (by decide)).trans hN_C
  have hN_CA := (hfr _ (by decide) (by decide)).trans hN_CA
  have hlen : ws.length = 21 := hlen
  have hw : ∀ j, j < 1 → j ≠ 0 → ws[j]? = ws0[j]? := fun j h1 h2 => (hfr j (by omega) (by omega)).trans (hw j h1 h2)
  refine pI_F_78 (v := .ref aI) hx hb hts hown hK hP hD hS hin hN_O rfl rfl (Nat.le_of_ble_eq_true rfl) d_F_init_174 (fun ws H locs hP hD hS hlen1 hN_O hfr => ?_)
  have hlen := hlen1.trans hlen
  have hN_O : zA ws 0 (aO, .inr (0, [.int sd, .ref aP, .ref aN, .ref aH, .ref aV, .ref aS, .ref aK, .ref aT, .ref aC, .ref aI])) := hN_O
  have hN_P := (hfr _ (by decide)).trans hN_P
  have hN_PA := (hfr _ (by decide)).trans hN_PA
  have hN_N := (hfr _ (by decide)).trans hN_N
  have hN_NA := (hfr _ (by decide)).trans hN_NA
  have hN_H := (hfr _ (by decide)).trans hN_H
  have hN_HA := (hfr _ (by decide)).trans hN_HA
  have hN_V := (hfr _ (by decide)).trans hN_V
  have hN_S := (hfr _ (by decide)).trans hN_S
  have hN_W := (hfr _ (by decide)).trans hN_W
  have hN_D := (hfr _ (by decide)).trans hN_D
  have hN_Q := (hfr _ (by decide)).trans hN_Q
  have hN_R := (hfr _ (by decide)).trans hN_R
  have hN_E := (hfr _ (by decide)).trans hN_E
  have hN_K := (hfr _ (by decide)).trans hN_K
  have hN_KA := (hfr _ (by decide)).trans hN_KA
  have hN_T := (hfr _ (by decide)).trans hN_T
  have hN_C := (hfr _ (by decide)).trans hN_C
  have hN_CA := (hfr _ (by decide)).trans hN_CA
  have hN_I := (hfr _ (by decide)).trans hN_I
  have hN_IA := (hfr _ (by decide)).trans hN_IA
  have hw : ∀ j, j < 1 → j ≠ 0 → ws[j]? = ws0[j]? := fun j h1 h2 => (hfr j h2).trans (hw j h1 h2)
  exact W.vret hx hb hr (fun t ht hW => ⟨⟨ws, rfl, ⟨hlen, ⟨aP, aPA, aN, aNA, aH, aHA, aV, aS, aW, aD, aQ, aR, aE, aK, aKA, aT, aC, aCA, aI, aIA, hN_O, hN_P, hN_PA, hN_N, hN_NA, hN_H, hN_HA, hN_V, hN_S, hN_W, hN_D, hN_Q, hN_R, hN_E, hN_K, hN_KA, hN_T, hN_C, hN_CA, hN_I, hN_IA⟩, hw⟩, by rw [ht]; exact hP, va_K.moved hW.alike hK, hD⟩, hS.F ht⟩) hS.2.2 d_F_init_177
set_option maxHeartbeats 4000000 in
set_option maxRecDepth 100000 in
theorem c_M_init (l : Launch) (dC : Nat → ClassId) (dI : Nat → Nat → Nat) (cI cL : ClassId) {ws0 : va_W} (sz : Nat) {aX : Nat} (x1 : Int32) (sd : Int32) (hsd0 : x1 < 0 → (4 : Int32) <<< ((0 : Int32) &&& 31) = sd) (hsd1 : (3 : Int32) < x1 → (4 : Int32) <<< ((3 : Int32) &&& 31) = sd) (hsd2 : 0 ≤ x1 → x1 ≤ (3 : Int32) → (4 : Int32) <<< (x1 &&& 31) = sd) (hN_X : zA ws0 21 (aX, .inr (7, [.int 0, .int 0, .null, .null, .int 0, .null, .int 0, .int 0, .null, .int 0, .null, .int 0, .int 0, .int 0, .int 0, .null, .int 0, .null, .null, .null, .null, .null, .null, .long 0]))) (hlen : ws0.length = 22) : Met l y_M_init w_M_init rm_M_init (va_Pc [.ref aX, .int x1] (zM dC dI cI cL ws0 sz)) (va_Qv (fun ws' : va_W => ws'.length = 34 ∧ (∃ aXpicture aXhalf aXblocks aXencoded aXfed aXpile aXnews aXolds aXhalves aXds aXrs aXbest, zA ws' 21 (aX, .inr (7, [.int 0, .int sd, .ref aXpicture, .ref aXhalf, .int 0, .ref aXblocks, .int 0, .int 0, .ref aXencoded, .int 0, .ref aXfed, .int 0, .int 0, .int 0, .int 0, .ref aXpile, .int 0, .ref aXnews, .ref aXolds, .ref aXhalves, .ref aXds, .ref aXrs, .ref aXbest, .long 0])) ∧ zA ws' 22 (aXpicture, .inl (cI, 1024, .inl (fun _ => 0))) ∧ zA ws' 23 (aXhalf, .inl (cI, 256, .inl (fun _ => 0))) ∧ zA ws' 24 (aXblocks, .inl (cI, 4096, .inl (fun _ => 0))) ∧ zA ws' 25 (aXencoded, .inl (cI, 2000, .inl (fun _ => 0))) ∧ zA ws' 26 (aXfed, .inl (cI, 2000, .inl (fun _ => 0))) ∧ zA ws' 27 (aXpile, .inl (cI, 96, .inl (fun _ => 0))) ∧ zA ws' 28 (aXnews, .inl (cI, 4096, .inl (fun _ => 0))) ∧ zA ws' 29 (aXolds, .inl (cI, 4096, .inl (fun _ => 0))) ∧ zA ws' 30 (aXhalves, .inl (cI, 1024, .inl (fun _ => 0))) ∧ zA ws' 31 (aXds, .inl (cI, 256, .inl (fun _ => 0))) ∧ zA ws' 32 (aXrs, .inl (cI, 256, .inl (fun _ => 0))) ∧ zA ws' 33 (aXbest, .inl (cI, 4, .inl (fun _ => 0)))) ∧ ∀ j, j < 22 → j ≠ 21 → ws'[j]? = ws0[j]?) (zQ dC dI cI cL (va_A ws0 sz)) (va_A ws0 sz)) 12 19204 (va_A ws0 sz) := by
  refine Met.ofW (cc := b_M_init) (maxL := 3) (ret := none) (by decide) rfl ?_
  intro p e s m args below meth c s₁ B hml hv
  obtain ⟨rfl, hsz, hP, hK, hZ, hD0⟩ := hv
  have hx := B.exec
  have hb := B.bytes
  have hr := B.returns
  have hlocks := B.notSynchronized
  have hin : meth.name = "<init>" := (name_of_methodNamed B.named B.method).1
  have hts : ∀ w ∈ BIG, w.before ([.ref aX, .int x1] : List Value).toArray s = true := fun w h => atoms_spec (ws := w_M_init) B.pre w (List.mem_cons_of_mem _ h)
  have hown : s.vm.findClass "FractalMapsModel" = some m.cls := findClass_of_methodNamed B.named
  subst hsz
  have hD := hD0.self (sz := s.heap.size)
  generalize hAe : va_A ws0 s.heap.size = A at hD ⊢
  have hA : ∀ q : Nat, s.heap.size ≤ q → A q := fun q h => by rw [← hAe]; exact Or.inr h
  have hS : va_S A s.heap s.heap [] := va_S.rf
  have hw : ∀ j, j < 22 → j ≠ 21 → ws0[j]? = ws0[j]? := fun _ _ _ => rfl
  have hl := lv_entry ([.ref aX, .int x1]) (n := 3) (Nat.le_of_ble_eq_true rfl)
  rw [lg_entry_eq]
  generalize (lg_sl ([.ref aX, .int x1]) ++ List.replicate (3 - (lg_sl ([.ref aX, .int x1])).length) Slot.unset).toArray = ls at hl ⊢
  have hl : lv_has ls 3 [(0, .ref aX), (1, .int x1)] := hl
  refine lv_aload_n hx hb d_M_init_0 rfl (lv_at hl 0 rfl) ?_
  refine W.objInit hx hb hown (hts _ k_754) (hts _ k_60) (hts _ k_61) rfl (by rw [hml]; exact hl.1) rfl d_M_init_1 (Nat.le_of_ble_eq_true rfl) (Nat.le_of_ble_eq_true rfl) ?_
  refine W.eq (g2 := F0 m 4 ls []) rfl ?_
  refine lv_aload_n hx hb d_M_init_4 rfl (lv_at hl 0 rfl) ?_
  refine lv_sipush (v := 1024) hx hb d_M_init_5 (by decide) ?_
  refine z_newa (N := 1024) (B := 1024) hx hb (hts _ k_91) hK hP hD hS hA hlen (by decide) (by decide) (by decide) (by decide) (Nat.le_of_ble_eq_true rfl) (Nat.le_of_ble_eq_true rfl) d_M_init_8 (fun ws aXpicture H hP hD hS hlen hN_Xpicture hfr => ?_)
  have hN_X := (hfr _ (by decide)).trans hN_X
  have hlen : ws.length = 23 := hlen
  have hw : ∀ j, j < 22 → j ≠ 21 → ws[j]? = ws0[j]? := fun j h1 h2 => (hfr j (by omega)).trans (hw j h1 h2)
  refine pI_M_7 (v := .ref aXpicture) hx hb hts hown hK hP hD hS hin hN_X rfl rfl (Nat.le_of_ble_eq_true rfl) d_M_init_10 (fun ws H locs hP hD hS hlen1 hN_X hfr => ?_)
  have hlen := hlen1.trans hlen
  have hN_X : zA ws 21 (aX, .inr (7, [.int 0, .int 0, .ref aXpicture, .null, .int 0, .null, .int 0, .int 0, .null, .int 0, .null, .int 0, .int 0, .int 0, .int 0, .null, .int 0, .null, .null, .null, .null, .null, .null, .long 0])) := hN_X
  have hN_Xpicture := (hfr _ (by decide)).trans hN_Xpicture
  have hw : ∀ j, j < 22 → j ≠ 21 → ws[j]? = ws0[j]? := fun j h1 h2 => (hfr j h2).trans (hw j h1 h2)
  refine lv_aload_n hx hb d_M_init_13 rfl (lv_at hl 0 rfl) ?_
  refine lv_sipush (v := 256) hx hb d_M_init_14 (by decide) ?_
  refine z_newa (N := 256) (B := 256) hx hb (hts _ k_91) hK hP hD hS hA hlen (by decide) (by decide) (by decide) (by decide) (Nat.le_of_ble_eq_true rfl) (Nat.le_of_ble_eq_true rfl) d_M_init_17 (fun ws aXhalf H hP hD hS hlen hN_Xhalf hfr => ?_)
  have hN_X := (hfr _ (by decide)).trans hN_X
  have hN_Xpicture := (hfr _ (by decide)).trans hN_Xpicture
  have hlen : ws.length = 24 := hlen
  have hw : ∀ j, j < 22 → j ≠ 21 → ws[j]? = ws0[j]? := fun j h1 h2 => (hfr j (by omega)).trans (hw j h1 h2)
  refine pI_M_13 (v := .ref aXhalf) hx hb hts hown hK hP hD hS hin hN_X rfl rfl (Nat.le_of_ble_eq_true rfl) d_M_init_19 (fun ws H locs hP hD hS hlen1 hN_X hfr => ?_)
  have hlen := hlen1.trans hlen
  have hN_X : zA ws 21 (aX, .inr (7, [.int 0, .int 0, .ref aXpicture, .ref aXhalf, .int 0, .null, .int 0, .int 0, .null, .int 0, .null, .int 0, .int 0, .int 0, .int 0, .null, .int 0, .null, .null, .null, .null, .null, .null, .long 0])) := hN_X
  have hN_Xpicture := (hfr _ (by decide)).trans hN_Xpicture
  have hN_Xhalf := (hfr _ (by decide)).trans hN_Xhalf
  have hw : ∀ j, j < 22 → j ≠ 21 → ws[j]? = ws0[j]? := fun j h1 h2 => (hfr j h2).trans (hw j h1 h2)
  refine lv_aload_n hx hb d_M_init_22 rfl (lv_at hl 0 rfl) ?_
  refine lv_sipush (v := 4096) hx hb d_M_init_23 (by decide) ?_
  refine z_newa (N := 4096) (B := 4096) hx hb (hts _ k_91) hK hP hD hS hA hlen (by decide) (by decide) (by decide) (by decide) (Nat.le_of_ble_eq_true rfl) (Nat.le_of_ble_eq_true rfl) d_M_init_26 (fun ws aXblocks H hP hD hS hlen hN_Xblocks hfr => ?_)
  have hN_X := (hfr _ (by decide)).trans hN_X
  have hN_Xpicture := (hfr _ (by decide)).trans hN_Xpicture
  have hN_Xhalf := (hfr _ (by decide)).trans hN_Xhalf
  have hlen : ws.length = 25 := hlen
  have hw : ∀ j, j < 22 → j ≠ 21 → ws[j]? = ws0[j]? := fun j h1 h2 => (hfr j (by omega)).trans (hw j h1 h2)
  refine pI_M_16 (v := .ref aXblocks) hx hb hts hown hK hP hD hS hin hN_X rfl rfl (Nat.le_of_ble_eq_true rfl) d_M_init_28 (fun ws H locs hP hD hS hlen1 hN_X hfr => ?_)
  have hlen := hlen1.trans hlen
  have hN_X : zA ws 21 (aX, .inr (7, [.int 0, .int 0, .ref aXpicture, .ref aXhalf, .int 0, .ref aXblocks, .int 0, .int 0, .null, .int 0, .null, .int 0, .int 0, .int 0, .int 0, .null, .int 0, .null, .null, .null, .null, .null, .null, .long 0])) := hN_X
  have hN_Xpicture := (hfr _ (by decide)).trans hN_Xpicture
  have hN_Xhalf := (hfr _ (by decide)).trans hN_Xhalf
  have hN_Xblocks := (hfr _ (by decide)).trans hN_Xblocks
  have hw : ∀ j, j < 22 → j ≠ 21 → ws[j]? = ws0[j]? := fun j h1 h2 => (hfr j h2).trans (hw j h1 h2)
  refine lv_aload_n hx hb d_M_init_31 rfl (lv_at hl 0 rfl) ?_
  refine lv_sipush (v := 2000) hx hb d_M_init_32 (by decide) ?_
  refine z_newa (N := 2000) (B := 2000) hx hb (hts _ k_91) hK hP hD hS hA hlen (by decide) (by decide) (by decide) (by decide) (Nat.le_of_ble_eq_true rfl) (Nat.le_of_ble_eq_true rfl) d_M_init_35 (fun ws aXencoded H hP hD hS hlen hN_Xencoded hfr => ?_)
  have hN_X := (hfr _ (by decide)).trans hN_X
  have hN_Xpicture := (hfr _ (by decide)).trans hN_Xpicture
  have hN_Xhalf := (hfr _ (by decide)).trans hN_Xhalf
  have hN_Xblocks := (hfr _ (by decide)).trans hN_Xblocks
  have hlen : ws.length = 26 := hlen
  have hw : ∀ j, j < 22 → j ≠ 21 → ws[j]? = ws0[j]? := fun j h1 h2 => (hfr j (by omega)).trans (hw j h1 h2)
  refine pI_M_19 (v := .ref aXencoded) hx hb hts hown hK hP hD hS hin hN_X rfl rfl (Nat.le_of_ble_eq_true rfl) d_M_init_37 (fun ws H locs hP hD hS hlen1 hN_X hfr => ?_)
  have hlen := hlen1.trans hlen
  have hN_X : zA ws 21 (aX, .inr (7, [.int 0, .int 0, .ref aXpicture, .ref aXhalf, .int 0, .ref aXblocks, .int 0, .int 0, .ref aXencoded, .int 0, .null, .int 0, .int 0, .int 0, .int 0, .null, .int 0, .null, .null, .null, .null, .null, .null, .long 0])) := hN_X
  have hN_Xpicture := (hfr _ (by decide)).trans hN_Xpicture
  have hN_Xhalf := (hfr _ (by decide)).trans hN_Xhalf
  have hN_Xblocks := (hfr _ (by decide)).trans hN_Xblocks
  have hN_Xencoded := (hfr _ (by decide)).trans hN_Xencoded
  have hw : ∀ j, j < 22 → j ≠ 21 → ws[j]? = ws0[j]? := fun j h1 h2 => (hfr j h2).trans (hw j h1 h2)
  refine lv_aload_n hx hb d_M_init_40 rfl (lv_at hl 0 rfl) ?_
  refine lv_sipush (v := 2000) hx hb d_M_init_41 (by decide) ?_
  refine z_newa (N := 2000) (B := 2000) hx hb (hts _ k_91) hK hP hD hS hA hlen (by decide) (by decide) (by decide) (by decide) (Nat.le_of_ble_eq_true rfl) (Nat.le_of_ble_eq_true rfl) d_M_init_44 (fun ws aXfed H hP hD hS hlen hN_Xfed hfr => ?_)
  have hN_X := (hfr _ (by decide)).trans hN_X
  have hN_Xpicture := (hfr _ (by decide)).trans hN_Xpicture
  have hN_Xhalf := (hfr _ (by decide)).trans hN_Xhalf
  have hN_Xblocks := (hfr _ (by decide)).trans hN_Xblocks
  have hN_Xencoded := (hfr _ (by decide)).trans hN_Xencoded
  have hlen : ws.length = 27 := hlen
  have hw : ∀ j, j < 22 → j ≠ 21 → ws[j]? = ws0[j]? := fun j h1 h2 => (hfr j (by omega)).trans (hw j h1 h2)
  refine pI_M_22 (v := .ref aXfed) hx hb hts hown hK hP hD hS hin hN_X rfl rfl (Nat.le_of_ble_eq_true rfl) d_M_init_46 (fun ws H locs hP hD hS hlen1 hN_X hfr => ?_)
  have hlen := hlen1.trans hlen
  have hN_X : zA ws 21 (aX, .inr (7, [.int 0, .int 0, .ref aXpicture, .ref aXhalf, .int 0, .ref aXblocks, .int 0, .int 0, .ref aXencoded, .int 0, .ref aXfed, .int 0, .int 0, .int 0, .int 0, .null, .int 0, .null, .null, .null, .null, .null, .null, .long 0])) := hN_X
  have hN_Xpicture := (hfr _ (by decide)).trans hN_Xpicture
  have hN_Xhalf := (hfr _ (by decide)).trans hN_Xhalf
  have hN_Xblocks := (hfr _ (by decide)).trans hN_Xblocks
  have hN_Xencoded := (hfr _ (by decide)).trans hN_Xencoded
  have hN_Xfed := (hfr _ (by decide)).trans hN_Xfed
  have hw : ∀ j, j < 22 → j ≠ 21 → ws[j]? = ws0[j]? := fun j h1 h2 => (hfr j h2).trans (hw j h1 h2)
  refine lv_aload_n hx hb d_M_init_49 rfl (lv_at hl 0 rfl) ?_
  refine lv_bipush (v := 96) hx hb d_M_init_50 (by decide) ?_
  refine z_newa (N := 96) (B := 96) hx hb (hts _ k_91) hK hP hD hS hA hlen (by decide) (by decide) (by decide) (by decide) (Nat.le_of_ble_eq_true rfl) (Nat.le_of_ble_eq_true rfl) d_M_init_52 (fun ws aXpile H hP hD hS hlen hN_Xpile hfr => ?_)
  have hN_X := (hfr _ (by decide)).trans hN_X
  have hN_Xpicture := (hfr _ (by decide)).trans hN_Xpicture
  have hN_Xhalf := (hfr _ (by decide)).trans hN_Xhalf
  have hN_Xblocks := (hfr _ (by decide)).trans hN_Xblocks
  have hN_Xencoded := (hfr _ (by decide)).trans hN_Xencoded
  have hN_Xfed := (hfr _ (by decide)).trans hN_Xfed
  have hlen : ws.length = 28 := hlen
  have hw : ∀ j, j < 22 → j ≠ 21 → ws[j]? = ws0[j]? := fun j h1 h2 => (hfr j (by omega)).trans (hw j h1 h2)
  refine pI_M_25 (v := .ref aXpile) hx hb hts hown hK hP hD hS hin hN_X rfl rfl (Nat.le_of_ble_eq_true rfl) d_M_init_54 (fun ws H locs hP hD hS hlen1 hN_X hfr => ?_)
  have hlen := hlen1.trans hlen
  have hN_X : zA ws 21 (aX, .inr (7, [.int 0, .int 0, .ref aXpicture, .ref aXhalf, .int 0, .ref aXblocks, .int 0, .int 0, .ref aXencoded, .int 0, .ref aXfed, .int 0, .int 0, .int 0, .int 0, .ref aXpile, .int 0, .null, .null, .null, .null, .null, .null, .long 0])) := hN_X
  have hN_Xpicture := (hfr _ (by decide)).trans hN_Xpicture
  have hN_Xhalf := (hfr _ (by decide)).trans hN_Xhalf
  have hN_Xblocks := (hfr _ (by decide)).trans hN_Xblocks
  have hN_Xencoded := (hfr _ (by decide)).trans hN_Xencoded
  have hN_Xfed := (hfr _ (by decide)).trans hN_Xfed
  have hN_Xpile := (hfr _ (by decide)).trans hN_Xpile
  have hw : ∀ j, j < 22 → j ≠ 21 → ws[j]? = ws0[j]? := fun j h1 h2 => (hfr j h2).trans (hw j h1 h2)
  refine lv_aload_n hx hb d_M_init_57 rfl (lv_at hl 0 rfl) ?_
  refine lv_sipush (v := 4096) hx hb d_M_init_58 (by decide) ?_
  refine z_newa (N := 4096) (B := 4096) hx hb (hts _ k_91) hK hP hD hS hA hlen (by decide) (by decide) (by decide) (by decide) (Nat.le_of_ble_eq_true rfl) (Nat.le_of_ble_eq_true rfl) d_M_init_61 (fun ws aXnews H hP hD hS hlen hN_Xnews hfr => ?_)
  have hN_X := (hfr _ (by decide)).trans hN_X
  have hN_Xpicture := (hfr _ (by decide)).trans hN_Xpicture
  have hN_Xhalf := (hfr _ (by decide)).trans hN_Xhalf
  have hN_Xblocks := (hfr _ (by decide)).trans hN_Xblocks
  have hN_Xencoded := (hfr _ (by decide)).trans hN_Xencoded
  have hN_Xfed := (hfr _ (by decide)).trans hN_Xfed
  have hN_Xpile := (hfr _ (by decide)).trans hN_Xpile
  have hlen : ws.length = 29 := hlen
  have hw : ∀ j, j < 22 → j ≠ 21 → ws[j]? = ws0[j]? := fun j h1 h2 => (hfr j (by omega)).trans (hw j h1 h2)
  refine pI_M_28 (v := .ref aXnews) hx hb hts hown hK hP hD hS hin hN_X rfl rfl (Nat.le_of_ble_eq_true rfl) d_M_init_63 (fun ws H locs hP hD hS hlen1 hN_X hfr => ?_)
  have hlen := hlen1.trans hlen
  have hN_X : zA ws 21 (aX, .inr (7, [.int 0, .int 0, .ref aXpicture, .ref aXhalf, .int 0, .ref aXblocks, .int 0, .int 0, .ref aXencoded, .int 0, .ref aXfed, .int 0, .int 0, .int 0, .int 0, .ref aXpile, .int 0, .ref aXnews, .null, .null, .null, .null, .null, .long 0])) := hN_X
  have hN_Xpicture := (hfr _ (by decide)).trans hN_Xpicture
  have hN_Xhalf := (hfr _ (by decide)).trans hN_Xhalf
  have hN_Xblocks := (hfr _ (by decide)).trans hN_Xblocks
  have hN_Xencoded := (hfr _ (by decide)).trans hN_Xencoded
  have hN_Xfed := (hfr _ (by decide)).trans hN_Xfed
  have hN_Xpile := (hfr _ (by decide)).trans hN_Xpile
  have hN_Xnews := (hfr _ (by decide)).trans hN_Xnews
  have hw : ∀ j, j < 22 → j ≠ 21 → ws[j]? = ws0[j]? := fun j h1 h2 => (hfr j h2).trans (hw j h1 h2)
  refine lv_aload_n hx hb d_M_init_66 rfl (lv_at hl 0 rfl) ?_
  refine lv_sipush (v := 4096) hx hb d_M_init_67 (by decide) ?_
  refine z_newa (N := 4096) (B := 4096) hx hb (hts _ k_91) hK hP hD hS hA hlen (by decide) (by decide) (by decide) (by decide) (Nat.le_of_ble_eq_true rfl) (Nat.le_of_ble_eq_true rfl) d_M_init_70 (fun ws aXolds H hP hD hS hlen hN_Xolds hfr => ?_)
  have hN_X := (hfr _ (by decide)).trans hN_X
  have hN_Xpicture := (hfr _ (by decide)).trans hN_Xpicture
  have hN_Xhalf := (hfr _ (by decide)).trans hN_Xhalf
  have hN_Xblocks := (hfr _ (by decide)).trans hN_Xblocks
  have hN_Xencoded := (hfr _ (by decide)).trans hN_Xencoded
  have hN_Xfed := (hfr _ (by decide)).trans hN_Xfed
  have hN_Xpile := (hfr _ (by decide)).trans hN_Xpile
  have hN_Xnews := (hfr _ (by decide)).trans hN_Xnews
  have hlen : ws.length = 30 := hlen
  have hw : ∀ j, j < 22 → j ≠ 21 → ws[j]? = ws0[j]? := fun j h1 h2 => (hfr j (by omega)).trans (hw j h1 h2)
  refine pI_M_31 (v := .ref aXolds) hx hb hts hown hK hP hD hS hin hN_X rfl rfl (Nat.le_of_ble_eq_true rfl) d_M_init_72 (fun ws H locs hP hD hS hlen1 hN_X hfr => ?_)
  have hlen := hlen1.trans hlen
  have hN_X : zA ws 21 (aX, .inr (7, [.int 0, .int 0, .ref aXpicture, .ref aXhalf, .int 0, .ref aXblocks, .int 0, .int 0, .ref aXencoded, .int 0, .ref aXfed, .int 0, .int 0, .int 0, .int 0, .ref aXpile, .int 0, .ref aXnews, .ref aXolds, .null, .null, .null, .null, .long 0])) := hN_X
  have hN_Xpicture := (hfr _ (by decide)).trans hN_Xpicture
  have hN_Xhalf := (hfr _ (by decide)).trans hN_Xhalf
  have hN_Xblocks := (hfr _ (by decide)).trans hN_Xblocks
  have hN_Xencoded := (hfr _ (by decide)).trans hN_Xencoded
  have hN_Xfed := (hfr _ (by decide)).trans hN_Xfed
  have hN_Xpile := (hfr _ (by decide)).trans hN_Xpile
  have hN_Xnews := (hfr _ (by decide)).trans hN_Xnews
  have hN_Xolds := (hfr _ (by decide)).trans hN_Xolds
  have hw : ∀ j, j < 22 → j ≠ 21 → ws[j]? = ws0[j]? := fun j h1 h2 => (hfr j h2).trans (hw j h1 h2)
  refine lv_aload_n hx hb d_M_init_75 rfl (lv_at hl 0 rfl) ?_
  refine lv_sipush (v := 1024) hx hb d_M_init_76 (by decide) ?_
  refine z_newa (N := 1024) (B := 1024) hx hb (hts _ k_91) hK hP hD hS hA hlen (by decide) (by decide) (by decide) (by decide) (Nat.le_of_ble_eq_true rfl) (Nat.le_of_ble_eq_true rfl) d_M_init_79 (fun ws aXhalves H hP hD hS hlen hN_Xhalves hfr => ?_)
  have hN_X := (hfr _ (by decide)).trans hN_X
  have hN_Xpicture := (hfr _ (by decide)).trans hN_Xpicture
  have hN_Xhalf := (hfr _ (by decide)).trans hN_Xhalf
  have hN_Xblocks := (hfr _ (by decide)).trans hN_Xblocks
  have hN_Xencoded := (hfr _ (by decide)).trans hN_Xencoded
  have hN_Xfed := (hfr _ (by decide)).trans hN_Xfed
  have hN_Xpile := (hfr _ (by decide)).trans hN_Xpile
  have hN_Xnews := (hfr _ (by decide)).trans hN_Xnews
  have hN_Xolds := (hfr _ (by decide)).trans hN_Xolds
  have hlen : ws.length = 31 := hlen
  have hw : ∀ j, j < 22 → j ≠ 21 → ws[j]? = ws0[j]? := fun j h1 h2 => (hfr j (by omega)).trans (hw j h1 h2)
  refine pI_M_34 (v := .ref aXhalves) hx hb hts hown hK hP hD hS hin hN_X rfl rfl (Nat.le_of_ble_eq_true rfl) d_M_init_81 (fun ws H locs hP hD hS hlen1 hN_X hfr => ?_)
  have hlen := hlen1.trans hlen
  have hN_X : zA ws 21 (aX, .inr (7, [.int 0, .int 0, .ref aXpicture, .ref aXhalf, .int 0, .ref aXblocks, .int 0, .int 0, .ref aXencoded, .int 0, .ref aXfed, .int 0, .int 0, .int 0, .int 0, .ref aXpile, .int 0, .ref aXnews, .ref aXolds, .ref aXhalves, .null, .null, .null, .long 0])) := hN_X
  have hN_Xpicture := (hfr _ (by decide)).trans hN_Xpicture
  have hN_Xhalf := (hfr _ (by decide)).trans hN_Xhalf
  have hN_Xblocks := (hfr _ (by decide)).trans hN_Xblocks
  have hN_Xencoded := (hfr _ (by decide)).trans hN_Xencoded
  have hN_Xfed := (hfr _ (by decide)).trans hN_Xfed
  have hN_Xpile := (hfr _ (by decide)).trans hN_Xpile
  have hN_Xnews := (hfr _ (by decide)).trans hN_Xnews
  have hN_Xolds := (hfr _ (by decide)).trans hN_Xolds
  have hN_Xhalves := (hfr _ (by decide)).trans hN_Xhalves
  have hw : ∀ j, j < 22 → j ≠ 21 → ws[j]? = ws0[j]? := fun j h1 h2 => (hfr j h2).trans (hw j h1 h2)
  refine lv_aload_n hx hb d_M_init_84 rfl (lv_at hl 0 rfl) ?_
  refine lv_sipush (v := 256) hx hb d_M_init_85 (by decide) ?_
  refine z_newa (N := 256) (B := 256) hx hb (hts _ k_91) hK hP hD hS hA hlen (by decide) (by decide) (by decide) (by decide) (Nat.le_of_ble_eq_true rfl) (Nat.le_of_ble_eq_true rfl) d_M_init_88 (fun ws aXds H hP hD hS hlen hN_Xds hfr => ?_)
  have hN_X := (hfr _ (by decide)).trans hN_X
  have hN_Xpicture := (hfr _ (by decide)).trans hN_Xpicture
  have hN_Xhalf := (hfr _ (by decide)).trans hN_Xhalf
  have hN_Xblocks := (hfr _ (by decide)).trans hN_Xblocks
  have hN_Xencoded := (hfr _ (by decide)).trans hN_Xencoded
  have hN_Xfed := (hfr _ (by decide)).trans hN_Xfed
  have hN_Xpile := (hfr _ (by decide)).trans hN_Xpile
  have hN_Xnews := (hfr _ (by decide)).trans hN_Xnews
  have hN_Xolds := (hfr _ (by decide)).trans hN_Xolds
  have hN_Xhalves := (hfr _ (by decide)).trans hN_Xhalves
  have hlen : ws.length = 32 := hlen
  have hw : ∀ j, j < 22 → j ≠ 21 → ws[j]? = ws0[j]? := fun j h1 h2 => (hfr j (by omega)).trans (hw j h1 h2)
  refine pI_M_37 (v := .ref aXds) hx hb hts hown hK hP hD hS hin hN_X rfl rfl (Nat.le_of_ble_eq_true rfl) d_M_init_90 (fun ws H locs hP hD hS hlen1 hN_X hfr => ?_)
  have hlen := hlen1.trans hlen
  have hN_X : zA ws 21 (aX, .inr (7, [.int 0, .int 0, .ref aXpicture, .ref aXhalf, .int 0, .ref aXblocks, .int 0, .int 0, .ref aXencoded, .int 0, .ref aXfed, .int 0, .int 0, .int 0, .int 0, .ref aXpile, .int 0, .ref aXnews, .ref aXolds, .ref aXhalves, .ref aXds, .null, .null, .long 0])) := hN_X
  have hN_Xpicture := (hfr _ (by decide)).trans hN_Xpicture
  have hN_Xhalf := (hfr _ (by decide)).trans hN_Xhalf
  have hN_Xblocks := (hfr _ (by decide)).trans hN_Xblocks
  have hN_Xencoded := (hfr _ (by decide)).trans hN_Xencoded
  have hN_Xfed := (hfr _ (by decide)).trans hN_Xfed
  have hN_Xpile := (hfr _ (by decide)).trans hN_Xpile
  have hN_Xnews := (hfr _ (by decide)).trans hN_Xnews
  have hN_Xolds := (hfr _ (by decide)).trans hN_Xolds
  have hN_Xhalves := (hfr _ (by decide)).trans hN_Xhalves
  have hN_Xds := (hfr _ (by decide)).trans hN_Xds
  have hw : ∀ j, j < 22 → j ≠ 21 → ws[j]? = ws0[j]? := fun j h1 h2 => (hfr j h2).trans (hw j h1 h2)
  refine lv_aload_n hx hb d_M_init_93 rfl (lv_at hl 0 rfl) ?_
  refine lv_sipush (v := 256) hx hb d_M_init_94 (by decide) ?_
  refine z_newa (N := 256) (B := 256) hx hb (hts _ k_91) hK hP hD hS hA hlen (by decide) (by decide) (by decide) (by decide) (Nat.le_of_ble_eq_true rfl) (Nat.le_of_ble_eq_true rfl) d_M_init_97 (fun ws aXrs H hP hD hS hlen hN_Xrs hfr => ?_)
  have hN_X := (hfr _ (by decide)).trans hN_X
  have hN_Xpicture := (hfr _ (by decide)).trans hN_Xpicture
  have hN_Xhalf := (hfr _ (by decide)).trans hN_Xhalf
  have hN_Xblocks := (hfr _ (by decide)).trans hN_Xblocks
  have hN_Xencoded := (hfr _ (by decide)).trans hN_Xencoded
  have hN_Xfed := (hfr _ (by decide)).trans hN_Xfed
  have hN_Xpile := (hfr _ (by decide)).trans hN_Xpile
  have hN_Xnews := (hfr _ (by decide)).trans hN_Xnews
  have hN_Xolds := (hfr _ (by decide)).trans hN_Xolds
  have hN_Xhalves := (hfr _ (by decide)).trans hN_Xhalves
  have hN_Xds := (hfr _ (by decide)).trans hN_Xds
  have hlen : ws.length = 33 := hlen
  have hw : ∀ j, j < 22 → j ≠ 21 → ws[j]? = ws0[j]? := fun j h1 h2 => (hfr j (by omega)).trans (hw j h1 h2)
  refine pI_M_40 (v := .ref aXrs) hx hb hts hown hK hP hD hS hin hN_X rfl rfl (Nat.le_of_ble_eq_true rfl) d_M_init_99 (fun ws H locs hP hD hS hlen1 hN_X hfr => ?_)
  have hlen := hlen1.trans hlen
  have hN_X : zA ws 21 (aX, .inr (7, [.int 0, .int 0, .ref aXpicture, .ref aXhalf, .int 0, .ref aXblocks, .int 0, .int 0, .ref aXencoded, .int 0, .ref aXfed, .int 0, .int 0, .int 0, .int 0, .ref aXpile, .int 0, .ref aXnews, .ref aXolds, .ref aXhalves, .ref aXds, .ref aXrs, .null, .long 0])) := hN_X
  have hN_Xpicture := (hfr _ (by decide)).trans hN_Xpicture
  have hN_Xhalf := (hfr _ (by decide)).trans hN_Xhalf
  have hN_Xblocks := (hfr _ (by decide)).trans hN_Xblocks
  have hN_Xencoded := (hfr _ (by decide)).trans hN_Xencoded
  have hN_Xfed := (hfr _ (by decide)).trans hN_Xfed
  have hN_Xpile := (hfr _ (by decide)).trans hN_Xpile
  have hN_Xnews := (hfr _ (by decide)).trans hN_Xnews
  have hN_Xolds := (hfr _ (by decide)).trans hN_Xolds
  have hN_Xhalves := (hfr _ (by decide)).trans hN_Xhalves
  have hN_Xds := (hfr _ (by decide)).trans hN_Xds
  have hN_Xrs := (hfr _ (by decide)).trans hN_Xrs
  have hw : ∀ j, j < 22 → j ≠ 21 → ws[j]? = ws0[j]? := fun j h1 h2 => (hfr j h2).trans (hw j h1 h2)
  refine lv_aload_n hx hb d_M_init_102 rfl (lv_at hl 0 rfl) ?_
  refine lv_iconst (v := 4) hx hb d_M_init_103 (by decide) ?_
  refine z_newa (N := 4) (B := 4) hx hb (hts _ k_91) hK hP hD hS hA hlen (by decide) (by decide) (by decide) (by decide) (Nat.le_of_ble_eq_true rfl) (Nat.le_of_ble_eq_true rfl) d_M_init_104 (fun ws aXbest H hP hD hS hlen hN_Xbest hfr => ?_)
  have hN_X := (hfr _ (by decide)).trans hN_X
  have hN_Xpicture := (hfr _ (by decide)).trans hN_Xpicture
  have hN_Xhalf := (hfr _ (by decide)).trans hN_Xhalf
  have hN_Xblocks := (hfr _ (by decide)).trans hN_Xblocks
  have hN_Xencoded := (hfr _ (by decide)).trans hN_Xencoded
  have hN_Xfed := (hfr _ (by decide)).trans hN_Xfed
  have hN_Xpile := (hfr _ (by decide)).trans hN_Xpile
  have hN_Xnews := (hfr _ (by decide)).trans hN_Xnews
  have hN_Xolds := (hfr _ (by decide)).trans hN_Xolds
  have hN_Xhalves := (hfr _ (by decide)).trans hN_Xhalves
  have hN_Xds := (hfr _ (by decide)).trans hN_Xds
  have hN_Xrs := (hfr _ (by decide)).trans hN_Xrs
  have hlen : ws.length = 34 := hlen
  have hw : ∀ j, j < 22 → j ≠ 21 → ws[j]? = ws0[j]? := fun j h1 h2 => (hfr j (by omega)).trans (hw j h1 h2)
  refine pI_M_43 (v := .ref aXbest) hx hb hts hown hK hP hD hS hin hN_X rfl rfl (Nat.le_of_ble_eq_true rfl) d_M_init_106 (fun ws H locs hP hD hS hlen1 hN_X hfr => ?_)
  have hlen := hlen1.trans hlen
  have hN_X : zA ws 21 (aX, .inr (7, [.int 0, .int 0, .ref aXpicture, .ref aXhalf, .int 0, .ref aXblocks, .int 0, .int 0, .ref aXencoded, .int 0, .ref aXfed, .int 0, .int 0, .int 0, .int 0, .ref aXpile, .int 0, .ref aXnews, .ref aXolds, .ref aXhalves, .ref aXds, .ref aXrs, .ref aXbest, .long 0])) := hN_X
  have hN_Xpicture := (hfr _ (by decide)).trans hN_Xpicture
  have hN_Xhalf := (hfr _ (by decide)).trans hN_Xhalf
  have hN_Xblocks := (hfr _ (by decide)).trans hN_Xblocks
  have hN_Xencoded := (hfr _ (by decide)).trans hN_Xencoded
  have hN_Xfed := (hfr _ (by decide)).trans hN_Xfed
  have hN_Xpile := (hfr _ (by decide)).trans hN_Xpile
  have hN_Xnews := (hfr _ (by decide)).trans hN_Xnews
  have hN_Xolds := (hfr _ (by decide)).trans hN_Xolds
  have hN_Xhalves := (hfr _ (by decide)).trans hN_Xhalves
  have hN_Xds := (hfr _ (by decide)).trans hN_Xds
  have hN_Xrs := (hfr _ (by decide)).trans hN_Xrs
  have hN_Xbest := (hfr _ (by decide)).trans hN_Xbest
  have hw : ∀ j, j < 22 → j ≠ 21 → ws[j]? = ws0[j]? := fun j h1 h2 => (hfr j h2).trans (hw j h1 h2)
  by_cases h1 : x1 < 0
  · refine lv_iload_n hx hb d_M_init_109 rfl (lv_at hl 1 rfl) ?_
    refine lv_if_ge (tgt := 117) hx hb d_M_init_110 (by decide) (fun hc => absurd h1 (Int32.not_lt.mpr hc)) (fun _ => ?_)
    refine lv_iconst (v := 0) hx hb d_M_init_113 (by decide) ?_
    refine lv_goto (tgt := 127) hx hb d_M_init_114 (by decide) ?_
    refine lv_istore_n (lv' := [(2, .int (0 : Int32)), (0, .ref aX), (1, .int x1)]) hx hb d_M_init_127 rfl hl (by decide) rfl (fun ls hl => ?_)
    refine lv_aload_n hx hb d_M_init_128 rfl (lv_at hl 1 rfl) ?_
    refine lv_iconst (v := 4) hx hb d_M_init_129 (by decide) ?_
    refine lv_iload_n hx hb d_M_init_130 rfl (lv_at hl 0 rfl) ?_
    refine lv_ishl hx hb d_M_init_131 ?_
    refine lv_topi (fun sd0 hsdq => ?_)
    obtain rfl : sd = sd0 := (hsdq.trans (hsd0 h1)).symm
    refine pI_M_46 (v := .int sd) hx hb hts hown hK hP hD hS hin hN_X rfl rfl (Nat.le_of_ble_eq_true rfl) d_M_init_132 (fun ws H locs hP hD hS hlen1 hN_X hfr => ?_)
    have hlen := hlen1.trans hlen
    have hN_X : zA ws 21 (aX, .inr (7, [.int 0, .int sd, .ref aXpicture, .ref aXhalf, .int 0, .ref aXblocks, .int 0, .int 0, .ref aXencoded, .int 0, .ref aXfed, .int 0, .int 0, .int 0, .int 0, .ref aXpile, .int 0, .ref aXnews, .ref aXolds, .ref aXhalves, .ref aXds, .ref aXrs, .ref aXbest, .long 0])) := hN_X
    have hN_Xpicture := (hfr _ (by decide)).trans hN_Xpicture
    have hN_Xhalf := (hfr _ (by decide)).trans hN_Xhalf
    have hN_Xblocks := (hfr _ (by decide)).trans hN_Xblocks
    have hN_Xencoded := (hfr _ (by decide)).trans hN_Xencoded
    have hN_Xfed := (hfr _ (by decide)).trans hN_Xfed
    have hN_Xpile := (hfr _ (by decide)).trans hN_Xpile
    have hN_Xnews := (hfr _ (by decide)).trans hN_Xnews
    have hN_Xolds := (hfr _ (by decide)).trans hN_Xolds
    have hN_Xhalves := (hfr _ (by decide)).trans hN_Xhalves
    have hN_Xds := (hfr _ (by decide)).trans hN_Xds
    have hN_Xrs := (hfr _ (by decide)).trans hN_Xrs
    have hN_Xbest := (hfr _ (by decide)).trans hN_Xbest
    have hw : ∀ j, j < 22 → j ≠ 21 → ws[j]? = ws0[j]? := fun j h1 h2 => (hfr j h2).trans (hw j h1 h2)
    exact W.vret hx hb hr (fun t ht hW => ⟨⟨ws, rfl, ⟨hlen, ⟨aXpicture, aXhalf, aXblocks, aXencoded, aXfed, aXpile, aXnews, aXolds, aXhalves, aXds, aXrs, aXbest, hN_X, hN_Xpicture, hN_Xhalf, hN_Xblocks, hN_Xencoded, hN_Xfed, hN_Xpile, hN_Xnews, hN_Xolds, hN_Xhalves, hN_Xds, hN_Xrs, hN_Xbest⟩, hw⟩, by rw [ht]; exact hP, va_K.moved hW.alike hK, hD⟩, hS.F ht⟩) hS.2.2 d_M_init_135
  by_cases h2 : (3 : Int32) < x1
  · refine lv_iload_n hx hb d_M_init_109 rfl (lv_at hl 1 rfl) ?_
    refine lv_if_ge (tgt := 117) hx hb d_M_init_110 (by decide) (fun _ => ?_) (fun hc => absurd (Int32.not_le.mp hc) h1)
    refine lv_iload_n hx hb d_M_init_117 rfl (lv_at hl 1 rfl) ?_
    refine lv_iconst (v := 3) hx hb d_M_init_118 (by decide) ?_
    refine lv_icmp_le (tgt := 126) hx hb d_M_init_119 (by decide) (fun hd => absurd h2 (Int32.not_lt.mpr hd)) (fun _ => ?_)
    refine lv_iconst (v := 3) hx hb d_M_init_122 (by decide) ?_
    refine lv_goto (tgt := 127) hx hb d_M_init_123 (by decide) ?_
    refine lv_istore_n (lv' := [(2, .int (3 : Int32)), (0, .ref aX), (1, .int x1)]) hx hb d_M_init_127 rfl hl (by decide) rfl (fun ls hl => ?_)
    refine lv_aload_n hx hb d_M_init_128 rfl (lv_at hl 1 rfl) ?_
    refine lv_iconst (v := 4) hx hb d_M_init_129 (by decide) ?_
    refine lv_iload_n hx hb d_M_init_130 rfl (lv_at hl 0 rfl) ?_
    refine lv_ishl hx hb d_M_init_131 ?_
    refine lv_topi (fun sd0 hsdq => ?_)
    obtain rfl : sd = sd0 := (hsdq.trans (hsd1 h2)).symm
    refine pI_M_46 (v := .int sd) hx hb hts hown hK hP hD hS hin hN_X rfl rfl (Nat.le_of_ble_eq_true rfl) d_M_init_132 (fun ws H locs hP hD hS hlen1 hN_X hfr => ?_)
    have hlen := hlen1.trans hlen
    have hN_X : zA ws 21 (aX, .inr (7, [.int 0, .int sd, .ref aXpicture, .ref aXhalf, .int 0, .ref aXblocks, .int 0, .int 0, .ref aXencoded, .int 0, .ref aXfed, .int 0, .int 0, .int 0, .int 0, .ref aXpile, .int 0, .ref aXnews, .ref aXolds, .ref aXhalves, .ref aXds, .ref aXrs, .ref aXbest, .long 0])) := hN_X
    have hN_Xpicture := (hfr _ (by decide)).trans hN_Xpicture
    have hN_Xhalf := (hfr _ (by decide)).trans hN_Xhalf
    have hN_Xblocks := (hfr _ (by decide)).trans hN_Xblocks
    have hN_Xencoded := (hfr _ (by decide)).trans hN_Xencoded
    have hN_Xfed := (hfr _ (by decide)).trans hN_Xfed
    have hN_Xpile := (hfr _ (by decide)).trans hN_Xpile
    have hN_Xnews := (hfr _ (by decide)).trans hN_Xnews
    have hN_Xolds := (hfr _ (by decide)).trans hN_Xolds
    have hN_Xhalves := (hfr _ (by decide)).trans hN_Xhalves
    have hN_Xds := (hfr _ (by decide)).trans hN_Xds
    have hN_Xrs := (hfr _ (by decide)).trans hN_Xrs
    have hN_Xbest := (hfr _ (by decide)).trans hN_Xbest
    have hw : ∀ j, j < 22 → j ≠ 21 → ws[j]? = ws0[j]? := fun j h1 h2 => (hfr j h2).trans (hw j h1 h2)
    exact W.vret hx hb hr (fun t ht hW => ⟨⟨ws, rfl, ⟨hlen, ⟨aXpicture, aXhalf, aXblocks, aXencoded, aXfed, aXpile, aXnews, aXolds, aXhalves, aXds, aXrs, aXbest, hN_X, hN_Xpicture, hN_Xhalf, hN_Xblocks, hN_Xencoded, hN_Xfed, hN_Xpile, hN_Xnews, hN_Xolds, hN_Xhalves, hN_Xds, hN_Xrs, hN_Xbest⟩, hw⟩, by rw [ht]; exact hP, va_K.moved hW.alike hK, hD⟩, hS.F ht⟩) hS.2.2 d_M_init_135
  · refine lv_iload_n hx hb d_M_init_109 rfl (lv_at hl 1 rfl) ?_
    refine lv_if_ge (tgt := 117) hx hb d_M_init_110 (by decide) (fun _ => ?_) (fun hc => absurd (Int32.not_le.mp hc) h1)
    refine lv_iload_n hx hb d_M_init_117 rfl (lv_at hl 1 rfl) ?_
    refine lv_iconst (v := 3) hx hb d_M_init_118 (by decide) ?_
    refine lv_icmp_le (tgt := 126) hx hb d_M_init_119 (by decide) (fun _ => ?_) (fun hd => absurd (Int32.not_le.mp hd) h2)
    refine lv_iload_n hx hb d_M_init_126 rfl (lv_at hl 1 rfl) ?_
    refine lv_istore_n (lv' := [(2, .int x1), (0, .ref aX), (1, .int x1)]) hx hb d_M_init_127 rfl hl (by decide) rfl (fun ls hl => ?_)
    refine lv_aload_n hx hb d_M_init_128 rfl (lv_at hl 1 rfl) ?_
    refine lv_iconst (v := 4) hx hb d_M_init_129 (by decide) ?_
    refine lv_iload_n hx hb d_M_init_130 rfl (lv_at hl 0 rfl) ?_
    refine lv_ishl hx hb d_M_init_131 ?_
    refine lv_topi (fun sd0 hsdq => ?_)
    obtain rfl : sd = sd0 := (hsdq.trans (hsd2 (Int32.not_lt.mp h1) (Int32.not_lt.mp h2))).symm
    refine pI_M_46 (v := .int sd) hx hb hts hown hK hP hD hS hin hN_X rfl rfl (Nat.le_of_ble_eq_true rfl) d_M_init_132 (fun ws H locs hP hD hS hlen1 hN_X hfr => ?_)
    have hlen := hlen1.trans hlen
    have hN_X : zA ws 21 (aX, .inr (7, [.int 0, .int sd, .ref aXpicture, .ref aXhalf, .int 0, .ref aXblocks, .int 0, .int 0, .ref aXencoded, .int 0, .ref aXfed, .int 0, .int 0, .int 0, .int 0, .ref aXpile, .int 0, .ref aXnews, .ref aXolds, .ref aXhalves, .ref aXds, .ref aXrs, .ref aXbest, .long 0])) := hN_X
    have hN_Xpicture := (hfr _ (by decide)).trans hN_Xpicture
    have hN_Xhalf := (hfr _ (by decide)).trans hN_Xhalf
    have hN_Xblocks := (hfr _ (by decide)).trans hN_Xblocks
    have hN_Xencoded := (hfr _ (by decide)).trans hN_Xencoded
    have hN_Xfed := (hfr _ (by decide)).trans hN_Xfed
    have hN_Xpile := (hfr _ (by decide)).trans hN_Xpile
    have hN_Xnews := (hfr _ (by decide)).trans hN_Xnews
    have hN_Xolds := (hfr _ (by decide)).trans hN_Xolds
    have hN_Xhalves := (hfr _ (by decide)).trans hN_Xhalves
    have hN_Xds := (hfr _ (by decide)).trans hN_Xds
    have hN_Xrs := (hfr _ (by decide)).trans hN_Xrs
    have hN_Xbest := (hfr _ (by decide)).trans hN_Xbest
    have hw : ∀ j, j < 22 → j ≠ 21 → ws[j]? = ws0[j]? := fun j h1 h2 => (hfr j h2).trans (hw j h1 h2)
    exact W.vret hx hb hr (fun t ht hW => ⟨⟨ws, rfl, ⟨hlen, ⟨aXpicture, aXhalf, aXblocks, aXencoded, aXfed, aXpile, aXnews, aXolds, aXhalves, aXds, aXrs, aXbest, hN_X, hN_Xpicture, hN_Xhalf, hN_Xblocks, hN_Xencoded, hN_Xfed, hN_Xpile, hN_Xnews, hN_Xolds, hN_Xhalves, hN_Xds, hN_Xrs, hN_Xbest⟩, hw⟩, by rw [ht]; exact hP, va_K.moved hW.alike hK, hD⟩, hS.F ht⟩) hS.2.2 d_M_init_135
