def f_B_wipe : Option (Int32 × Int32) := some ((0 : Int32), (0 : Int32))
set_option maxHeartbeats 4000000 in
set_option maxRecDepth 100000 in
theorem c_B_wipe (l : Launch) (dC : Nat → ClassId) (dI : Nat → Nat → Nat) (cI cL : ClassId) {ws0 : va_W} (sz : Nat) {kB aB aBA : Nat} {B_filled B_taken : Int32} (hN_B : zA ws0 kB (aB, .inr (6, [.ref aBA, .int B_filled, .int B_taken]))) (r : Int32 × Int32) (hf : f_B_wipe = some r) : Met l y_B_wipe w_B_wipe rm_B_wipe (va_Pc [.ref aB] (zM dC dI cI cL ws0 sz)) (va_Qv (fun ws' : va_W => zA ws' kB (aB, .inr (6, [.ref aBA, .int r.1, .int r.2])) ∧ ∀ (j : Nat), j ∉ ([kB] : List Nat) → ws'[j]? = ws0[j]?) (zQ dC dI cI cL (va_A ws0 sz)) (va_A ws0 sz)) 0 0 (va_A ws0 sz) := by
  refine Met.ofW (cc := b_B_wipe) (maxL := 1) (ret := none) (by decide) rfl ?_
  intro p e s m args below meth c s₁ B hml hv
  obtain ⟨rfl, hsz, hP, hK, hZ, hD0⟩ := hv
  have hx := B.exec
  have hb := B.bytes
  have hr := B.returns
  have hlocks := B.notSynchronized
  have hts : ∀ w ∈ BIG, w.before ([.ref aB] : List Value).toArray s = true := fun w h => atoms_spec (ws := w_B_wipe) B.pre w (List.mem_cons_of_mem _ h)
  have hown : s.vm.findClass "FractalMaps$Bits" = some m.cls := findClass_of_methodNamed B.named
  subst hsz
  have hD := hD0.self (sz := s.heap.size)
  generalize hAe : va_A ws0 s.heap.size = A at hD ⊢
  have hA : ∀ q : Nat, s.heap.size ≤ q → A q := fun q h => by rw [← hAe]; exact Or.inr h
  have hS : va_S A s.heap s.heap [] := va_S.rf
  have hw : ∀ (j : Nat), j ∉ ([kB] : List Nat) → ws0[j]? = ws0[j]? := fun _ _ => rfl
  have hl := lv_entry ([.ref aB]) (n := 1) (Nat.le_of_ble_eq_true rfl)
  rw [lg_entry_eq]
  generalize (lg_sl ([.ref aB]) ++ List.replicate (1 - (lg_sl ([.ref aB])).length) Slot.unset).toArray = ls at hl ⊢
  have hl : lv_has ls 1 [(0, .ref aB)] := hl
  unfold f_B_wipe at hf
  refine lv_aload_n hx hb d_B_wipe_0 rfl (lv_at hl 0 rfl) ?_
  refine lv_iconst (v := 0) hx hb d_B_wipe_1 (by decide) ?_
  refine pf_B_24 (v := .int (0 : Int32)) hx hb hts hown hK hP hD hS hN_B rfl rfl (Nat.le_of_ble_eq_true rfl) d_B_wipe_2 (fun ws H locs hP hD hS hN_B hfr => ?_)
  have hN_B : zA ws kB (aB, .inr (6, [.ref aBA, .int (0 : Int32), .int B_taken])) := hN_B
  have hw := z_fr List.mem_cons_self hw hfr
  refine lv_aload_n hx hb d_B_wipe_5 rfl (lv_at hl 0 rfl) ?_
  refine lv_iconst (v := 0) hx hb d_B_wipe_6 (by decide) ?_
  refine pf_B_28 (v := .int (0 : Int32)) hx hb hts hown hK hP hD hS hN_B rfl rfl (Nat.le_of_ble_eq_true rfl) d_B_wipe_7 (fun ws H locs hP hD hS hN_B hfr => ?_)
  have hN_B : zA ws kB (aB, .inr (6, [.ref aBA, .int (0 : Int32), .int (0 : Int32)])) := hN_B
  have hw := z_fr List.mem_cons_self hw hfr
  obtain rfl := Option.some.inj hf
  exact W.vret hx hb hr (fun t ht hW => ⟨⟨ws, rfl, ⟨hN_B, hw⟩, by rw [ht]; exact hP, va_K.moved hW.alike hK, hD⟩, hS.F ht⟩) hS.2.2 d_B_wipe_10
def f_F_sizeNumber_2 (p0 : Int32) : Nat → Int32 → Option (Int32)
  | 0, _ => none
  | n + 1, v1 => if (4 : Int32) ≤ v1 then (some v1) else (if p0 ≤ ((1 : Int32) <<< (v1 &&& 31)) then (some v1) else (f_F_sizeNumber_2 p0 n (v1 + 1)))
def f_F_sizeNumber (x1 : Int32) : Option (Int32) := (f_F_sizeNumber_2 x1 FU (1 : Int32)).bind (fun q390 => some q390)
set_option maxHeartbeats 4000000 in
set_option maxRecDepth 100000 in
theorem c_F_sizeNumber (l : Launch) (x1 : Int32) (r : Int32) (hf : f_F_sizeNumber x1 = some r) : Met l y_F_sizeNumber w_F_sizeNumber rm_F_sizeNumber (va_Pc [.int x1] (fun _ => True)) (vp_Si (fun v => v = r)) 0 0 (fun _ => False) := by
  refine Met.ofW (cc := b_F_sizeNumber) (maxL := 2) (ret := some .int) (by decide) rfl ?_
  intro p e s m args below meth c s₁ B hml hv
  obtain ⟨rfl, -⟩ := hv
  have hx := B.exec
  have hb := B.bytes
  have hr := B.returns
  have hlocks := B.notSynchronized
  have hts : ∀ w ∈ BIG, w.before ([.int x1] : List Value).toArray s = true := fun w h => atoms_spec (ws := w_F_sizeNumber) B.pre w (List.mem_cons_of_mem _ h)
  have hown : s.vm.findClass "FractalMaps" = some m.cls := findClass_of_methodNamed B.named
  have hl := lv_entry ([.int x1]) (n := 2) (Nat.le_of_ble_eq_true rfl)
  rw [lg_entry_eq]
  generalize (lg_sl ([.int x1]) ++ List.replicate (2 - (lg_sl ([.int x1])).length) Slot.unset).toArray = ls at hl ⊢
  have hl : lv_has ls 2 [(0, .int x1)] := hl
  unfold f_F_sizeNumber at hf
  refine lv_iconst (v := 1) hx hb d_F_sizeNumber_0 (by decide) ?_
  refine lv_istore_n (lv' := [(1, .int (1 : Int32)), (0, .int x1)]) hx hb d_F_sizeNumber_1 rfl hl (by decide) rfl (fun ls hl => ?_)
  have lp392 : ∀ (Qx : State → Prop) (n : Nat) (v1_391 : Int32) (ls : Array Slot) (q : Int32) (hf : f_F_sizeNumber_2 x1 n v1_391 = some q) (hl : lv_has ls 2 [(0, .int x1), (1, .int v1_391)]) (kt0 : ∀ (ls : Array Slot), lv_has ls 2 [(0, .int x1), (1, .int q)] → W p l e (headSpec w_F_sizeNumber rm_F_sizeNumber).room s m ([.int x1] : List Value).toArray below meth c s.heap [] 0 0 Qx (F0 m 20 ls [])), W p l e (headSpec w_F_sizeNumber rm_F_sizeNumber).room s m ([.int x1] : List Value).toArray below meth c s.heap [] 0 0 Qx (F0 m 2 ls []) := by
    intro Qx n
    induction n with
    | zero => intro v1_391 ls q hf; cases hf
    | succ n ih =>
      intro v1_391 ls q hf hl kt0
      rw [f_F_sizeNumber_2] at hf
      refine lv_iload_n hx hb d_F_sizeNumber_2 rfl (lv_at hl 1 rfl) ?_
      refine lv_iconst (v := 4) hx hb d_F_sizeNumber_3 (by decide) ?_
      refine lv_icmp_ge (tgt := 20) hx hb d_F_sizeNumber_4 (by decide) (fun hc => ?_) (fun hc => ?_)
      · have hf := z_t hc hf
        obtain rfl := Option.some.inj hf
        exact kt0 ls (lv_sub hl [0, 1] rfl)
      · have hf := z_f hc hf
        refine lv_iconst (v := 1) hx hb d_F_sizeNumber_7 (by decide) ?_
        refine lv_iload_n hx hb d_F_sizeNumber_8 rfl (lv_at hl 1 rfl) ?_
        refine lv_ishl hx hb d_F_sizeNumber_9 ?_
        refine lv_iload_n hx hb d_F_sizeNumber_10 rfl (lv_at hl 0 rfl) ?_
        refine lv_icmp_ge (tgt := 20) hx hb d_F_sizeNumber_11 (by decide) (fun hc => ?_) (fun hc => ?_)
        · have hf := z_t hc hf
          obtain rfl := Option.some.inj hf
          exact kt0 ls (lv_sub hl [0, 1] rfl)
        · have hf := z_f hc hf
          refine lv_iinc (v := (v1_391 + 1)) (lv' := [(1, .int (v1_391 + 1)), (0, .int x1)]) hx hb d_F_sizeNumber_14 hl (k := 1) rfl rfl (by decide) rfl (fun ls hl => ?_)
          refine lv_goto (tgt := 2) hx hb d_F_sizeNumber_17 (by decide) ?_
          exact ih (v1_391 + 1) ls _ hf (lv_sub hl [1, 0] rfl) kt0
  obtain ⟨q390, hc, hf⟩ := z_b hf
  refine lp392 _ FU (1 : Int32) ls q390 hc (lv_sub hl [1, 0] rfl) (fun ls hl => ?_)
  refine lv_iload_n hx hb d_F_sizeNumber_20 rfl (lv_at hl 1 rfl) ?_
  obtain rfl := Option.some.inj hf
  exact W.iret hx hb hr (fun t ht hW => ⟨_, rfl, rfl, ht⟩) (fun q h => by cases h) d_F_sizeNumber_21
def f_K_add (x1 : Int32) (x2 : Int32) (x3 : Int32) (K_count : Int32) (KA_n : Nat) (KA_f : Nat → Int32) (yT_domain : Int32) (yT_turn : Int32) (yT_contrast : Int32) (yT_offset : Int32) (yT_error : Int32) : Option (Int32 × (Nat → Int32)) := if (((8 : Int32) * K_count) + (7 : Int32)) < (nI KA_n) then (if (((8 : Int32) * K_count) + (0 : Int32)) < 0 ∨ KA_n ≤ (((8 : Int32) * K_count) + (0 : Int32)).toNatClampNeg then none else (if (((8 : Int32) * K_count) + (1 : Int32)) < 0 ∨ KA_n ≤ (((8 : Int32) * K_count) + (1 : Int32)).toNatClampNeg then none else (if (((8 : Int32) * K_count) + (2 : Int32)) < 0 ∨ KA_n ≤ (((8 : Int32) * K_count) + (2 : Int32)).toNatClampNeg then none else (if (((8 : Int32) * K_count) + (3 : Int32)) < 0 ∨ KA_n ≤ (((8 : Int32) * K_count) + (3 : Int32)).toNatClampNeg then none else (if (((8 : Int32) * K_count) + (4 : Int32)) < 0 ∨ KA_n ≤ (((8 : Int32) * K_count) + (4 : Int32)).toNatClampNeg then none else (if (((8 : Int32) * K_count) + (5 : Int32)) < 0 ∨ KA_n ≤ (((8 : Int32) * K_count) + (5 : Int32)).toNatClampNeg then none else (if (((8 : Int32) * K_count) + (6 : Int32)) < 0 ∨ KA_n ≤ (((8 : Int32) * K_count) + (6 : Int32)).toNatClampNeg then none else (if (((8 : Int32) * K_count) + (7 : Int32)) < 0 ∨ KA_n ≤ (((8 : Int32) * K_count) + (7 : Int32)).toNatClampNeg then none else (some ((K_count + (1 : Int32)), (upd (upd (upd (upd (upd (upd (upd (upd KA_f (((8 : Int32) * K_count) + (0 : Int32)).toNatClampNeg x1) (((8 : Int32) * K_count) + (1 : Int32)).toNatClampNeg x2) (((8 : Int32) * K_count) + (2 : Int32)).toNatClampNeg x3) (((8 : Int32) * K_count) + (3 : Int32)).toNatClampNeg yT_domain) (((8 : Int32) * K_count) + (4 : Int32)).toNatClampNeg yT_turn) (((8 : Int32) * K_count) + (5 : Int32)).toNatClampNeg yT_contrast) (((8 : Int32) * K_count) + (6 : Int32)).toNatClampNeg yT_offset) (((8 : Int32) * K_count) + (7 : Int32)).toNatClampNeg yT_error))))))))))) else (some (K_count, KA_f))
set_option maxHeartbeats 4000000 in
set_option maxRecDepth 100000 in
theorem c_K_add (l : Launch) (dC : Nat → ClassId) (dI : Nat → Nat → Nat) (cI cL : ClassId) {ws0 : va_W} (sz : Nat) {kK kKA kyT aK aKA ayT : Nat} {K_count yT_domain yT_turn yT_contrast yT_offset yT_error : Int32} {KA_n : Nat} {KA_f : Nat → Int32} (x1 : Int32) (x2 : Int32) (x3 : Int32) (hN_K : zA ws0 kK (aK, .inr (5, [.ref aKA, .int K_count]))) (hN_KA : zA ws0 kKA (aKA, .inl (cI, KA_n, .inl KA_f))) (hN_yT : zA ws0 kyT (ayT, .inr (4, [.int yT_domain, .int yT_turn, .int yT_contrast, .int yT_offset, .int yT_error]))) (ne_K_KA : kK ≠ kKA) (ne_KA_yT : kKA ≠ kyT) (ne_K_yT : kK ≠ kyT) (r : Int32 × (Nat → Int32)) (hf : f_K_add x1 x2 x3 K_count KA_n KA_f yT_domain yT_turn yT_contrast yT_offset yT_error = some r) : Met l y_K_add w_K_add rm_K_add (va_Pc [.ref aK, .int x1, .int x2, .int x3, .ref ayT] (zM dC dI cI cL ws0 sz)) (va_Qv (fun ws' : va_W => zA ws' kK (aK, .inr (5, [.ref aKA, .int r.1])) ∧ zA ws' kKA (aKA, .inl (cI, KA_n, .inl r.2)) ∧ ∀ (j : Nat), j ∉ ([kK, kKA] : List Nat) → ws'[j]? = ws0[j]?) (zQ dC dI cI cL (va_A ws0 sz)) (va_A ws0 sz)) 0 0 (va_A ws0 sz) := by
  refine Met.ofW (cc := b_K_add) (maxL := 6) (ret := none) (by decide) rfl ?_
  intro p e s m args below meth c s₁ B hml hv
  obtain ⟨rfl, hsz, hP, hK, hZ, hD0⟩ := hv
  have hx := B.exec
  have hb := B.bytes
  have hr := B.returns
  have hlocks := B.notSynchronized
  have hts : ∀ w ∈ BIG, w.before ([.ref aK, .int x1, .int x2, .int x3, .ref ayT] : List Value).toArray s = true := fun w h => atoms_spec (ws := w_K_add) B.pre w (List.mem_cons_of_mem _ h)
  have hown : s.vm.findClass "FractalMaps$Blocks" = some m.cls := findClass_of_methodNamed B.named
  subst hsz
  have hD := hD0.self (sz := s.heap.size)
  generalize hAe : va_A ws0 s.heap.size = A at hD ⊢
  have hA : ∀ q : Nat, s.heap.size ≤ q → A q := fun q h => by rw [← hAe]; exact Or.inr h
  have hS : va_S A s.heap s.heap [] := va_S.rf
  have hw : ∀ (j : Nat), j ∉ ([kK, kKA] : List Nat) → ws0[j]? = ws0[j]? := fun _ _ => rfl
  have hl := lv_entry ([.ref aK, .int x1, .int x2, .int x3, .ref ayT]) (n := 6) (Nat.le_of_ble_eq_true rfl)
  rw [lg_entry_eq]
  generalize (lg_sl ([.ref aK, .int x1, .int x2, .int x3, .ref ayT]) ++ List.replicate (6 - (lg_sl ([.ref aK, .int x1, .int x2, .int x3, .ref ayT])).length) Slot.unset).toArray = ls at hl ⊢
  have hl : lv_has ls 6 [(0, .ref aK), (1, .int x1), (2, .int x2), (3, .int x3), (4, .ref ayT)] := hl
  unfold f_K_add at hf
  refine lv_bipush (v := 8) hx hb d_K_add_0 (by decide) ?_
  refine lv_aload_n hx hb d_K_add_2 rfl (lv_at hl 0 rfl) ?_
  refine gf_K_24 (v := .int K_count) hx hb hts hown hK hP hN_K rfl d_K_add_3 ?_
  refine lv_imul hx hb d_K_add_6 ?_
  refine lv_istore (lv' := [(5, .int ((8 : Int32) * K_count)), (0, .ref aK), (1, .int x1), (2, .int x2), (3, .int x3), (4, .ref ayT)]) hx hb d_K_add_7 hl (by decide) rfl (fun ls hl => ?_)
  refine lv_iload hx hb d_K_add_9 (lv_at hl 0 rfl) ?_
  refine lv_bipush (v := 7) hx hb d_K_add_11 (by decide) ?_
  refine lv_iadd hx hb d_K_add_13 ?_
  refine lv_aload_n hx hb d_K_add_14 rfl (lv_at hl 1 rfl) ?_
  refine gf_K_20 (v := .ref aKA) hx hb hts hown hK hP hN_K rfl d_K_add_15 ?_
  refine va_alen (v := nI KA_n) hx hb hK hP _ 0 hN_KA rfl rfl d_K_add_18 ?_
  refine lv_icmp_lt (tgt := 23) hx hb d_K_add_19 (by decide) (fun hc => ?_) (fun hc => ?_)
  · have hf := z_t hc hf
    refine lv_aload_n hx hb d_K_add_23 rfl (lv_at hl 1 rfl) ?_
    refine gf_K_20 (v := .ref aKA) hx hb hts hown hK hP hN_K rfl d_K_add_24 ?_
    refine lv_iload hx hb d_K_add_27 (lv_at hl 0 rfl) ?_
    refine lv_iconst (v := 0) hx hb d_K_add_29 (by decide) ?_
    refine lv_iadd hx hb d_K_add_30 ?_
    refine lv_iload_n hx hb d_K_add_31 rfl (lv_at hl 2 rfl) ?_
    obtain ⟨hin, hf⟩ := z_no hf
    refine z_iast hx hb hK hP hD hS hN_KA rfl hin d_K_add_32 (fun ws H locs hP hD hS hN_KA hfr => ?_)
    have hN_KA : zA ws kKA (aKA, .inl (cI, KA_n, .inl (upd KA_f (((8 : Int32) * K_count) + (0 : Int32)).toNatClampNeg x1))) := hN_KA
    have hN_K := (hfr _ ne_K_KA).trans hN_K
    have hN_yT := (hfr _ ne_KA_yT.symm).trans hN_yT
    have hw := z_fr (List.mem_cons_of_mem _ List.mem_cons_self) hw hfr
    refine lv_aload_n hx hb d_K_add_33 rfl (lv_at hl 1 rfl) ?_
    refine gf_K_20 (v := .ref aKA) hx hb hts hown hK hP hN_K rfl d_K_add_34 ?_
    refine lv_iload hx hb d_K_add_37 (lv_at hl 0 rfl) ?_
    refine lv_iconst (v := 1) hx hb d_K_add_39 (by decide) ?_
    refine lv_iadd hx hb d_K_add_40 ?_
    refine lv_iload_n hx hb d_K_add_41 rfl (lv_at hl 3 rfl) ?_
    obtain ⟨hin, hf⟩ := z_no hf
    refine z_iast hx hb hK hP hD hS hN_KA rfl hin d_K_add_42 (fun ws H locs hP hD hS hN_KA hfr => ?_)
    have hN_KA : zA ws kKA (aKA, .inl (cI, KA_n, .inl (upd (upd KA_f (((8 : Int32) * K_count) + (0 : Int32)).toNatClampNeg x1) (((8 : Int32) * K_count) + (1 : Int32)).toNatClampNeg x2))) := hN_KA
    have hN_K := (hfr _ ne_K_KA).trans hN_K
    have hN_yT := (hfr _ ne_KA_yT.symm).trans hN_yT
    have hw := z_fr (List.mem_cons_of_mem _ List.mem_cons_self) hw hfr
    refine lv_aload_n hx hb d_K_add_43 rfl (lv_at hl 1 rfl) ?_
    refine gf_K_20 (v := .ref aKA) hx hb hts hown hK hP hN_K rfl d_K_add_44 ?_
    refine lv_iload hx hb d_K_add_47 (lv_at hl 0 rfl) ?_
    refine lv_iconst (v := 2) hx hb d_K_add_49 (by decide) ?_
    refine lv_iadd hx hb d_K_add_50 ?_
    refine lv_iload_n hx hb d_K_add_51 rfl (lv_at hl 4 rfl) ?_
    obtain ⟨hin, hf⟩ := z_no hf
    refine z_iast hx hb hK hP hD hS hN_KA rfl hin d_K_add_52 (fun ws H locs hP hD hS hN_KA hfr => ?_)
    have hN_KA : zA ws kKA (aKA, .inl (cI, KA_n, .inl (upd (upd (upd KA_f (((8 : Int32) * K_count) + (0 : Int32)).toNatClampNeg x1) (((8 : Int32) * K_count) + (1 : Int32)).toNatClampNeg x2) (((8 : Int32) * K_count) + (2 : Int32)).toNatClampNeg x3))) := hN_KA
    have hN_K := (hfr _ ne_K_KA).trans hN_K
    have hN_yT := (hfr _ ne_KA_yT.symm).trans hN_yT
    have hw := z_fr (List.mem_cons_of_mem _ List.mem_cons_self) hw hfr
    refine lv_aload_n hx hb d_K_add_53 rfl (lv_at hl 1 rfl) ?_
    refine gf_K_20 (v := .ref aKA) hx hb hts hown hK hP hN_K rfl d_K_add_54 ?_
    refine lv_iload hx hb d_K_add_57 (lv_at hl 0 rfl) ?_
    refine lv_iconst (v := 3) hx hb d_K_add_59 (by decide) ?_
    refine lv_iadd hx hb d_K_add_60 ?_
    refine lv_aload hx hb d_K_add_61 (lv_at hl 5 rfl) ?_
    refine gf_K_28 (v := .int yT_domain) hx hb hts hown hK hZ hP hN_yT rfl d_K_add_63 ?_
    obtain ⟨hin, hf⟩ := z_no hf
    refine z_iast hx hb hK hP hD hS hN_KA rfl hin d_K_add_66 (fun ws H locs hP hD hS hN_KA hfr => ?_)
    have hN_KA : zA ws kKA (aKA, .inl (cI, KA_n, .inl (upd (upd (upd (upd KA_f (((8 : Int32) * K_count) + (0 : Int32)).toNatClampNeg x1) (((8 : Int32) * K_count) + (1 : Int32)).toNatClampNeg x2) (((8 : Int32) * K_count) + (2 : Int32)).toNatClampNeg x3) (((8 : Int32) * K_count) + (3 : Int32)).toNatClampNeg yT_domain))) := hN_KA
    have hN_K := (hfr _ ne_K_KA).trans hN_K
    have hN_yT := (hfr _ ne_KA_yT.symm).trans hN_yT
    have hw := z_fr (List.mem_cons_of_mem _ List.mem_cons_self) hw hfr
    refine lv_aload_n hx hb d_K_add_67 rfl (lv_at hl 1 rfl) ?_
    refine gf_K_20 (v := .ref aKA) hx hb hts hown hK hP hN_K rfl d_K_add_68 ?_
    refine lv_iload hx hb d_K_add_71 (lv_at hl 0 rfl) ?_
    refine lv_iconst (v := 4) hx hb d_K_add_73 (by decide) ?_
    refine lv_iadd hx hb d_K_add_74 ?_
    refine lv_aload hx hb d_K_add_75 (lv_at hl 5 rfl) ?_
    refine gf_K_33 (v := .int yT_turn) hx hb hts hown hK hZ hP hN_yT rfl d_K_add_77 ?_
    obtain ⟨hin, hf⟩ := z_no hf
    refine z_iast hx hb hK hP hD hS hN_KA rfl hin d_K_add_80 (fun ws H locs hP hD hS hN_KA hfr => ?_)
    have hN_KA : zA ws kKA (aKA, .inl (cI, KA_n, .inl (upd (upd (upd (upd (upd KA_f (((8 : Int32) * K_count) + (0 : Int32)).toNatClampNeg x1) (((8 : Int32) * K_count) + (1 : Int32)).toNatClampNeg x2) (((8 : Int32) * K_count) + (2 : Int32)).toNatClampNeg x3) (((8 : Int32) * K_count) + (3 : Int32)).toNatClampNeg yT_domain) (((8 : Int32) * K_count) + (4 : Int32)).toNatClampNeg yT_turn))) := hN_KA
    have hN_K := (hfr _ ne_K_KA).trans hN_K
    have hN_yT := (hfr _ ne_KA_yT.symm).trans hN_yT
    have hw := z_fr (List.mem_cons_of_mem _ List.mem_cons_self) hw hfr
    refine lv_aload_n hx hb d_K_add_81 rfl (lv_at hl 1 rfl) ?_
    refine gf_K_20 (v := .ref aKA) hx hb hts hown hK hP hN_K rfl d_K_add_82 ?_
    refine lv_iload hx hb d_K_add_85 (lv_at hl 0 rfl) ?_
    refine lv_iconst (v := 5) hx hb d_K_add_87 (by decide) ?_
    refine lv_iadd hx hb d_K_add_88 ?_
    refine lv_aload hx hb d_K_add_89 (lv_at hl 5 rfl) ?_
    refine gf_K_36 (v := .int yT_contrast) hx hb hts hown hK hZ hP hN_yT rfl d_K_add_91 ?_
    obtain ⟨hin, hf⟩ := z_no hf
    refine z_iast hx hb hK hP hD hS hN_KA rfl hin d_K_add_94 (fun ws H locs hP hD hS hN_KA hfr => ?_)
    have hN_KA : zA ws kKA (aKA, .inl (cI, KA_n, .inl (upd (upd (upd (upd (upd (upd KA_f (((8 : Int32) * K_count) + (0 : Int32)).toNatClampNeg x1) (((8 : Int32) * K_count) + (1 : Int32)).toNatClampNeg x2) (((8 : Int32) * K_count) + (2 : Int32)).toNatClampNeg x3) (((8 : Int32) * K_count) + (3 : Int32)).toNatClampNeg yT_domain) (((8 : Int32) * K_count) + (4 : Int32)).toNatClampNeg yT_turn) (((8 : Int32) * K_count) + (5 : Int32)).toNatClampNeg yT_contrast))) := hN_KA
    have hN_K := (hfr _ ne_K_KA).trans hN_K
    have hN_yT := (hfr _ ne_KA_yT.symm).trans hN_yT
    have hw := z_fr (List.mem_cons_of_mem _ List.mem_cons_self) hw hfr
    refine lv_aload_n hx hb d_K_add_95 rfl (lv_at hl 1 rfl) ?_
    refine gf_K_20 (v := .ref aKA) hx hb hts hown hK hP hN_K rfl d_K_add_96 ?_
    refine lv_iload hx hb d_K_add_99 (lv_at hl 0 rfl) ?_
    refine lv_bipush (v := 6) hx hb d_K_add_101 (by decide) ?_
    refine lv_iadd hx hb d_K_add_103 ?_
    refine lv_aload hx hb d_K_add_104 (lv_at hl 5 rfl) ?_
    refine gf_K_39 (v := .int yT_offset) hx hb hts hown hK hZ hP hN_yT rfl d_K_add_106 ?_
    obtain ⟨hin, hf⟩ := z_no hf
    refine z_iast hx hb hK hP hD hS hN_KA rfl hin d_K_add_109 (fun ws H locs hP hD hS hN_KA hfr => ?_)
    have hN_KA : zA ws kKA (aKA, .inl (cI, KA_n, .inl (upd (upd (upd (upd (upd (upd (upd KA_f (((8 : Int32) * K_count) + (0 : Int32)).toNatClampNeg x1) (((8 : Int32) * K_count) + (1 : Int32)).toNatClampNeg x2) (((8 : Int32) * K_count) + (2 : Int32)).toNatClampNeg x3) (((8 : Int32) * K_count) + (3 : Int32)).toNatClampNeg yT_domain) (((8 : Int32) * K_count) + (4 : Int32)).toNatClampNeg yT_turn) (((8 : Int32) * K_count) + (5 : Int32)).toNatClampNeg yT_contrast) (((8 : Int32) * K_count) + (6 : Int32)).toNatClampNeg yT_offset))) := hN_KA
    have hN_K := (hfr _ ne_K_KA).trans hN_K
    have hN_yT := (hfr _ ne_KA_yT.symm).trans hN_yT
    have hw := z_fr (List.mem_cons_of_mem _ List.mem_cons_self) hw hfr
    refine lv_aload_n hx hb d_K_add_110 rfl (lv_at hl 1 rfl) ?_
    refine gf_K_20 (v := .ref aKA) hx hb hts hown hK hP hN_K rfl d_K_add_111 ?_
    refine lv_iload hx hb d_K_add_114 (lv_at hl 0 rfl) ?_
    refine lv_bipush (v := 7) hx hb d_K_add_116 (by decide) ?_
    refine lv_iadd hx hb d_K_add_118 ?_
    refine lv_aload hx hb d_K_add_119 (lv_at hl 5 rfl) ?_
    refine gf_K_42 (v := .int yT_error) hx hb hts hown hK hZ hP hN_yT rfl d_K_add_121 ?_
    obtain ⟨hin, hf⟩ := z_no hf
    refine z_iast hx hb hK hP hD hS hN_KA rfl hin d_K_add_124 (fun ws H locs hP hD hS hN_KA hfr => ?_)
    have hN_KA : zA ws kKA (aKA, .inl (cI, KA_n, .inl (upd (upd (upd (upd (upd (upd (upd (upd KA_f (((8 : Int32) * K_count) + (0 : Int32)).toNatClampNeg x1) (((8 : Int32) * K_count) + (1 : Int32)).toNatClampNeg x2) (((8 : Int32) * K_count) + (2 : Int32)).toNatClampNeg x3) (((8 : Int32) * K_count) + (3 : Int32)).toNatClampNeg yT_domain) (((8 : Int32) * K_count) + (4 : Int32)).toNatClampNeg yT_turn) (((8 : Int32) * K_count) + (5 : Int32)).toNatClampNeg yT_contrast) (((8 : Int32) * K_count) + (6 : Int32)).toNatClampNeg yT_offset) (((8 : Int32) * K_count) + (7 : Int32)).toNatClampNeg yT_error))) := hN_KA
    have hN_K := (hfr _ ne_K_KA).trans hN_K
    have hN_yT := (hfr _ ne_KA_yT.symm).trans hN_yT
    have hw := z_fr (List.mem_cons_of_mem _ List.mem_cons_self) hw hfr
    refine lv_aload_n hx hb d_K_add_125 rfl (lv_at hl 1 rfl) ?_
    refine lv_dup hx hb d_K_add_126 rfl ?_
    refine gf_K_24 (v := .int K_count) hx hb hts hown hK hP hN_K rfl d_K_add_127 ?_
    refine lv_iconst (v := 1) hx hb d_K_add_130 (by decide) ?_
    refine lv_iadd hx hb d_K_add_131 ?_
    refine pf_K_24 (v := .int (K_count + (1 : Int32))) hx hb hts hown hK hP hD hS hN_K rfl rfl (Nat.le_of_ble_eq_true rfl) d_K_add_132 (fun ws H locs hP hD hS hN_K hfr => ?_)
    have hN_K : zA ws kK (aK, .inr (5, [.ref aKA, .int (K_count + (1 : Int32))])) := hN_K
    have hN_KA := (hfr _ ne_K_KA.symm).trans hN_KA
    have hN_yT := (hfr _ ne_K_yT.symm).trans hN_yT
    have hw := z_fr List.mem_cons_self hw hfr
    obtain rfl := Option.some.inj hf
    exact W.vret hx hb hr (fun t ht hW => ⟨⟨ws, rfl, ⟨hN_K, hN_KA, hw⟩, by rw [ht]; exact hP, va_K.moved hW.alike hK, hD⟩, hS.F ht⟩) hS.2.2 d_K_add_135
  · have hf := z_f hc hf
    obtain rfl := Option.some.inj hf
    exact W.vret hx hb hr (fun t ht hW => ⟨⟨ws0, rfl, ⟨hN_K, hN_KA, hw⟩, by rw [ht]; exact hP, va_K.moved hW.alike hK, hD⟩, hS.F ht⟩) hS.2.2 d_K_add_22
def f_F_domainBits_11 (p1 : Int32) (p2 : Int32) : Nat → Int32 → Option (Int32)
  | 0, _ => none
  | n + 1, v3 => if (8 : Int32) ≤ v3 then (some v3) else (if p2 ≤ ((1 : Int32) <<< (v3 &&& 31)) then (some v3) else (f_F_domainBits_11 p1 p2 n (v3 + 1)))
def f_F_domainBits (x1 : Int32) (O_side : Int32) : Option (Int32) := (f_F_domainsOf O_side x1).bind (fun q393 => (f_F_domainBits_11 x1 q393 FU (0 : Int32)).bind (fun q395 => some q395))
set_option maxHeartbeats 4000000 in
set_option maxRecDepth 100000 in
theorem c_F_domainBits (l : Launch) (dC : Nat → ClassId) (dI : Nat → Nat → Nat) (cI cL : ClassId) {ws : va_W} {aO aP aN aH aV aS aK aT aC aI : Nat} {O_side : Int32} (x1 : Int32) (hN_O : zA ws 0 (aO, .inr (0, [.int O_side, .ref aP, .ref aN, .ref aH, .ref aV, .ref aS, .ref aK, .ref aT, .ref aC, .ref aI]))) (r : Int32) (hf : f_F_domainBits x1 O_side = some r) : Met l y_F_domainBits w_F_domainBits rm_F_domainBits (va_Pc [.ref aO, .int x1] (zR dC dI cI cL ws)) (vp_Si (fun v => v = r)) 0 0 (fun _ => False) := by
  refine Met.ofW (cc := b_F_domainBits) (maxL := 4) (ret := some .int) (by decide) rfl ?_
  intro p e s m args below meth c s₁ B hml hv
  obtain ⟨rfl, hP, hK, hZ⟩ := hv
  have hx := B.exec
  have hb := B.bytes
  have hr := B.returns
  have hlocks := B.notSynchronized
  have hts : ∀ w ∈ BIG, w.before ([.ref aO, .int x1] : List Value).toArray s = true := fun w h => atoms_spec (ws := w_F_domainBits) B.pre w (List.mem_cons_of_mem _ h)
  have hown : s.vm.findClass "FractalMaps" = some m.cls := findClass_of_methodNamed B.named
  have hl := lv_entry ([.ref aO, .int x1]) (n := 4) (Nat.le_of_ble_eq_true rfl)
  rw [lg_entry_eq]
  generalize (lg_sl ([.ref aO, .int x1]) ++ List.replicate (4 - (lg_sl ([.ref aO, .int x1])).length) Slot.unset).toArray = ls at hl ⊢
  have hl : lv_has ls 4 [(0, .ref aO), (1, .int x1)] := hl
  unfold f_F_domainBits at hf
  refine lv_aload_n hx hb d_F_domainBits_0 rfl (lv_at hl 0 rfl) ?_
  refine gf_F_16 (v := .int O_side) hx hb hts hown hK hP hN_O rfl d_F_domainBits_1 ?_
  refine lv_iload_n hx hb d_F_domainBits_4 rfl (lv_at hl 1 rfl) ?_
  obtain ⟨q393, hc, hf⟩ := z_b hf
  refine vp_callSi (z_cr (va_runS (As := [.int O_side, .int x1]) (rest := []) ⟨hx, hb, hml, hown, hts⟩ (c_F_domainsOf l O_side x1 q393 hc) (cw_F_192 hts ⟨Nat.le_of_ble_eq_true rfl, Nat.le_of_ble_eq_true rfl⟩) ⟨zb0, zp0⟩ rfl rfl hl.1 rfl (lv_room (Nat.le_of_ble_eq_true rfl)) d_F_domainBits_5 ⟨Nat.zero_le _, Nat.zero_le _⟩)) (fun r394 hv => ?_)
  have hv := hv.symm
  subst hv
  refine lv_istore_n (lv' := [(2, .int q393), (0, .ref aO), (1, .int x1)]) hx hb d_F_domainBits_8 rfl hl (by decide) rfl (fun ls hl => ?_)
  refine lv_iconst (v := 0) hx hb d_F_domainBits_9 (by decide) ?_
  refine lv_istore_n (lv' := [(3, .int (0 : Int32)), (2, .int q393), (0, .ref aO), (1, .int x1)]) hx hb d_F_domainBits_10 rfl hl (by decide) rfl (fun ls hl => ?_)
  have lp397 : ∀ (Qx : State → Prop) (n : Nat) (v3_396 : Int32) (ls : Array Slot) (q : Int32) (hf : f_F_domainBits_11 x1 q393 n v3_396 = some q) (hl : lv_has ls 4 [(0, .ref aO), (1, .int x1), (2, .int q393), (3, .int v3_396)]) (kt0 : ∀ (ls : Array Slot), lv_has ls 4 [(0, .ref aO), (1, .int x1), (2, .int q393), (3, .int q)] → W p l e (headSpec w_F_domainBits rm_F_domainBits).room s m ([.ref aO, .int x1] : List Value).toArray below meth c s.heap [] 0 0 Qx (F0 m 30 ls [])), W p l e (headSpec w_F_domainBits rm_F_domainBits).room s m ([.ref aO, .int x1] : List Value).toArray below meth c s.heap [] 0 0 Qx (F0 m 11 ls []) := by
    intro Qx n
    induction n with
    | zero => intro v3_396 ls q hf; cases hf
    | succ n ih =>
      intro v3_396 ls q hf hl kt0
      rw [f_F_domainBits_11] at hf
      refine lv_iload_n hx hb d_F_domainBits_11 rfl (lv_at hl 3 rfl) ?_
      refine lv_bipush (v := 8) hx hb d_F_domainBits_12 (by decide) ?_
      refine lv_icmp_ge (tgt := 30) hx hb d_F_domainBits_14 (by decide) (fun hc => ?_) (fun hc => ?_)
      · have hf := z_t hc hf
        obtain rfl := Option.some.inj hf
        exact kt0 ls (lv_sub hl [0, 1, 2, 3] rfl)
      · have hf := z_f hc hf
        refine lv_iconst (v := 1) hx hb d_F_domainBits_17 (by decide) ?_
        refine lv_iload_n hx hb d_F_domainBits_18 rfl (lv_at hl 3 rfl) ?_
        refine lv_ishl hx hb d_F_domainBits_19 ?_
        refine lv_iload_n hx hb d_F_domainBits_20 rfl (lv_at hl 2 rfl) ?_
        refine lv_icmp_ge (tgt := 30) hx hb d_F_domainBits_21 (by decide) (fun hc => ?_) (fun hc => ?_)
        · have hf := z_t hc hf
          obtain rfl := Option.some.inj hf
          exact kt0 ls (lv_sub hl [0, 1, 2, 3] rfl)
        · have hf := z_f hc hf
          refine lv_iinc (v := (v3_396 + 1)) (lv' := [(3, .int (v3_396 + 1)), (0, .ref aO), (1, .int x1), (2, .int q393)]) hx hb d_F_domainBits_24 hl (k := 3) rfl rfl (by decide) rfl (fun ls hl => ?_)
          refine lv_goto (tgt := 11) hx hb d_F_domainBits_27 (by decide) ?_
          exact ih (v3_396 + 1) ls _ hf (lv_sub hl [1, 2, 3, 0] rfl) kt0
  obtain ⟨q395, hc, hf⟩ := z_b hf
  refine lp397 _ FU (0 : Int32) ls q395 hc (lv_sub hl [2, 3, 1, 0] rfl) (fun ls hl => ?_)
  refine lv_iload_n hx hb d_F_domainBits_30 rfl (lv_at hl 3 rfl) ?_
  obtain rfl := Option.some.inj hf
  exact W.iret hx hb hr (fun t ht hW => ⟨_, rfl, rfl, ht⟩) (fun q h => by cases h) d_F_domainBits_31
def f_F_writeFit (x1 : Int32) (O_side : Int32) (E_domain : Int32) (E_turn : Int32) (E_contrast : Int32) (E_offset : Int32) (C_filled : Int32) (CA_n : Nat) (CA_f : Nat → Int32) : Option (Int32 × (Nat → Int32)) := (f_F_domainBits x1 O_side).bind (fun q398 => (f_B_append E_domain q398 C_filled CA_n CA_f).bind (fun q400 => (f_B_append E_turn (3 : Int32) q400.1 CA_n q400.2).bind (fun q401 => (f_B_append (E_contrast + (7 : Int32)) (4 : Int32) q401.1 CA_n q401.2).bind (fun q402 => (f_B_append (E_offset + (256 : Int32)) (10 : Int32) q402.1 CA_n q402.2).bind (fun q403 => some (q403.1, q403.2))))))
set_option maxHeartbeats 4000000 in
set_option maxRecDepth 100000 in
theorem c_F_writeFit (l : Launch) (dC : Nat → ClassId) (dI : Nat → Nat → Nat) (cI cL : ClassId) {ws0 : va_W} (sz : Nat) {aO aP aN aH aV aS aK aT aC aI aE aCA : Nat} {O_side E_domain E_turn E_contrast E_offset E_error C_filled C_taken : Int32} {CA_n : Nat} {CA_f : Nat → Int32} (x1 : Int32) (hN_O : zA ws0 0 (aO, .inr (0, [.int O_side, .ref aP, .ref aN, .ref aH, .ref aV, .ref aS, .ref aK, .ref aT, .ref aC, .ref aI]))) (hN_E : zA ws0 13 (aE, .inr (4, [.int E_domain, .int E_turn, .int E_contrast, .int E_offset, .int E_error]))) (hN_C : zA ws0 17 (aC, .inr (6, [.ref aCA, .int C_filled, .int C_taken]))) (hN_CA : zA ws0 18 (aCA, .inl (cI, CA_n, .inl CA_f))) (r : Int32 × (Nat → Int32)) (hf : f_F_writeFit x1 O_side E_domain E_turn E_contrast E_offset C_filled CA_n CA_f = some r) : Met l y_F_writeFit w_F_writeFit rm_F_writeFit (va_Pc [.ref aO, .int x1, .ref aE] (zM dC dI cI cL ws0 sz)) (va_Qv (fun ws' : va_W => zA ws' 17 (aC, .inr (6, [.ref aCA, .int r.1, .int C_taken])) ∧ zA ws' 18 (aCA, .inl (cI, CA_n, .inl r.2)) ∧ ∀ (j : Nat), j ∉ ([17, 18] : List Nat) → ws'[j]? = ws0[j]?) (zQ dC dI cI cL (va_A ws0 sz)) (va_A ws0 sz)) 0 0 (va_A ws0 sz) := by
  refine Met.ofW (cc := b_F_writeFit) (maxL := 3) (ret := none) (by decide) rfl ?_
  intro p e s m args below meth c s₁ B hml hv
  obtain ⟨rfl, hsz, hP, hK, hZ, hD0⟩ := hv
  have hx := B.exec
  have hb := B.bytes
  have hr := B.returns
  have hlocks := B.notSynchronized
  have hts : ∀ w ∈ BIG, w.before ([.ref aO, .int x1, .ref aE] : List Value).toArray s = true := fun w h => atoms_spec (ws := w_F_writeFit) B.pre w (List.mem_cons_of_mem _ h)
  have hown : s.vm.findClass "FractalMaps" = some m.cls := findClass_of_methodNamed B.named
  subst hsz
  have hD := hD0.self (sz := s.heap.size)
  generalize hAe : va_A ws0 s.heap.size = A at hD ⊢
  have hA : ∀ q : Nat, s.heap.size ≤ q → A q := fun q h => by rw [← hAe]; exact Or.inr h
  have hS : va_S A s.heap s.heap [] := va_S.rf
  have hw : ∀ (j : Nat), j ∉ ([17, 18] : List Nat) → ws0[j]? = ws0[j]? := fun _ _ => rfl
  have hl := lv_entry ([.ref aO, .int x1, .ref aE]) (n := 3) (Nat.le_of_ble_eq_true rfl)
  rw [lg_entry_eq]
  generalize (lg_sl ([.ref aO, .int x1, .ref aE]) ++ List.replicate (3 - (lg_sl ([.ref aO, .int x1, .ref aE])).length) Slot.unset).toArray = ls at hl ⊢
  have hl : lv_has ls 3 [(0, .ref aO), (1, .int x1), (2, .ref aE)] := hl
  unfold f_F_writeFit at hf
  refine lv_aload_n hx hb d_F_writeFit_0 rfl (lv_at hl 0 rfl) ?_
  refine gf_F_74 (v := .ref aC) hx hb hts hown hK hP hN_O rfl d_F_writeFit_1 ?_
  refine lv_aload_n hx hb d_F_writeFit_4 rfl (lv_at hl 2 rfl) ?_
  refine gf_F_241 (v := .int E_domain) hx hb hts hown hK hZ hP hN_E rfl d_F_writeFit_5 ?_
  refine lv_aload_n hx hb d_F_writeFit_8 rfl (lv_at hl 0 rfl) ?_
  refine lv_iload_n hx hb d_F_writeFit_9 rfl (lv_at hl 1 rfl) ?_
  obtain ⟨q398, hc, hf⟩ := z_b hf
  refine vp_callSi (z_cr (va_runV (As := [.int x1]) (rest := [.int E_domain, .ref aC]) ⟨hx, hb, hml, hown, hts⟩ (c_F_domainBits l dC dI cI cL x1 hN_O q398 hc) (cw_F_244 hts ⟨Nat.le_of_ble_eq_true rfl, Nat.le_of_ble_eq_true rfl⟩) ⟨zbR, va_recv hK hP (ci := 0) rfl hN_O, (zpR hP hK hZ)⟩ rfl rfl hl.1 rfl (lv_room (Nat.le_of_ble_eq_true rfl)) d_F_writeFit_10 ⟨Nat.zero_le _, Nat.zero_le _⟩)) (fun r399 hv => ?_)
  have hv := hv.symm
  subst hv
  obtain ⟨q400, hc, hf⟩ := z_b hf
  have hFc := z_free hD hS hA
  refine va_callv (va_runV (As := [.int E_domain, .int q398]) (rest := []) ⟨hx, hb, hml, hown, hts⟩ (c_B_append l dC dI cI cL _ E_domain q398 hN_C hN_CA (by decide) q400 hc) (cw_F_129 hts ⟨Nat.le_of_ble_eq_true rfl, Nat.le_of_ble_eq_true rfl⟩) ⟨zbM, va_recv hK hP (ci := 6) rfl hN_C, (zpM hP hK hZ hD)⟩ rfl rfl hl.1 rfl (lv_room (Nat.le_of_ble_eq_true rfl)) d_F_writeFit_13 ⟨Nat.zero_le _, Nat.zero_le _⟩) hS (fun q _ h => hFc q h) hFc (fun ws t H locs ht hvm hu hB hz1 hk1 hS => ?_)
  obtain ⟨hN_C, hN_CA, hfr⟩ := hu
  obtain ⟨hP, -, hD1⟩ := hB
  rw [ht] at hP
  have hD := hD1.weaken (fun _ _ _ h => hFc _ h)
  have hN_C : zA ws 17 (aC, .inr (6, [.ref aCA, .int q400.1, .int C_taken])) := hN_C
  have hN_CA : zA ws 18 (aCA, .inl (cI, CA_n, .inl q400.2)) := hN_CA
  have hN_O := (hfr _ (by decide)).trans hN_O
  have hN_E := (hfr _ (by decide)).trans hN_E
  have hw := z_frC (by decide) hw hfr
  refine lv_aload_n hx hb d_F_writeFit_16 rfl (lv_at hl 0 rfl) ?_
  refine gf_F_74 (v := .ref aC) hx hb hts hown hK hP hN_O rfl d_F_writeFit_17 ?_
  refine lv_aload_n hx hb d_F_writeFit_20 rfl (lv_at hl 2 rfl) ?_
  refine gf_F_247 (v := .int E_turn) hx hb hts hown hK hZ hP hN_E rfl d_F_writeFit_21 ?_
  refine lv_iconst (v := 3) hx hb d_F_writeFit_24 (by decide) ?_
  obtain ⟨q401, hc, hf⟩ := z_b hf
  have hFc := z_free hD hS hA
  refine va_callv (va_runV (As := [.int E_turn, .int (3 : Int32)]) (rest := []) ⟨hx, hb, hml, hown, hts⟩ (c_B_append l dC dI cI cL _ E_turn (3 : Int32) hN_C hN_CA (by decide) q401 hc) (cw_F_129 hts ⟨Nat.le_of_ble_eq_true rfl, Nat.le_of_ble_eq_true rfl⟩) ⟨zbM, va_recv hK hP (ci := 6) rfl hN_C, (zpM hP hK hZ hD)⟩ rfl rfl hl.1 rfl (lv_room (Nat.le_of_ble_eq_true rfl)) d_F_writeFit_25 ⟨Nat.zero_le _, Nat.zero_le _⟩) hS (fun q _ h => hFc q h) hFc (fun ws t H locs ht hvm hu hB hz1 hk1 hS => ?_)
  obtain ⟨hN_C, hN_CA, hfr⟩ := hu
  obtain ⟨hP, -, hD1⟩ := hB
  rw [ht] at hP
  have hD := hD1.weaken (fun _ _ _ h => hFc _ h)
  have hN_C : zA ws 17 (aC, .inr (6, [.ref aCA, .int q401.1, .int C_taken])) := hN_C
  have hN_CA : zA ws 18 (aCA, .inl (cI, CA_n, .inl q401.2)) := hN_CA
  have hN_O := (hfr _ (by decide)).trans hN_O
  have hN_E := (hfr _ (by decide)).trans hN_E
  have hw := z_frC (by decide) hw hfr
  refine lv_aload_n hx hb d_F_writeFit_28 rfl (lv_at hl 0 rfl) ?_
  refine gf_F_74 (v := .ref aC) hx hb hts hown hK hP hN_O rfl d_F_writeFit_29 ?_
  refine lv_aload_n hx hb d_F_writeFit_32 rfl (lv_at hl 2 rfl) ?_
  refine gf_F_250 (v := .int E_contrast) hx hb hts hown hK hZ hP hN_E rfl d_F_writeFit_33 ?_
  refine lv_bipush (v := 7) hx hb d_F_writeFit_36 (by decide) ?_
  refine lv_iadd hx hb d_F_writeFit_38 ?_
  refine lv_iconst (v := 4) hx hb d_F_writeFit_39 (by decide) ?_
  obtain ⟨q402, hc, hf⟩ := z_b hf
  have hFc := z_free hD hS hA
  refine va_callv (va_runV (As := [.int (E_contrast + (7 : Int32)), .int (4 : Int32)]) (rest := []) ⟨hx, hb, hml, hown, hts⟩ (c_B_append l dC dI cI cL _ (E_contrast + (7 : Int32)) (4 : Int32) hN_C hN_CA (by decide) q402 hc) (cw_F_129 hts ⟨Nat.le_of_ble_eq_true rfl, Nat.le_of_ble_eq_true rfl⟩) ⟨zbM, va_recv hK hP (ci := 6) rfl hN_C, (zpM hP hK hZ hD)⟩ rfl rfl hl.1 rfl (lv_room (Nat.le_of_ble_eq_true rfl)) d_F_writeFit_40 ⟨Nat.zero_le _, Nat.zero_le _⟩) hS (fun q _ h => hFc q h) hFc (fun ws t H locs ht hvm hu hB hz1 hk1 hS => ?_)
  obtain ⟨hN_C, hN_CA, hfr⟩ := hu
  obtain ⟨hP, -, hD1⟩ := hB
  rw [ht] at hP
  have hD := hD1.weaken (fun _ _ _ h => hFc _ h)
  have hN_C : zA ws 17 (aC, .inr (6, [.ref aCA, .int q402.1, .int C_taken])) := hN_C
  have hN_CA : zA ws 18 (aCA, .inl (cI, CA_n, .inl q402.2)) := hN_CA
  have hN_O := (hfr _ (by decide)).trans hN_O
  have hN_E := (hfr _ (by decide)).trans hN_E
  have hw := z_frC (by decide) hw hfr
  refine lv_aload_n hx hb d_F_writeFit_43 rfl (lv_at hl 0 rfl) ?_
  refine gf_F_74 (v := .ref aC) hx hb hts hown hK hP hN_O rfl d_F_writeFit_44 ?_
  refine lv_aload_n hx hb d_F_writeFit_47 rfl (lv_at hl 2 rfl) ?_
  refine gf_F_253 (v := .int E_offset) hx hb hts hown hK hZ hP hN_E rfl d_F_writeFit_48 ?_
  refine lv_sipush (v := 256) hx hb d_F_writeFit_51 (by decide) ?_
  refine lv_iadd hx hb d_F_writeFit_54 ?_
  refine lv_bipush (v := 10) hx hb d_F_writeFit_55 (by decide) ?_
  obtain ⟨q403, hc, hf⟩ := z_b hf
  have hFc := z_free hD hS hA
  refine va_callv (va_runV (As := [.int (E_offset + (256 : Int32)), .int (10 : Int32)]) (rest := []) ⟨hx, hb, hml, hown, hts⟩ (c_B_append l dC dI cI cL _ (E_offset + (256 : Int32)) (10 : Int32) hN_C hN_CA (by decide) q403 hc) (cw_F_129 hts ⟨Nat.le_of_ble_eq_true rfl, Nat.le_of_ble_eq_true rfl⟩) ⟨zbM, va_recv hK hP (ci := 6) rfl hN_C, (zpM hP hK hZ hD)⟩ rfl rfl hl.1 rfl (lv_room (Nat.le_of_ble_eq_true rfl)) d_F_writeFit_57 ⟨Nat.zero_le _, Nat.zero_le _⟩) hS (fun q _ h => hFc q h) hFc (fun ws t H locs ht hvm hu hB hz1 hk1 hS => ?_)
  obtain ⟨hN_C, hN_CA, hfr⟩ := hu
  obtain ⟨hP, -, hD1⟩ := hB
  rw [ht] at hP
  have hD := hD1.weaken (fun _ _ _ h => hFc _ h)
  have hN_C : zA ws 17 (aC, .inr (6, [.ref aCA, .int q403.1, .int C_taken])) := hN_C
  have hN_CA : zA ws 18 (aCA, .inl (cI, CA_n, .inl q403.2)) := hN_CA
  have hN_O := (hfr _ (by decide)).trans hN_O
  have hN_E := (hfr _ (by decide)).trans hN_E
  have hw := z_frC (by decide) hw hfr
  obtain rfl := Option.some.inj hf
  exact W.vret hx hb hr (fun t ht hW => ⟨⟨ws, rfl, ⟨hN_C, hN_CA, hw⟩, by rw [ht]; exact hP, va_K.moved hW.alike hK, hD⟩, hS.F ht⟩) hS.2.2 d_F_writeFit_60
