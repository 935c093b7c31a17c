def f_M_mapped (x1 : Int32) (x2 : Int32) : Option (Int32) := if 0 ≤ (x1 * x2) then (some ((x1 * x2) / (8 : Int32))) else (some (-(((7 : Int32) - (x1 * x2)) / (8 : Int32))))
set_option maxHeartbeats 4000000 in
set_option maxRecDepth 100000 in
theorem c_M_mapped (l : Launch) (x1 : Int32) (x2 : Int32) (r : Int32) (hf : f_M_mapped x1 x2 = some r) : Met l y_M_mapped w_M_mapped rm_M_mapped (va_Pc [.int x1, .int x2] (fun _ => True)) (vp_Si (fun v => v = r)) 0 0 (fun _ => False) := by
  refine Met.ofW (cc := b_M_mapped) (maxL := 3) (ret := some .int) (by decide) rfl ?_
  intro p e s m args below meth c s₁ B hml hv
  obtain ⟨rfl, -⟩ := hv
  have hx := B.exec
  have hb := B.bytes
  have hr := B.returns
  have hlocks := B.notSynchronized
  have hts : ∀ w ∈ BIG, w.before ([.int x1, .int x2] : List Value).toArray s = true := fun w h => atoms_spec (ws := w_M_mapped) B.pre w (List.mem_cons_of_mem _ h)
  have hown : s.vm.findClass "FractalMapsModel" = some m.cls := findClass_of_methodNamed B.named
  have hl := lv_entry ([.int x1, .int x2]) (n := 3) (Nat.le_of_ble_eq_true rfl)
  rw [lg_entry_eq]
  generalize (lg_sl ([.int x1, .int x2]) ++ List.replicate (3 - (lg_sl ([.int x1, .int x2])).length) Slot.unset).toArray = ls at hl ⊢
  have hl : lv_has ls 3 [(0, .int x1), (1, .int x2)] := hl
  unfold f_M_mapped at hf
  refine lv_iload_n hx hb d_M_mapped_0 rfl (lv_at hl 0 rfl) ?_
  refine lv_iload_n hx hb d_M_mapped_1 rfl (lv_at hl 1 rfl) ?_
  refine lv_imul hx hb d_M_mapped_2 ?_
  refine lv_istore_n (lv' := [(2, .int (x1 * x2)), (0, .int x1), (1, .int x2)]) hx hb d_M_mapped_3 rfl hl (by decide) rfl (fun ls hl => ?_)
  refine lv_iload_n hx hb d_M_mapped_4 rfl (lv_at hl 0 rfl) ?_
  refine lv_if_ge (tgt := 19) hx hb d_M_mapped_5 (by decide) (fun hc => ?_) (fun hc => ?_)
  · have hf := z_t hc hf
    refine lv_iload_n hx hb d_M_mapped_19 rfl (lv_at hl 0 rfl) ?_
    refine lv_bipush (v := 8) hx hb d_M_mapped_20 (by decide) ?_
    refine lv_idiv hx hb d_M_mapped_22 (by decide) ?_
    obtain rfl := Option.some.inj hf
    exact W.iret hx hb hr (fun t ht hW => ⟨_, rfl, rfl, ht⟩) (fun q h => by cases h) d_M_mapped_23
  · have hf := z_f hc hf
    refine lv_bipush (v := 7) hx hb d_M_mapped_8 (by decide) ?_
    refine lv_iload_n hx hb d_M_mapped_10 rfl (lv_at hl 0 rfl) ?_
    refine lv_isub hx hb d_M_mapped_11 ?_
    refine lv_bipush (v := 8) hx hb d_M_mapped_12 (by decide) ?_
    refine lv_idiv hx hb d_M_mapped_14 (by decide) ?_
    refine lv_ineg hx hb d_M_mapped_15 ?_
    refine lv_goto (tgt := 23) hx hb d_M_mapped_16 (by decide) ?_
    obtain rfl := Option.some.inj hf
    exact W.iret hx hb hr (fun t ht hW => ⟨_, rfl, rfl, ht⟩) (fun q h => by cases h) d_M_mapped_23
