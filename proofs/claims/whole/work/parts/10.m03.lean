def f_V_sourceAcross (x1 : Int32) (x2 : Int32) (x3 : Int32) (x4 : Int32) : Option (Int32) := if (x2 &&& (3 : Int32)) = 0 then (if (2 : Int32) ≤ (x2 &&& (3 : Int32)) then (if (4 : Int32) ≤ x2 then (some ((x1 - (1 : Int32)) - ((x1 - (1 : Int32)) - x3))) else (some ((x1 - (1 : Int32)) - x3))) else (if (4 : Int32) ≤ x2 then (some ((x1 - (1 : Int32)) - x3)) else (some x3))) else (if (x2 &&& (3 : Int32)) = (2 : Int32) then (if (2 : Int32) ≤ (x2 &&& (3 : Int32)) then (if (4 : Int32) ≤ x2 then (some ((x1 - (1 : Int32)) - ((x1 - (1 : Int32)) - x3))) else (some ((x1 - (1 : Int32)) - x3))) else (if (4 : Int32) ≤ x2 then (some ((x1 - (1 : Int32)) - x3)) else (some x3))) else (if (2 : Int32) ≤ (x2 &&& (3 : Int32)) then (if (4 : Int32) ≤ x2 then (some ((x1 - (1 : Int32)) - ((x1 - (1 : Int32)) - x4))) else (some ((x1 - (1 : Int32)) - x4))) else (if (4 : Int32) ≤ x2 then (some ((x1 - (1 : Int32)) - x4)) else (some x4))))
set_option maxHeartbeats 4000000 in
set_option maxRecDepth 100000 in
theorem c_V_sourceAcross (l : Launch) (x1 : Int32) (x2 : Int32) (x3 : Int32) (x4 : Int32) (r : Int32) (hf : f_V_sourceAcross x1 x2 x3 x4 = some r) : Met l y_V_sourceAcross w_V_sourceAcross rm_V_sourceAcross (va_Pc [.int x1, .int x2, .int x3, .int x4] (fun _ => True)) (vp_Si (fun v => v = r)) 0 0 (fun _ => False) := by
  refine Met.ofW (cc := b_V_sourceAcross) (maxL := 8) (ret := some .int) (by decide) rfl ?_
  intro p e s m args below meth c s₁ B hml hv
  obtain ⟨rfl, -⟩ := hv
  have hx := B.exec
  have hb := B.bytes
  have hr := B.returns
  have hlocks := B.notSynchronized
  have hts : ∀ w ∈ BIG, w.before ([.int x1, .int x2, .int x3, .int x4] : List Value).toArray s = true := fun w h => atoms_spec (ws := w_V_sourceAcross) B.pre w (List.mem_cons_of_mem _ h)
  have hown : s.vm.findClass "FractalMaps$View" = some m.cls := findClass_of_methodNamed B.named
  have hl := lv_entry ([.int x1, .int x2, .int x3, .int x4]) (n := 8) (Nat.le_of_ble_eq_true rfl)
  rw [lg_entry_eq]
  generalize (lg_sl ([.int x1, .int x2, .int x3, .int x4]) ++ List.replicate (8 - (lg_sl ([.int x1, .int x2, .int x3, .int x4])).length) Slot.unset).toArray = ls at hl ⊢
  have hl : lv_has ls 8 [(0, .int x1), (1, .int x2), (2, .int x3), (3, .int x4)] := hl
  unfold f_V_sourceAcross at hf
  refine lv_iload_n hx hb d_V_sourceAcross_0 rfl (lv_at hl 0 rfl) ?_
  refine lv_iconst (v := 1) hx hb d_V_sourceAcross_1 (by decide) ?_
  refine lv_isub hx hb d_V_sourceAcross_2 ?_
  refine lv_istore (lv' := [(4, .int (x1 - (1 : Int32))), (0, .int x1), (1, .int x2), (2, .int x3), (3, .int x4)]) hx hb d_V_sourceAcross_3 hl (by decide) rfl (fun ls hl => ?_)
  refine lv_iload_n hx hb d_V_sourceAcross_5 rfl (lv_at hl 2 rfl) ?_
  refine lv_iconst (v := 3) hx hb d_V_sourceAcross_6 (by decide) ?_
  refine lv_iand hx hb d_V_sourceAcross_7 ?_
  refine lv_istore (lv' := [(5, .int (x2 &&& (3 : Int32))), (4, .int (x1 - (1 : Int32))), (0, .int x1), (1, .int x2), (2, .int x3), (3, .int x4)]) hx hb d_V_sourceAcross_8 hl (by decide) rfl (fun ls hl => ?_)
  refine lv_iload hx hb d_V_sourceAcross_10 (lv_at hl 0 rfl) ?_
  refine lv_if_eq (tgt := 21) hx hb d_V_sourceAcross_12 (by decide) (fun hc => ?_) (fun hc => ?_)
  · have hf := z_t hc hf
    refine lv_iload_n hx hb d_V_sourceAcross_21 rfl (lv_at hl 4 rfl) ?_
    refine lv_goto (tgt := 26) hx hb d_V_sourceAcross_22 (by decide) ?_
    refine lv_istore (lv' := [(6, .int x3), (5, .int (x2 &&& (3 : Int32))), (4, .int (x1 - (1 : Int32))), (0, .int x1), (1, .int x2), (2, .int x3), (3, .int x4)]) hx hb d_V_sourceAcross_26 hl (by decide) rfl (fun ls hl => ?_)
    refine lv_iload hx hb d_V_sourceAcross_28 (lv_at hl 1 rfl) ?_
    refine lv_iconst (v := 2) hx hb d_V_sourceAcross_30 (by decide) ?_
    refine lv_icmp_ge (tgt := 39) hx hb d_V_sourceAcross_31 (by decide) (fun hc => ?_) (fun hc => ?_)
    · have hf := z_t hc hf
      refine lv_iload hx hb d_V_sourceAcross_39 (lv_at hl 2 rfl) ?_
      refine lv_iload hx hb d_V_sourceAcross_41 (lv_at hl 0 rfl) ?_
      refine lv_isub hx hb d_V_sourceAcross_43 ?_
      refine lv_istore (lv' := [(7, .int ((x1 - (1 : Int32)) - x3)), (6, .int x3), (5, .int (x2 &&& (3 : Int32))), (4, .int (x1 - (1 : Int32))), (0, .int x1), (1, .int x2), (2, .int x3), (3, .int x4)]) hx hb d_V_sourceAcross_44 hl (by decide) rfl (fun ls hl => ?_)
      refine lv_iload_n hx hb d_V_sourceAcross_46 rfl (lv_at hl 5 rfl) ?_
      refine lv_iconst (v := 4) hx hb d_V_sourceAcross_47 (by decide) ?_
      refine lv_icmp_ge (tgt := 56) hx hb d_V_sourceAcross_48 (by decide) (fun hc => ?_) (fun hc => ?_)
      · have hf := z_t hc hf
        refine lv_iload hx hb d_V_sourceAcross_56 (lv_at hl 3 rfl) ?_
        refine lv_iload hx hb d_V_sourceAcross_58 (lv_at hl 0 rfl) ?_
        refine lv_isub hx hb d_V_sourceAcross_60 ?_
        obtain rfl := Option.some.inj hf
        exact W.iret hx hb hr (fun t ht hW => ⟨_, rfl, rfl, ht⟩) (fun q h => by cases h) d_V_sourceAcross_61
      · have hf := z_f hc hf
        refine lv_iload hx hb d_V_sourceAcross_51 (lv_at hl 0 rfl) ?_
        refine lv_goto (tgt := 61) hx hb d_V_sourceAcross_53 (by decide) ?_
        obtain rfl := Option.some.inj hf
        exact W.iret hx hb hr (fun t ht hW => ⟨_, rfl, rfl, ht⟩) (fun q h => by cases h) d_V_sourceAcross_61
    · have hf := z_f hc hf
      refine lv_iload hx hb d_V_sourceAcross_34 (lv_at hl 0 rfl) ?_
      refine lv_goto (tgt := 44) hx hb d_V_sourceAcross_36 (by decide) ?_
      refine lv_istore (lv' := [(7, .int x3), (6, .int x3), (5, .int (x2 &&& (3 : Int32))), (4, .int (x1 - (1 : Int32))), (0, .int x1), (1, .int x2), (2, .int x3), (3, .int x4)]) hx hb d_V_sourceAcross_44 hl (by decide) rfl (fun ls hl => ?_)
      refine lv_iload_n hx hb d_V_sourceAcross_46 rfl (lv_at hl 5 rfl) ?_
      refine lv_iconst (v := 4) hx hb d_V_sourceAcross_47 (by decide) ?_
      refine lv_icmp_ge (tgt := 56) hx hb d_V_sourceAcross_48 (by decide) (fun hc => ?_) (fun hc => ?_)
      · have hf := z_t hc hf
        refine lv_iload hx hb d_V_sourceAcross_56 (lv_at hl 3 rfl) ?_
        refine lv_iload hx hb d_V_sourceAcross_58 (lv_at hl 0 rfl) ?_
        refine lv_isub hx hb d_V_sourceAcross_60 ?_
        obtain rfl := Option.some.inj hf
        exact W.iret hx hb hr (fun t ht hW => ⟨_, rfl, rfl, ht⟩) (fun q h => by cases h) d_V_sourceAcross_61
      · have hf := z_f hc hf
        refine lv_iload hx hb d_V_sourceAcross_51 (lv_at hl 0 rfl) ?_
        refine lv_goto (tgt := 61) hx hb d_V_sourceAcross_53 (by decide) ?_
        obtain rfl := Option.some.inj hf
        exact W.iret hx hb hr (fun t ht hW => ⟨_, rfl, rfl, ht⟩) (fun q h => by cases h) d_V_sourceAcross_61
  · have hf := z_f hc hf
    refine lv_iload hx hb d_V_sourceAcross_15 (lv_at hl 0 rfl) ?_
    refine lv_iconst (v := 2) hx hb d_V_sourceAcross_17 (by decide) ?_
    refine lv_icmp_ne (tgt := 25) hx hb d_V_sourceAcross_18 (by decide) (fun hc => ?_) (fun hc => ?_)
    · have hf := z_f hc hf
      refine lv_iload_n hx hb d_V_sourceAcross_25 rfl (lv_at hl 5 rfl) ?_
      refine lv_istore (lv' := [(6, .int x4), (5, .int (x2 &&& (3 : Int32))), (4, .int (x1 - (1 : Int32))), (0, .int x1), (1, .int x2), (2, .int x3), (3, .int x4)]) hx hb d_V_sourceAcross_26 hl (by decide) rfl (fun ls hl => ?_)
      refine lv_iload hx hb d_V_sourceAcross_28 (lv_at hl 1 rfl) ?_
      refine lv_iconst (v := 2) hx hb d_V_sourceAcross_30 (by decide) ?_
      refine lv_icmp_ge (tgt := 39) hx hb d_V_sourceAcross_31 (by decide) (fun hc => ?_) (fun hc => ?_)
      · have hf := z_t hc hf
        refine lv_iload hx hb d_V_sourceAcross_39 (lv_at hl 2 rfl) ?_
        refine lv_iload hx hb d_V_sourceAcross_41 (lv_at hl 0 rfl) ?_
        refine lv_isub hx hb d_V_sourceAcross_43 ?_
        refine lv_istore (lv' := [(7, .int ((x1 - (1 : Int32)) - x4)), (6, .int x4), (5, .int (x2 &&& (3 : Int32))), (4, .int (x1 - (1 : Int32))), (0, .int x1), (1, .int x2), (2, .int x3), (3, .int x4)]) hx hb d_V_sourceAcross_44 hl (by decide) rfl (fun ls hl => ?_)
        refine lv_iload_n hx hb d_V_sourceAcross_46 rfl (lv_at hl 5 rfl) ?_
        refine lv_iconst (v := 4) hx hb d_V_sourceAcross_47 (by decide) ?_
        refine lv_icmp_ge (tgt := 56) hx hb d_V_sourceAcross_48 (by decide) (fun hc => ?_) (fun hc => ?_)
        · have hf := z_t hc hf
          refine lv_iload hx hb d_V_sourceAcross_56 (lv_at hl 3 rfl) ?_
          refine lv_iload hx hb d_V_sourceAcross_58 (lv_at hl 0 rfl) ?_
          refine lv_isub hx hb d_V_sourceAcross_60 ?_
          obtain rfl := Option.some.inj hf
          exact W.iret hx hb hr (fun t ht hW => ⟨_, rfl, rfl, ht⟩) (fun q h => by cases h) d_V_sourceAcross_61
        · have hf := z_f hc hf
          refine lv_iload hx hb d_V_sourceAcross_51 (lv_at hl 0 rfl) ?_
          refine lv_goto (tgt := 61) hx hb d_V_sourceAcross_53 (by decide) ?_
          obtain rfl := Option.some.inj hf
          exact W.iret hx hb hr (fun t ht hW => ⟨_, rfl, rfl, ht⟩) (fun q h => by cases h) d_V_sourceAcross_61
      · have hf := z_f hc hf
        refine lv_iload hx hb d_V_sourceAcross_34 (lv_at hl 0 rfl) ?_
        refine lv_goto (tgt := 44) hx hb d_V_sourceAcross_36 (by decide) ?_
        refine lv_istore (lv' := [(7, .int x4), (6, .int x4), (5, .int (x2 &&& (3 : Int32))), (4, .int (x1 - (1 : Int32))), (0, .int x1), (1, .int x2), (2, .int x3), (3, .int x4)]) hx hb d_V_sourceAcross_44 hl (by decide) rfl (fun ls hl => ?_)
        refine lv_iload_n hx hb d_V_sourceAcross_46 rfl (lv_at hl 5 rfl) ?_
        refine lv_iconst (v := 4) hx hb d_V_sourceAcross_47 (by decide) ?_
        refine lv_icmp_ge (tgt := 56) hx hb d_V_sourceAcross_48 (by decide) (fun hc => ?_) (fun hc => ?_)
        · have hf := z_t hc hf
          refine lv_iload hx hb d_V_sourceAcross_56 (lv_at hl 3 rfl) ?_
          refine lv_iload hx hb d_V_sourceAcross_58 (lv_at hl 0 rfl) ?_
          refine lv_isub hx hb d_V_sourceAcross_60 ?_
          obtain rfl := Option.some.inj hf
          exact W.iret hx hb hr (fun t ht hW => ⟨_, rfl, rfl, ht⟩) (fun q h => by cases h) d_V_sourceAcross_61
        · have hf := z_f hc hf
          refine lv_iload hx hb d_V_sourceAcross_51 (lv_at hl 0 rfl) ?_
          refine lv_goto (tgt := 61) hx hb d_V_sourceAcross_53 (by decide) ?_
          obtain rfl := Option.some.inj hf
          exact W.iret hx hb hr (fun t ht hW => ⟨_, rfl, rfl, ht⟩) (fun q h => by cases h) d_V_sourceAcross_61
    · have hf := z_t hc hf
      refine lv_iload_n hx hb d_V_sourceAcross_21 rfl (lv_at hl 4 rfl) ?_
      refine lv_goto (tgt := 26) hx hb d_V_sourceAcross_22 (by decide) ?_
      refine lv_istore (lv' := [(6, .int x3), (5, .int (x2 &&& (3 : Int32))), (4, .int (x1 - (1 : Int32))), (0, .int x1), (1, .int x2), (2, .int x3), (3, .int x4)]) hx hb d_V_sourceAcross_26 hl (by decide) rfl (fun ls hl => ?_)
      refine lv_iload hx hb d_V_sourceAcross_28 (lv_at hl 1 rfl) ?_
      refine lv_iconst (v := 2) hx hb d_V_sourceAcross_30 (by decide) ?_
      refine lv_icmp_ge (tgt := 39) hx hb d_V_sourceAcross_31 (by decide) (fun hc => ?_) (fun hc => ?_)
      · have hf := z_t hc hf
        refine lv_iload hx hb d_V_sourceAcross_39 (lv_at hl 2 rfl) ?_
        refine lv_iload hx hb d_V_sourceAcross_41 (lv_at hl 0 rfl) ?_
        refine lv_isub hx hb d_V_sourceAcross_43 ?_
        refine lv_istore (lv' := [(7, .int ((x1 - (1 : Int32)) - x3)), (6, .int x3), (5, .int (x2 &&& (3 : Int32))), (4, .int (x1 - (1 : Int32))), (0, .int x1), (1, .int x2), (2, .int x3), (3, .int x4)]) hx hb d_V_sourceAcross_44 hl (by decide) rfl (fun ls hl => ?_)
        refine lv_iload_n hx hb d_V_sourceAcross_46 rfl (lv_at hl 5 rfl) ?_
        refine lv_iconst (v := 4) hx hb d_V_sourceAcross_47 (by decide) ?_
        refine lv_icmp_ge (tgt := 56) hx hb d_V_sourceAcross_48 (by decide) (fun hc => ?_) (fun hc => ?_)
        · have hf := z_t hc hf
          refine lv_iload hx hb d_V_sourceAcross_56 (lv_at hl 3 rfl) ?_
          refine lv_iload hx hb d_V_sourceAcross_58 (lv_at hl 0 rfl) ?_
          refine lv_isub hx hb d_V_sourceAcross_60 ?_
          obtain rfl := Option.some.inj hf
          exact W.iret hx hb hr (fun t ht hW => ⟨_, rfl, rfl, ht⟩) (fun q h => by cases h) d_V_sourceAcross_61
        · have hf := z_f hc hf
          refine lv_iload hx hb d_V_sourceAcross_51 (lv_at hl 0 rfl) ?_
          refine lv_goto (tgt := 61) hx hb d_V_sourceAcross_53 (by decide) ?_
          obtain rfl := Option.some.inj hf
          exact W.iret hx hb hr (fun t ht hW => ⟨_, rfl, rfl, ht⟩) (fun q h => by cases h) d_V_sourceAcross_61
      · have hf := z_f hc hf
        refine lv_iload hx hb d_V_sourceAcross_34 (lv_at hl 0 rfl) ?_
        refine lv_goto (tgt := 44) hx hb d_V_sourceAcross_36 (by decide) ?_
        refine lv_istore (lv' := [(7, .int x3), (6, .int x3), (5, .int (x2 &&& (3 : Int32))), (4, .int (x1 - (1 : Int32))), (0, .int x1), (1, .int x2), (2, .int x3), (3, .int x4)]) hx hb d_V_sourceAcross_44 hl (by decide) rfl (fun ls hl => ?_)
        refine lv_iload_n hx hb d_V_sourceAcross_46 rfl (lv_at hl 5 rfl) ?_
        refine lv_iconst (v := 4) hx hb d_V_sourceAcross_47 (by decide) ?_
        refine lv_icmp_ge (tgt := 56) hx hb d_V_sourceAcross_48 (by decide) (fun hc => ?_) (fun hc => ?_)
        · have hf := z_t hc hf
          refine lv_iload hx hb d_V_sourceAcross_56 (lv_at hl 3 rfl) ?_
          refine lv_iload hx hb d_V_sourceAcross_58 (lv_at hl 0 rfl) ?_
          refine lv_isub hx hb d_V_sourceAcross_60 ?_
          obtain rfl := Option.some.inj hf
          exact W.iret hx hb hr (fun t ht hW => ⟨_, rfl, rfl, ht⟩) (fun q h => by cases h) d_V_sourceAcross_61
        · have hf := z_f hc hf
          refine lv_iload hx hb d_V_sourceAcross_51 (lv_at hl 0 rfl) ?_
          refine lv_goto (tgt := 61) hx hb d_V_sourceAcross_53 (by decide) ?_
          obtain rfl := Option.some.inj hf
          exact W.iret hx hb hr (fun t ht hW => ⟨_, rfl, rfl, ht⟩) (fun q h => by cases h) d_V_sourceAcross_61
def f_V_cellFor (x1 : Int32) (x2 : Int32) (x3 : Int32) (x4 : Int32) (V_left : Int32) (V_top : Int32) (H_side : Int32) : Option (Int32) := (f_V_sourceDown x1 x2 x3 x4).bind (fun q133 => (f_V_sourceAcross x1 x2 x3 x4).bind (fun q135 => some ((((V_top + q133) * H_side) + V_left) + q135)))
set_option maxHeartbeats 4000000 in
set_option maxRecDepth 100000 in
theorem c_V_cellFor (l : Launch) (dC : Nat → ClassId) (dI : Nat → Nat → Nat) (cI cL : ClassId) {ws : va_W} {aV aH aHA : Nat} {V_left V_top V_start V_stepAcross V_stepDown H_mostSide H_side : Int32} (x1 : Int32) (x2 : Int32) (x3 : Int32) (x4 : Int32) (hN_V : zA ws 7 (aV, .inr (2, [.ref aH, .int V_left, .int V_top, .int V_start, .int V_stepAcross, .int V_stepDown]))) (hN_H : zA ws 5 (aH, .inr (1, [.int H_mostSide, .ref aHA, .int H_side]))) (r : Int32) (hf : f_V_cellFor x1 x2 x3 x4 V_left V_top H_side = some r) : Met l y_V_cellFor w_V_cellFor rm_V_cellFor (va_Pc [.ref aV, .int x1, .int x2, .int x3, .int x4] (zR dC dI cI cL ws)) (vp_Si (fun v => v = r)) 0 0 (fun _ => False) := by
  refine Met.ofW (cc := b_V_cellFor) (maxL := 5) (ret := some .int) (by decide) rfl ?_
  intro p e s m args below meth c s₁ B hml hv
  obtain ⟨rfl, hP, hK, hZ⟩ := hv
  have hx := B.exec
  have hb := B.bytes
  have hr := B.returns
  have hlocks := B.notSynchronized
  have hts : ∀ w ∈ BIG, w.before ([.ref aV, .int x1, .int x2, .int x3, .int x4] : List Value).toArray s = true := fun w h => atoms_spec (ws := w_V_cellFor) B.pre w (List.mem_cons_of_mem _ h)
  have hown : s.vm.findClass "FractalMaps$View" = some m.cls := findClass_of_methodNamed B.named
  have hl := lv_entry ([.ref aV, .int x1, .int x2, .int x3, .int x4]) (n := 5) (Nat.le_of_ble_eq_true rfl)
  rw [lg_entry_eq]
  generalize (lg_sl ([.ref aV, .int x1, .int x2, .int x3, .int x4]) ++ List.replicate (5 - (lg_sl ([.ref aV, .int x1, .int x2, .int x3, .int x4])).length) Slot.unset).toArray = ls at hl ⊢
  have hl : lv_has ls 5 [(0, .ref aV), (1, .int x1), (2, .int x2), (3, .int x3), (4, .int x4)] := hl
  unfold f_V_cellFor at hf
  refine lv_aload_n hx hb d_V_cellFor_0 rfl (lv_at hl 0 rfl) ?_
  refine gf_V_28 (v := .int V_top) hx hb hts hown hK hP hN_V rfl d_V_cellFor_1 ?_
  refine lv_iload_n hx hb d_V_cellFor_4 rfl (lv_at hl 1 rfl) ?_
  refine lv_iload_n hx hb d_V_cellFor_5 rfl (lv_at hl 2 rfl) ?_
  refine lv_iload_n hx hb d_V_cellFor_6 rfl (lv_at hl 3 rfl) ?_
  refine lv_iload hx hb d_V_cellFor_7 (lv_at hl 4 rfl) ?_
  obtain ⟨q133, hc, hf⟩ := z_b hf
  refine vp_callSi (z_cr (va_runS (As := [.int x1, .int x2, .int x3, .int x4]) (rest := [.int V_top]) ⟨hx, hb, hml, hown, hts⟩ (c_V_sourceDown l x1 x2 x3 x4 q133 hc) (cw_V_48 hts ⟨Nat.le_of_ble_eq_true rfl, Nat.le_of_ble_eq_true rfl⟩) ⟨zb0, zp0⟩ rfl rfl hl.1 rfl (lv_room (Nat.le_of_ble_eq_true rfl)) d_V_cellFor_9 ⟨Nat.zero_le _, Nat.zero_le _⟩)) (fun r134 hv => ?_)
  have hv := hv.symm
  subst hv
  refine lv_iadd hx hb d_V_cellFor_12 ?_
  refine lv_aload_n hx hb d_V_cellFor_13 rfl (lv_at hl 0 rfl) ?_
  refine gf_V_7 (v := .ref aH) hx hb hts hown hK hP hN_V rfl d_V_cellFor_14 ?_
  refine gf_V_13 (v := .int H_side) hx hb hts hown hK hZ hP hN_H rfl d_V_cellFor_17 ?_
  refine lv_imul hx hb d_V_cellFor_20 ?_
  refine lv_aload_n hx hb d_V_cellFor_21 rfl (lv_at hl 0 rfl) ?_
  refine gf_V_25 (v := .int V_left) hx hb hts hown hK hP hN_V rfl d_V_cellFor_22 ?_
  refine lv_iadd hx hb d_V_cellFor_25 ?_
  refine lv_iload_n hx hb d_V_cellFor_26 rfl (lv_at hl 1 rfl) ?_
  refine lv_iload_n hx hb d_V_cellFor_27 rfl (lv_at hl 2 rfl) ?_
  refine lv_iload_n hx hb d_V_cellFor_28 rfl (lv_at hl 3 rfl) ?_
  refine lv_iload hx hb d_V_cellFor_29 (lv_at hl 4 rfl) ?_
  obtain ⟨q135, hc, hf⟩ := z_b hf
  refine vp_callSi (z_cr (va_runS (As := [.int x1, .int x2, .int x3, .int x4]) (rest := [.int (((V_top + q133) * H_side) + V_left)]) ⟨hx, hb, hml, hown, hts⟩ (c_V_sourceAcross l x1 x2 x3 x4 q135 hc) (cw_V_51 hts ⟨Nat.le_of_ble_eq_true rfl, Nat.le_of_ble_eq_true rfl⟩) ⟨zb0, zp0⟩ rfl rfl hl.1 rfl (lv_room (Nat.le_of_ble_eq_true rfl)) d_V_cellFor_31 ⟨Nat.zero_le _, Nat.zero_le _⟩)) (fun r136 hv => ?_)
  have hv := hv.symm
  subst hv
  refine lv_iadd hx hb d_V_cellFor_34 ?_
  obtain rfl := Option.some.inj hf
  exact W.iret hx hb hr (fun t ht hW => ⟨_, rfl, rfl, ht⟩) (fun q h => by cases h) d_V_cellFor_35
def f_V_aim (x1 : Int32) (x2 : Int32) (x3 : Int32) (V_left : Int32) (V_top : Int32) (V_start : Int32) (H_side : Int32) : Option (Int32 × Int32 × Int32 × Int32 × Int32) := (f_F_domainsAcross ((2 : Int32) * H_side) x1).bind (fun q137 => if (1 : Int32) ≤ q137 then (if q137 = 0 then none else (if (1 : Int32) ≤ q137 then (if q137 = 0 then none else ((f_V_cellFor x1 x3 (0 : Int32) (0 : Int32) ((x2 - x2 / q137 * q137) * (x1 / (2 : Int32))) ((x2 / q137) * (x1 / (2 : Int32))) H_side).bind (fun q139 => (f_V_cellFor x1 x3 (1 : Int32) (0 : Int32) ((x2 - x2 / q137 * q137) * (x1 / (2 : Int32))) ((x2 / q137) * (x1 / (2 : Int32))) H_side).bind (fun q141 => (f_V_cellFor x1 x3 (0 : Int32) (1 : Int32) ((x2 - x2 / q137 * q137) * (x1 / (2 : Int32))) ((x2 / q137) * (x1 / (2 : Int32))) H_side).bind (fun q143 => some (((x2 - x2 / q137 * q137) * (x1 / (2 : Int32))), ((x2 / q137) * (x1 / (2 : Int32))), q139, (q141 - q139), (q143 - q139))))))) else ((f_V_cellFor x1 x3 (0 : Int32) (0 : Int32) ((x2 - x2 / q137 * q137) * (x1 / (2 : Int32))) (0 : Int32) H_side).bind (fun q145 => (f_V_cellFor x1 x3 (1 : Int32) (0 : Int32) ((x2 - x2 / q137 * q137) * (x1 / (2 : Int32))) (0 : Int32) H_side).bind (fun q147 => (f_V_cellFor x1 x3 (0 : Int32) (1 : Int32) ((x2 - x2 / q137 * q137) * (x1 / (2 : Int32))) (0 : Int32) H_side).bind (fun q149 => some (((x2 - x2 / q137 * q137) * (x1 / (2 : Int32))), (0 : Int32), q145, (q147 - q145), (q149 - q145)))))))) else (if (1 : Int32) ≤ q137 then (if q137 = 0 then none else ((f_V_cellFor x1 x3 (0 : Int32) (0 : Int32) (0 : Int32) ((x2 / q137) * (x1 / (2 : Int32))) H_side).bind (fun q151 => (f_V_cellFor x1 x3 (1 : Int32) (0 : Int32) (0 : Int32) ((x2 / q137) * (x1 / (2 : Int32))) H_side).bind (fun q153 => (f_V_cellFor x1 x3 (0 : Int32) (1 : Int32) (0 : Int32) ((x2 / q137) * (x1 / (2 : Int32))) H_side).bind (fun q155 => some ((0 : Int32), ((x2 / q137) * (x1 / (2 : Int32))), q151, (q153 - q151), (q155 - q151))))))) else ((f_V_cellFor x1 x3 (0 : Int32) (0 : Int32) (0 : Int32) (0 : Int32) H_side).bind (fun q157 => (f_V_cellFor x1 x3 (1 : Int32) (0 : Int32) (0 : Int32) (0 : Int32) H_side).bind (fun q159 => (f_V_cellFor x1 x3 (0 : Int32) (1 : Int32) (0 : Int32) (0 : Int32) H_side).bind (fun q161 => some ((0 : Int32), (0 : Int32), q157, (q159 - q157), (q161 - q157))))))))
set_option maxHeartbeats 4000000 in
set_option maxRecDepth 100000 in
theorem c_V_aim (l : Launch) (dC : Nat → ClassId) (dI : Nat → Nat → Nat) (cI cL : ClassId) {ws0 : va_W} (sz : Nat) {aV aH aHA : Nat} {V_left V_top V_start V_stepAcross V_stepDown H_mostSide H_side : Int32} (x1 : Int32) (x2 : Int32) (x3 : Int32) (hN_V : zA ws0 7 (aV, .inr (2, [.ref aH, .int V_left, .int V_top, .int V_start, .int V_stepAcross, .int V_stepDown]))) (hN_H : zA ws0 5 (aH, .inr (1, [.int H_mostSide, .ref aHA, .int H_side]))) (r : Int32 × Int32 × Int32 × Int32 × Int32) (hf : f_V_aim x1 x2 x3 V_left V_top V_start H_side = some r) : Met l y_V_aim w_V_aim rm_V_aim (va_Pc [.ref aV, .int x1, .int x2, .int x3] (zM dC dI cI cL ws0 sz)) (va_Qv (fun ws' : va_W => zA ws' 7 (aV, .inr (2, [.ref aH, .int r.1, .int r.2.1, .int r.2.2.1, .int r.2.2.2.1, .int r.2.2.2.2])) ∧ ∀ (j : Nat), j ∉ ([7] : List Nat) → ws'[j]? = ws0[j]?) (zQ dC dI cI cL (va_A ws0 sz)) (va_A ws0 sz)) 0 0 (va_A ws0 sz) := by
  refine Met.ofW (cc := b_V_aim) (maxL := 5) (ret := none) (by decide) rfl ?_
  intro p e s m args below meth c s₁ B hml hv
  obtain ⟨rfl, hsz, hP, hK, hZ, hD0⟩ := hv
  have hx := B.exec
  have hb := B.bytes
  have hr := B.returns
  have hlocks := B.notSynchronized
  have hts : ∀ w ∈ BIG, w.before ([.ref aV, .int x1, .int x2, .int x3] : List Value).toArray s = true := fun w h => atoms_spec (ws := w_V_aim) B.pre w (List.mem_cons_of_mem _ h)
  have hown : s.vm.findClass "FractalMaps$View" = some m.cls := findClass_of_methodNamed B.named
  subst hsz
  have hD := hD0.self (sz := s.heap.size)
  generalize hAe : va_A ws0 s.heap.size = A at hD ⊢
  have hA : ∀ q : Nat, s.heap.size ≤ q → A q := fun q h => by rw [← hAe]; exact Or.inr h
  have hS : va_S A s.heap s.heap [] := va_S.rf
  have hw : ∀ (j : Nat), j ∉ ([7] : List Nat) → ws0[j]? = ws0[j]? := fun _ _ => rfl
  have hl := lv_entry ([.ref aV, .int x1, .int x2, .int x3]) (n := 5) (Nat.le_of_ble_eq_true rfl)
  rw [lg_entry_eq]
  generalize (lg_sl ([.ref aV, .int x1, .int x2, .int x3]) ++ List.replicate (5 - (lg_sl ([.ref aV, .int x1, .int x2, .int x3])).length) Slot.unset).toArray = ls at hl ⊢
  have hl : lv_has ls 5 [(0, .ref aV), (1, .int x1), (2, .int x2), (3, .int x3)] := hl
  unfold f_V_aim at hf
  refine lv_iconst (v := 2) hx hb d_V_aim_0 (by decide) ?_
  refine lv_aload_n hx hb d_V_aim_1 rfl (lv_at hl 0 rfl) ?_
  refine gf_V_7 (v := .ref aH) hx hb hts hown hK hP hN_V rfl d_V_aim_2 ?_
  refine gf_V_13 (v := .int H_side) hx hb hts hown hK hZ hP hN_H rfl d_V_aim_5 ?_
  refine lv_imul hx hb d_V_aim_8 ?_
  refine lv_iload_n hx hb d_V_aim_9 rfl (lv_at hl 1 rfl) ?_
  obtain ⟨q137, hc, hf⟩ := z_b hf
  refine vp_callSi (z_cr (va_runSN (As := [.int ((2 : Int32) * H_side), .int x1]) (rest := []) ⟨hx, hb, hml, hown, hts⟩ (c_F_domainsAcross l ((2 : Int32) * H_side) x1 q137 hc) (cw_V_19 hts hZ ⟨Nat.le_of_ble_eq_true rfl, Nat.le_of_ble_eq_true rfl⟩) ⟨zb0, zp0⟩ rfl rfl hl.1 rfl (lv_room (Nat.le_of_ble_eq_true rfl)) d_V_aim_10 ⟨Nat.zero_le _, Nat.zero_le _⟩)) (fun r138 hv => ?_)
  have hv := hv.symm
  subst hv
  refine lv_istore (lv' := [(4, .int q137), (0, .ref aV), (1, .int x1), (2, .int x2), (3, .int x3)]) hx hb d_V_aim_13 hl (by decide) rfl (fun ls hl => ?_)
  refine lv_aload_n hx hb d_V_aim_15 rfl (lv_at hl 1 rfl) ?_
  refine lv_iload hx hb d_V_aim_16 (lv_at hl 0 rfl) ?_
  refine lv_iconst (v := 1) hx hb d_V_aim_18 (by decide) ?_
  refine lv_icmp_ge (tgt := 26) hx hb d_V_aim_19 (by decide) (fun hc => ?_) (fun hc => ?_)
  · have hf := z_t hc hf
    refine lv_iload_n hx hb d_V_aim_26 rfl (lv_at hl 3 rfl) ?_
    refine lv_iload hx hb d_V_aim_27 (lv_at hl 0 rfl) ?_
    obtain ⟨hne, hf⟩ := z_no hf
    refine lv_irem hx hb d_V_aim_29 hne ?_
    refine lv_iload_n hx hb d_V_aim_30 rfl (lv_at hl 2 rfl) ?_
    refine lv_iconst (v := 2) hx hb d_V_aim_31 (by decide) ?_
    refine lv_idiv hx hb d_V_aim_32 (by decide) ?_
    refine lv_imul hx hb d_V_aim_33 ?_
    refine pf_V_25 (v := .int ((x2 - x2 / q137 * q137) * (x1 / (2 : Int32)))) hx hb hts hown hK hP hD hS hN_V rfl rfl (Nat.le_of_ble_eq_true rfl) d_V_aim_34 (fun ws H locs hP hD hS hN_V hfr => ?_)
    have hN_V : zA ws 7 (aV, .inr (2, [.ref aH, .int ((x2 - x2 / q137 * q137) * (x1 / (2 : Int32))), .int V_top, .int V_start, .int V_stepAcross, .int V_stepDown])) := hN_V
    have hN_H := (hfr _ (by decide)).trans hN_H
    have hw := z_fr (by decide) hw hfr
    refine lv_aload_n hx hb d_V_aim_37 rfl (lv_at hl 1 rfl) ?_
    refine lv_iload hx hb d_V_aim_38 (lv_at hl 0 rfl) ?_
    refine lv_iconst (v := 1) hx hb d_V_aim_40 (by decide) ?_
    refine lv_icmp_ge (tgt := 48) hx hb d_V_aim_41 (by decide) (fun hc => ?_) (fun hc => ?_)
    · have hf := z_t hc hf
      refine lv_iload_n hx hb d_V_aim_48 rfl (lv_at hl 3 rfl) ?_
      refine lv_iload hx hb d_V_aim_49 (lv_at hl 0 rfl) ?_
      obtain ⟨hne, hf⟩ := z_no hf
      refine lv_idiv hx hb d_V_aim_51 hne ?_
      refine lv_iload_n hx hb d_V_aim_52 rfl (lv_at hl 2 rfl) ?_
      refine lv_iconst (v := 2) hx hb d_V_aim_53 (by decide) ?_
      refine lv_idiv hx hb d_V_aim_54 (by decide) ?_
      refine lv_imul hx hb d_V_aim_55 ?_
      refine pf_V_28 (v := .int ((x2 / q137) * (x1 / (2 : Int32)))) hx hb hts hown hK hP hD hS hN_V rfl rfl (Nat.le_of_ble_eq_true rfl) d_V_aim_56 (fun ws H locs hP hD hS hN_V hfr => ?_)
      have hN_V : zA ws 7 (aV, .inr (2, [.ref aH, .int ((x2 - x2 / q137 * q137) * (x1 / (2 : Int32))), .int ((x2 / q137) * (x1 / (2 : Int32))), .int V_start, .int V_stepAcross, .int V_stepDown])) := hN_V
      have hN_H := (hfr _ (by decide)).trans hN_H
      have hw := z_fr (by decide) hw hfr
      refine lv_aload_n hx hb d_V_aim_59 rfl (lv_at hl 1 rfl) ?_
      refine lv_aload_n hx hb d_V_aim_60 rfl (lv_at hl 1 rfl) ?_
      refine lv_iload_n hx hb d_V_aim_61 rfl (lv_at hl 2 rfl) ?_
      refine lv_iload_n hx hb d_V_aim_62 rfl (lv_at hl 4 rfl) ?_
      refine lv_iconst (v := 0) hx hb d_V_aim_63 (by decide) ?_
      refine lv_iconst (v := 0) hx hb d_V_aim_64 (by decide) ?_
      obtain ⟨q139, hc, hf⟩ := z_b hf
      refine vp_callSi (z_cr (va_runV (As := [.int x1, .int x3, .int (0 : Int32), .int (0 : Int32)]) (rest := [.ref aV]) ⟨hx, hb, hml, hown, hts⟩ (c_V_cellFor l dC dI cI cL x1 x3 (0 : Int32) (0 : Int32) hN_V hN_H q139 hc) (cw_V_31 hts ⟨Nat.le_of_ble_eq_true rfl, Nat.le_of_ble_eq_true rfl⟩) ⟨zbR, va_recv hK hP (ci := 2) rfl hN_V, (zpR hP hK hZ)⟩ rfl rfl hl.1 rfl (lv_room (Nat.le_of_ble_eq_true rfl)) d_V_aim_65 ⟨Nat.zero_le _, Nat.zero_le _⟩)) (fun r140 hv => ?_)
      have hv := hv.symm
      subst hv
      refine pf_V_35 (v := .int q139) hx hb hts hown hK hP hD hS hN_V rfl rfl (Nat.le_of_ble_eq_true rfl) d_V_aim_68 (fun ws H locs hP hD hS hN_V hfr => ?_)
      have hN_V : zA ws 7 (aV, .inr (2, [.ref aH, .int ((x2 - x2 / q137 * q137) * (x1 / (2 : Int32))), .int ((x2 / q137) * (x1 / (2 : Int32))), .int q139, .int V_stepAcross, .int V_stepDown])) := hN_V
      have hN_H := (hfr _ (by decide)).trans hN_H
      have hw := z_fr (by decide) hw hfr
      refine lv_aload_n hx hb d_V_aim_71 rfl (lv_at hl 1 rfl) ?_
      refine lv_aload_n hx hb d_V_aim_72 rfl (lv_at hl 1 rfl) ?_
      refine lv_iload_n hx hb d_V_aim_73 rfl (lv_at hl 2 rfl) ?_
      refine lv_iload_n hx hb d_V_aim_74 rfl (lv_at hl 4 rfl) ?_
      refine lv_iconst (v := 1) hx hb d_V_aim_75 (by decide) ?_
      refine lv_iconst (v := 0) hx hb d_V_aim_76 (by decide) ?_
      obtain ⟨q141, hc, hf⟩ := z_b hf
      refine vp_callSi (z_cr (va_runV (As := [.int x1, .int x3, .int (1 : Int32), .int (0 : Int32)]) (rest := [.ref aV]) ⟨hx, hb, hml, hown, hts⟩ (c_V_cellFor l dC dI cI cL x1 x3 (1 : Int32) (0 : Int32) hN_V hN_H q141 hc) (cw_V_31 hts ⟨Nat.le_of_ble_eq_true rfl, Nat.le_of_ble_eq_true rfl⟩) ⟨zbR, va_recv hK hP (ci := 2) rfl hN_V, (zpR hP hK hZ)⟩ rfl rfl hl.1 rfl (lv_room (Nat.le_of_ble_eq_true rfl)) d_V_aim_77 ⟨Nat.zero_le _, Nat.zero_le _⟩)) (fun r142 hv => ?_)
      have hv := hv.symm
      subst hv
      refine lv_aload_n hx hb d_V_aim_80 rfl (lv_at hl 1 rfl) ?_
      refine gf_V_35 (v := .int q139) hx hb hts hown hK hP hN_V rfl d_V_aim_81 ?_
      refine lv_isub hx hb d_V_aim_84 ?_
      refine pf_V_38 (v := .int (q141 - q139)) hx hb hts hown hK hP hD hS hN_V rfl rfl (Nat.le_of_ble_eq_true rfl) d_V_aim_85 (fun ws H locs hP hD hS hN_V hfr => ?_)
      have hN_V : zA ws 7 (aV, .inr (2, [.ref aH, .int ((x2 - x2 / q137 * q137) * (x1 / (2 : Int32))), .int ((x2 / q137) * (x1 / (2 : Int32))), .int q139, .int (q141 - q139), .int V_stepDown])) := hN_V
      have hN_H := (hfr _ (by decide)).trans hN_H
      have hw := z_fr (by decide) hw hfr
      refine lv_aload_n hx hb d_V_aim_88 rfl (lv_at hl 1 rfl) ?_
      refine lv_aload_n hx hb d_V_aim_89 rfl (lv_at hl 1 rfl) ?_
      refine lv_iload_n hx hb d_V_aim_90 rfl (lv_at hl 2 rfl) ?_
      refine lv_iload_n hx hb d_V_aim_91 rfl (lv_at hl 4 rfl) ?_
      refine lv_iconst (v := 0) hx hb d_V_aim_92 (by decide) ?_
      refine lv_iconst (v := 1) hx hb d_V_aim_93 (by decide) ?_
      obtain ⟨q143, hc, hf⟩ := z_b hf
      refine vp_callSi (z_cr (va_runV (As := [.int x1, .int x3, .int (0 : Int32), .int (1 : Int32)]) (rest := [.ref aV]) ⟨hx, hb, hml, hown, hts⟩ (c_V_cellFor l dC dI cI cL x1 x3 (0 : Int32) (1 : Int32) hN_V hN_H q143 hc) (cw_V_31 hts ⟨Nat.le_of_ble_eq_true rfl, Nat.le_of_ble_eq_true rfl⟩) ⟨zbR, va_recv hK hP (ci := 2) rfl hN_V, (zpR hP hK hZ)⟩ rfl rfl hl.1 rfl (lv_room (Nat.le_of_ble_eq_true rfl)) d_V_aim_94 ⟨Nat.zero_le _, Nat.zero_le _⟩)) (fun r144 hv => ?_)
      have hv := hv.symm
      subst hv
      refine lv_aload_n hx hb d_V_aim_97 rfl (lv_at hl 1 rfl) ?_
      refine gf_V_35 (v := .int q139) hx hb hts hown hK hP hN_V rfl d_V_aim_98 ?_
      refine lv_isub hx hb d_V_aim_101 ?_
      refine pf_V_41 (v := .int (q143 - q139)) hx hb hts hown hK hP hD hS hN_V rfl rfl (Nat.le_of_ble_eq_true rfl) d_V_aim_102 (fun ws H locs hP hD hS hN_V hfr => ?_)
      have hN_V : zA ws 7 (aV, .inr (2, [.ref aH, .int ((x2 - x2 / q137 * q137) * (x1 / (2 : Int32))), .int ((x2 / q137) * (x1 / (2 : Int32))), .int q139, .int (q141 - q139), .int (q143 - q139)])) := hN_V
      have hN_H := (hfr _ (by decide)).trans hN_H
      have hw := z_fr (by decide) hw hfr
      obtain rfl := Option.some.inj hf
      exact W.vret hx hb hr (fun t ht hW => ⟨⟨ws, rfl, ⟨hN_V, hw⟩, by rw [ht]; exact hP, va_K.moved hW.alike hK, hD⟩, hS.F ht⟩) hS.2.2 d_V_aim_105
    · have hf := z_f hc hf
      refine lv_iconst (v := 0) hx hb d_V_aim_44 (by decide) ?_
      refine lv_goto (tgt := 56) hx hb d_V_aim_45 (by decide) ?_
      refine pf_V_28 (v := .int (0 : Int32)) hx hb hts hown hK hP hD hS hN_V rfl rfl (Nat.le_of_ble_eq_true rfl) d_V_aim_56 (fun ws H locs hP hD hS hN_V hfr => ?_)
      have hN_V : zA ws 7 (aV, .inr (2, [.ref aH, .int ((x2 - x2 / q137 * q137) * (x1 / (2 : Int32))), .int (0 : Int32), .int V_start, .int V_stepAcross, .int V_stepDown])) := hN_V
      have hN_H := (hfr _ (by decide)).trans hN_H
      have hw := z_fr (by decide) hw hfr
      refine lv_aload_n hx hb d_V_aim_59 rfl (lv_at hl 1 rfl) ?_
      refine lv_aload_n hx hb d_V_aim_60 rfl (lv_at hl 1 rfl) ?_
      refine lv_iload_n hx hb d_V_aim_61 rfl (lv_at hl 2 rfl) ?_
      refine lv_iload_n hx hb d_V_aim_62 rfl (lv_at hl 4 rfl) ?_
      refine lv_iconst (v := 0) hx hb d_V_aim_63 (by decide) ?_
      refine lv_iconst (v := 0) hx hb d_V_aim_64 (by decide) ?_
      obtain ⟨q145, hc, hf⟩ := z_b hf
      refine vp_callSi (z_cr (va_runV (As := [.int x1, .int x3, .int (0 : Int32), .int (0 : Int32)]) (rest := [.ref aV]) ⟨hx, hb, hml, hown, hts⟩ (c_V_cellFor l dC dI cI cL x1 x3 (0 : Int32) (0 : Int32) hN_V hN_H q145 hc) (cw_V_31 hts ⟨Nat.le_of_ble_eq_true rfl, Nat.le_of_ble_eq_true rfl⟩) ⟨zbR, va_recv hK hP (ci := 2) rfl hN_V, (zpR hP hK hZ)⟩ rfl rfl hl.1 rfl (lv_room (Nat.le_of_ble_eq_true rfl)) d_V_aim_65 ⟨Nat.zero_le _, Nat.zero_le _⟩)) (fun r146 hv => ?_)
      have hv := hv.symm
      subst hv
      refine pf_V_35 (v := .int q145) hx hb hts hown hK hP hD hS hN_V rfl rfl (Nat.le_of_ble_eq_true rfl) d_V_aim_68 (fun ws H locs hP hD hS hN_V hfr => ?_)
      have hN_V : zA ws 7 (aV, .inr (2, [.ref aH, .int ((x2 - x2 / q137 * q137) * (x1 / (2 : Int32))), .int (0 : Int32), .int q145, .int V_stepAcross, .int V_stepDown])) := hN_V
      have hN_H := (hfr _ (by decide)).trans hN_H
      have hw := z_fr (by decide) hw hfr
      refine lv_aload_n hx hb d_V_aim_71 rfl (lv_at hl 1 rfl) ?_
      refine lv_aload_n hx hb d_V_aim_72 rfl (lv_at hl 1 rfl) ?_
      refine lv_iload_n hx hb d_V_aim_73 rfl (lv_at hl 2 rfl) ?_
      refine lv_iload_n hx hb d_V_aim_74 rfl (lv_at hl 4 rfl) ?_
      refine lv_iconst (v := 1) hx hb d_V_aim_75 (by decide) ?_
      refine lv_iconst (v := 0) hx hb d_V_aim_76 (by decide) ?_
      obtain ⟨q147, hc, hf⟩ := z_b hf
      refine vp_callSi (z_cr (va_runV (As := [.int x1, .int x3, .int (1 : Int32), .int (0 : Int32)]) (rest := [.ref aV]) ⟨hx, hb, hml, hown, hts⟩ (c_V_cellFor l dC dI cI cL x1 x3 (1 : Int32) (0 : Int32) hN_V hN_H q147 hc) (cw_V_31 hts ⟨Nat.le_of_ble_eq_true rfl, Nat.le_of_ble_eq_true rfl⟩) ⟨zbR, va_recv hK hP (ci := 2) rfl hN_V, (zpR hP hK hZ)⟩ rfl rfl hl.1 rfl (lv_room (Nat.le_of_ble_eq_true rfl)) d_V_aim_77 ⟨Nat.zero_le _, Nat.zero_le _⟩)) (fun r148 hv => ?_)
      have hv := hv.symm
      subst hv
      refine lv_aload_n hx hb d_V_aim_80 rfl (lv_at hl 1 rfl) ?_
      refine gf_V_35 (v := .int q145) hx hb hts hown hK hP hN_V rfl d_V_aim_81 ?_
      refine lv_isub hx hb d_V_aim_84 ?_
      refine pf_V_38 (v := .int (q147 - q145)) hx hb hts hown hK hP hD hS hN_V rfl rfl (Nat.le_of_ble_eq_true rfl) d_V_aim_85 (fun ws H locs hP hD hS hN_V hfr => ?_)
      have hN_V : zA ws 7 (aV, .inr (2, [.ref aH, .int ((x2 - x2 / q137 * q137) * (x1 / (2 : Int32))), .int (0 : Int32), .int q145, .int (q147 - q145), .int V_stepDown])) := hN_V
      have hN_H := (hfr _ (by decide)).trans hN_H
      have hw := z_fr (by decide) hw hfr
      refine lv_aload_n hx hb d_V_aim_88 rfl (lv_at hl 1 rfl) ?_
      refine lv_aload_n hx hb d_V_aim_89 rfl (lv_at hl 1 rfl) ?_
      refine lv_iload_n hx hb d_V_aim_90 rfl (lv_at hl 2 rfl) ?_
      refine lv_iload_n hx hb d_V_aim_91 rfl (lv_at hl 4 rfl) ?_
      refine lv_iconst (v := 0) hx hb d_V_aim_92 (by decide) ?_
      refine lv_iconst (v := 1) hx hb d_V_aim_93 (by decide) ?_
      obtain ⟨q149, hc, hf⟩ := z_b hf
      refine vp_callSi (z_cr (va_runV (As := [.int x1, .int x3, .int (0 : Int32), .int (1 : Int32)]) (rest := [.ref aV]) ⟨hx, hb, hml, hown, hts⟩ (c_V_cellFor l dC dI cI cL x1 x3 (0 : Int32) (1 : Int32) hN_V hN_H q149 hc) (cw_V_31 hts ⟨Nat.le_of_ble_eq_true rfl, Nat.le_of_ble_eq_true rfl⟩) ⟨zbR, va_recv hK hP (ci := 2) rfl hN_V, (zpR hP hK hZ)⟩ rfl rfl hl.1 rfl (lv_room (Nat.le_of_ble_eq_true rfl)) d_V_aim_94 ⟨Nat.zero_le _, Nat.zero_le _⟩)) (fun r150 hv => ?_)
      have hv := hv.symm
      subst hv
      refine lv_aload_n hx hb d_V_aim_97 rfl (lv_at hl 1 rfl) ?_
      refine gf_V_35 (v := .int q145) hx hb hts hown hK hP hN_V rfl d_V_aim_98 ?_
      refine lv_isub hx hb d_V_aim_101 ?_
      refine pf_V_41 (v := .int (q149 - q145)) hx hb hts hown hK hP hD hS hN_V rfl rfl (Nat.le_of_ble_eq_true rfl) d_V_aim_102 (fun ws H locs hP hD hS hN_V hfr => ?_)
      have hN_V : zA ws 7 (aV, .inr (2, [.ref aH, .int ((x2 - x2 / q137 * q137) * (x1 / (2 : Int32))), .int (0 : Int32), .int q145, .int (q147 - q145), .int (q149 - q145)])) := hN_V
      have hN_H := (hfr _ (by decide)).trans hN_H
      have hw := z_fr (by decide) hw hfr
      obtain rfl := Option.some.inj hf
      exact W.vret hx hb hr (fun t ht hW => ⟨⟨ws, rfl, ⟨hN_V, hw⟩, by rw [ht]; exact hP, va_K.moved hW.alike hK, hD⟩, hS.F ht⟩) hS.2.2 d_V_aim_105
  · have hf := z_f hc hf
    refine lv_iconst (v := 0) hx hb d_V_aim_22 (by decide) ?_
    refine lv_goto (tgt := 34) hx hb d_V_aim_23 (by decide) ?_
    refine pf_V_25 (v := .int (0 : Int32)) hx hb hts hown hK hP hD hS hN_V rfl rfl (Nat.le_of_ble_eq_true rfl) d_V_aim_34 (fun ws H locs hP hD hS hN_V hfr => ?_)
    have hN_V : zA ws 7 (aV, .inr (2, [.ref aH, .int (0 : Int32), .int V_top, .int V_start, .int V_stepAcross, .int V_stepDown])) := hN_V
    have hN_H := (hfr _ (by decide)).trans hN_H
    have hw := z_fr (by decide) hw hfr
    refine lv_aload_n hx hb d_V_aim_37 rfl (lv_at hl 1 rfl) ?_
    refine lv_iload hx hb d_V_aim_38 (lv_at hl 0 rfl) ?_
    refine lv_iconst (v := 1) hx hb d_V_aim_40 (by decide) ?_
    refine lv_icmp_ge (tgt := 48) hx hb d_V_aim_41 (by decide) (fun hc => ?_) (fun hc => ?_)
    · have hf := z_t hc hf
      refine lv_iload_n hx hb d_V_aim_48 rfl (lv_at hl 3 rfl) ?_
      refine lv_iload hx hb d_V_aim_49 (lv_at hl 0 rfl) ?_
      obtain ⟨hne, hf⟩ := z_no hf
      refine lv_idiv hx hb d_V_aim_51 hne ?_
      refine lv_iload_n hx hb d_V_aim_52 rfl (lv_at hl 2 rfl) ?_
      refine lv_iconst (v := 2) hx hb d_V_aim_53 (by decide) ?_
      refine lv_idiv hx hb d_V_aim_54 (by decide) ?_
      refine lv_imul hx hb d_V_aim_55 ?_
      refine pf_V_28 (v := .int ((x2 / q137) * (x1 / (2 : Int32)))) hx hb hts hown hK hP hD hS hN_V rfl rfl (Nat.le_of_ble_eq_true rfl) d_V_aim_56 (fun ws H locs hP hD hS hN_V hfr => ?_)
      have hN_V : zA ws 7 (aV, .inr (2, [.ref aH, .int (0 : Int32), .int ((x2 / q137) * (x1 / (2 : Int32))), .int V_start, .int V_stepAcross, .int V_stepDown])) := hN_V
      have hN_H := (hfr _ (by decide)).trans hN_H
      have hw := z_fr (by decide) hw hfr
      refine lv_aload_n hx hb d_V_aim_59 rfl (lv_at hl 1 rfl) ?_
      refine lv_aload_n hx hb d_V_aim_60 rfl (lv_at hl 1 rfl) ?_
      refine lv_iload_n hx hb d_V_aim_61 rfl (lv_at hl 2 rfl) ?_
      refine lv_iload_n hx hb d_V_aim_62 rfl (lv_at hl 4 rfl) ?_
      refine lv_iconst (v := 0) hx hb d_V_aim_63 (by decide) ?_
      refine lv_iconst (v := 0) hx hb d_V_aim_64 (by decide) ?_
      obtain ⟨q151, hc, hf⟩ := z_b hf
      refine vp_callSi (z_cr (va_runV (As := [.int x1, .int x3, .int (0 : Int32), .int (0 : Int32)]) (rest := [.ref aV]) ⟨hx, hb, hml, hown, hts⟩ (c_V_cellFor l dC dI cI cL x1 x3 (0 : Int32) (0 : Int32) hN_V hN_H q151 hc) (cw_V_31 hts ⟨Nat.le_of_ble_eq_true rfl, Nat.le_of_ble_eq_true rfl⟩) ⟨zbR, va_recv hK hP (ci := 2) rfl hN_V, (zpR hP hK hZ)⟩ rfl rfl hl.1 rfl (lv_room (Nat.le_of_ble_eq_true rfl)) d_V_aim_65 ⟨Nat.zero_le _, Nat.zero_le _⟩)) (fun r152 hv => ?_)
      have hv := hv.symm
      subst hv
      refine pf_V_35 (v := .int q151) hx hb hts hown hK hP hD hS hN_V rfl rfl (Nat.le_of_ble_eq_true rfl) d_V_aim_68 (fun ws H locs hP hD hS hN_V hfr => ?_)
      have hN_V : zA ws 7 (aV, .inr (2, [.ref aH, .int (0 : Int32), .int ((x2 / q137) * (x1 / (2 : Int32))), .int q151, .int V_stepAcross, .int V_stepDown])) := hN_V
      have hN_H := (hfr _ (by decide)).trans hN_H
      have hw := z_fr (by decide) hw hfr
      refine lv_aload_n hx hb d_V_aim_71 rfl (lv_at hl 1 rfl) ?_
      refine lv_aload_n hx hb d_V_aim_72 rfl (lv_at hl 1 rfl) ?_
      refine lv_iload_n hx hb d_V_aim_73 rfl (lv_at hl 2 rfl) ?_
      refine lv_iload_n hx hb d_V_aim_74 rfl (lv_at hl 4 rfl) ?_
      refine lv_iconst (v := 1) hx hb d_V_aim_75 (by decide) ?_
      refine lv_iconst (v := 0) hx hb d_V_aim_76 (by decide) ?_
      obtain ⟨q153, hc, hf⟩ := z_b hf
      refine vp_callSi (z_cr (va_runV (As := [.int x1, .int x3, .int (1 : Int32), .int (0 : Int32)]) (rest := [.ref aV]) ⟨hx, hb, hml, hown, hts⟩ (c_V_cellFor l dC dI cI cL x1 x3 (1 : Int32) (0 : Int32) hN_V hN_H q153 hc) (cw_V_31 hts ⟨Nat.le_of_ble_eq_true rfl, Nat.le_of_ble_eq_true rfl⟩) ⟨zbR, va_recv hK hP (ci := 2) rfl hN_V, (zpR hP hK hZ)⟩ rfl rfl hl.1 rfl (lv_room (Nat.le_of_ble_eq_true rfl)) d_V_aim_77 ⟨Nat.zero_le _, Nat.zero_le _⟩)) (fun r154 hv => ?_)
      have hv := hv.symm
      subst hv
      refine lv_aload_n hx hb d_V_aim_80 rfl (lv_at hl 1 rfl) ?_
      refine gf_V_35 (v := .int q151) hx hb hts hown hK hP hN_V rfl d_V_aim_81 ?_
      refine lv_isub hx hb d_V_aim_84 ?_
      refine pf_V_38 (v := .int (q153 - q151)) hx hb hts hown hK hP hD hS hN_V rfl rfl (Nat.le_of_ble_eq_true rfl) d_V_aim_85 (fun ws H locs hP hD hS hN_V hfr => ?_)
      have hN_V : zA ws 7 (aV, .inr (2, [.ref aH, .int (0 : Int32), .int ((x2 / q137) * (x1 / (2 : Int32))), .int q151, .int (q153 - q151), .int V_stepDown])) := hN_V
      have hN_H := (hfr _ (by decide)).trans hN_H
      have hw := z_fr (by decide) hw hfr
      refine lv_aload_n hx hb d_V_aim_88 rfl (lv_at hl 1 rfl) ?_
      refine lv_aload_n hx hb d_V_aim_89 rfl (lv_at hl 1 rfl) ?_
      refine lv_iload_n hx hb d_V_aim_90 rfl (lv_at hl 2 rfl) ?_
      refine lv_iload_n hx hb d_V_aim_91 rfl (lv_at hl 4 rfl) ?_
      refine lv_iconst (v := 0) hx hb d_V_aim_92 (by decide) ?_
      refine lv_iconst (v := 1) hx hb d_V_aim_93 (by decide) ?_
      obtain ⟨q155, hc, hf⟩ := z_b hf
      refine vp_callSi (z_cr (va_runV (As := [.int x1, .int x3, .int (0 : Int32), .int (1 : Int32)]) (rest := [.ref aV]) ⟨hx, hb, hml, hown, hts⟩ (c_V_cellFor l dC dI cI cL x1 x3 (0 : Int32) (1 : Int32) hN_V hN_H q155 hc) (cw_V_31 hts ⟨Nat.le_of_ble_eq_true rfl, Nat.le_of_ble_eq_true rfl⟩) ⟨zbR, va_recv hK hP (ci := 2) rfl hN_V, (zpR hP hK hZ)⟩ rfl rfl hl.1 rfl (lv_room (Nat.le_of_ble_eq_true rfl)) d_V_aim_94 ⟨Nat.zero_le _, Nat.zero_le _⟩)) (fun r156 hv => ?_)
      have hv := hv.symm
      subst hv
      refine lv_aload_n hx hb d_V_aim_97 rfl (lv_at hl 1 rfl) ?_
      refine gf_V_35 (v := .int q151) hx hb hts hown hK hP hN_V rfl d_V_aim_98 ?_
      refine lv_isub hx hb d_V_aim_101 ?_
      refine pf_V_41 (v := .int (q155 - q151)) hx hb hts hown hK hP hD hS hN_V rfl rfl (Nat.le_of_ble_eq_true rfl) d_V_aim_102 (fun ws H locs hP hD hS hN_V hfr => ?_)
      have hN_V : zA ws 7 (aV, .inr (2, [.ref aH, .int (0 : Int32), .int ((x2 / q137) * (x1 / (2 : Int32))), .int q151, .int (q153 - q151), .int (q155 - q151)])) := hN_V
      have hN_H := (hfr _ (by decide)).trans hN_H
      have hw := z_fr (by decide) hw hfr
      obtain rfl := Option.some.inj hf
      exact W.vret hx hb hr (fun t ht hW => ⟨⟨ws, rfl, ⟨hN_V, hw⟩, by rw [ht]; exact hP, va_K.moved hW.alike hK, hD⟩, hS.F ht⟩) hS.2.2 d_V_aim_105
    · have hf := z_f hc hf
      refine lv_iconst (v := 0) hx hb d_V_aim_44 (by decide) ?_
      refine lv_goto (tgt := 56) hx hb d_V_aim_45 (by decide) ?_
      refine pf_V_28 (v := .int (0 : Int32)) hx hb hts hown hK hP hD hS hN_V rfl rfl (Nat.le_of_ble_eq_true rfl) d_V_aim_56 (fun ws H locs hP hD hS hN_V hfr => ?_)
      have hN_V : zA ws 7 (aV, .inr (2, [.ref aH, .int (0 : Int32), .int (0 : Int32), .int V_start, .int V_stepAcross, .int V_stepDown])) := hN_V
      have hN_H := (hfr _ (by decide)).trans hN_H
      have hw := z_fr (by decide) hw hfr
      refine lv_aload_n hx hb d_V_aim_59 rfl (lv_at hl 1 rfl) ?_
      refine lv_aload_n hx hb d_V_aim_60 rfl (lv_at hl 1 rfl) ?_
      refine lv_iload_n hx hb d_V_aim_61 rfl (lv_at hl 2 rfl) ?_
      refine lv_iload_n hx hb d_V_aim_62 rfl (lv_at hl 4 rfl) ?_
      refine lv_iconst (v := 0) hx hb d_V_aim_63 (by decide) ?_
      refine lv_iconst (v := 0) hx hb d_V_aim_64 (by decide) ?_
      obtain ⟨q157, hc, hf⟩ := z_b hf
      refine vp_callSi (z_cr (va_runV (As := [.int x1, .int x3, .int (0 : Int32), .int (0 : Int32)]) (rest := [.ref aV]) ⟨hx, hb, hml, hown, hts⟩ (c_V_cellFor l dC dI cI cL x1 x3 (0 : Int32) (0 : Int32) hN_V hN_H q157 hc) (cw_V_31 hts ⟨Nat.le_of_ble_eq_true rfl, Nat.le_of_ble_eq_true rfl⟩) ⟨zbR, va_recv hK hP (ci := 2) rfl hN_V, (zpR hP hK hZ)⟩ rfl rfl hl.1 rfl (lv_room (Nat.le_of_ble_eq_true rfl)) d_V_aim_65 ⟨Nat.zero_le _, Nat.zero_le _⟩)) (fun r158 hv => ?_)
      have hv := hv.symm
      subst hv
      refine pf_V_35 (v := .int q157) hx hb hts hown hK hP hD hS hN_V rfl rfl (Nat.le_of_ble_eq_true rfl) d_V_aim_68 (fun ws H locs hP hD hS hN_V hfr => ?_)
      have hN_V : zA ws 7 (aV, .inr (2, [.ref aH, .int (0 : Int32), .int (0 : Int32), .int q157, .int V_stepAcross, .int V_stepDown])) := hN_V
      have hN_H := (hfr _ (by decide)).trans hN_H
      have hw := z_fr (by decide) hw hfr
      refine lv_aload_n hx hb d_V_aim_71 rfl (lv_at hl 1 rfl) ?_
      refine lv_aload_n hx hb d_V_aim_72 rfl (lv_at hl 1 rfl) ?_
      refine lv_iload_n hx hb d_V_aim_73 rfl (lv_at hl 2 rfl) ?_
      refine lv_iload_n hx hb d_V_aim_74 rfl (lv_at hl 4 rfl) ?_
      refine lv_iconst (v := 1) hx hb d_V_aim_75 (by decide) ?_
      refine lv_iconst (v := 0) hx hb d_V_aim_76 (by decide) ?_
      obtain ⟨q159, hc, hf⟩ := z_b hf
      refine vp_callSi (z_cr (va_runV (As := [.int x1, .int x3, .int (1 : Int32), .int (0 : Int32)]) (rest := [.ref aV]) ⟨hx, hb, hml, hown, hts⟩ (c_V_cellFor l dC dI cI cL x1 x3 (1 : Int32) (0 : Int32) hN_V hN_H q159 hc) (cw_V_31 hts ⟨Nat.le_of_ble_eq_true rfl, Nat.le_of_ble_eq_true rfl⟩) ⟨zbR, va_recv hK hP (ci := 2) rfl hN_V, (zpR hP hK hZ)⟩ rfl rfl hl.1 rfl (lv_room (Nat.le_of_ble_eq_true rfl)) d_V_aim_77 ⟨Nat.zero_le _, Nat.zero_le _⟩)) (fun r160 hv => ?_)
      have hv := hv.symm
      subst hv
      refine lv_aload_n hx hb d_V_aim_80 rfl (lv_at hl 1 rfl) ?_
      refine gf_V_35 (v := .int q157) hx hb hts hown hK hP hN_V rfl d_V_aim_81 ?_
      refine lv_isub hx hb d_V_aim_84 ?_
      refine pf_V_38 (v := .int (q159 - q157)) hx hb hts hown hK hP hD hS hN_V rfl rfl (Nat.le_of_ble_eq_true rfl) d_V_aim_85 (fun ws H locs hP hD hS hN_V hfr => ?_)
      have hN_V : zA ws 7 (aV, .inr (2, [.ref aH, .int (0 : Int32), .int (0 : Int32), .int q157, .int (q159 - q157), .int V_stepDown])) := hN_V
      have hN_H := (hfr _ (by decide)).trans hN_H
      have hw := z_fr (by decide) hw hfr
      refine lv_aload_n hx hb d_V_aim_88 rfl (lv_at hl 1 rfl) ?_
      refine lv_aload_n hx hb d_V_aim_89 rfl (lv_at hl 1 rfl) ?_
      refine lv_iload_n hx hb d_V_aim_90 rfl (lv_at hl 2 rfl) ?_
      refine lv_iload_n hx hb d_V_aim_91 rfl (lv_at hl 4 rfl) ?_
      refine lv_iconst (v := 0) hx hb d_V_aim_92 (by decide) ?_
      refine lv_iconst (v := 1) hx hb d_V_aim_93 (by decide) ?_
      obtain ⟨q161, hc, hf⟩ := z_b hf
      refine vp_callSi (z_cr (va_runV (As := [.int x1, .int x3, .int (0 : Int32), .int (1 : Int32)]) (rest := [.ref aV]) ⟨hx, hb, hml, hown, hts⟩ (c_V_cellFor l dC dI cI cL x1 x3 (0 : Int32) (1 : Int32) hN_V hN_H q161 hc) (cw_V_31 hts ⟨Nat.le_of_ble_eq_true rfl, Nat.le_of_ble_eq_true rfl⟩) ⟨zbR, va_recv hK hP (ci := 2) rfl hN_V, (zpR hP hK hZ)⟩ rfl rfl hl.1 rfl (lv_room (Nat.le_of_ble_eq_true rfl)) d_V_aim_94 ⟨Nat.zero_le _, Nat.zero_le _⟩)) (fun r162 hv => ?_)
      have hv := hv.symm
      subst hv
      refine lv_aload_n hx hb d_V_aim_97 rfl (lv_at hl 1 rfl) ?_
      refine gf_V_35 (v := .int q157) hx hb hts hown hK hP hN_V rfl d_V_aim_98 ?_
      refine lv_isub hx hb d_V_aim_101 ?_
      refine pf_V_41 (v := .int (q161 - q157)) hx hb hts hown hK hP hD hS hN_V rfl rfl (Nat.le_of_ble_eq_true rfl) d_V_aim_102 (fun ws H locs hP hD hS hN_V hfr => ?_)
      have hN_V : zA ws 7 (aV, .inr (2, [.ref aH, .int (0 : Int32), .int (0 : Int32), .int q157, .int (q159 - q157), .int (q161 - q157)])) := hN_V
      have hN_H := (hfr _ (by decide)).trans hN_H
      have hw := z_fr (by decide) hw hfr
      obtain rfl := Option.some.inj hf
      exact W.vret hx hb hr (fun t ht hW => ⟨⟨ws, rfl, ⟨hN_V, hw⟩, by rw [ht]; exact hP, va_K.moved hW.alike hK, hD⟩, hS.F ht⟩) hS.2.2 d_V_aim_105
def f_V_sample (x1 : Int32) (x2 : Int32) (V_start : Int32) (V_stepAcross : Int32) (V_stepDown : Int32) (HA_n : Nat) (HA_f : Nat → Int32) : Option (Int32) := if ((V_start + (x1 * V_stepAcross)) + (x2 * V_stepDown)) < 0 then (some (0 : Int32)) else (if (nI HA_n) ≤ ((V_start + (x1 * V_stepAcross)) + (x2 * V_stepDown)) then (some (0 : Int32)) else (if ((V_start + (x1 * V_stepAcross)) + (x2 * V_stepDown)) < 0 ∨ HA_n ≤ ((V_start + (x1 * V_stepAcross)) + (x2 * V_stepDown)).toNatClampNeg then none else (some (HA_f ((V_start + (x1 * V_stepAcross)) + (x2 * V_stepDown)).toNatClampNeg))))
set_option maxHeartbeats 4000000 in
set_option maxRecDepth 100000 in
theorem c_V_sample (l : Launch) (dC : Nat → ClassId) (dI : Nat → Nat → Nat) (cI cL : ClassId) {ws : va_W} {aV aH aHA : Nat} {V_left V_top V_start V_stepAcross V_stepDown H_mostSide H_side : Int32} {HA_n : Nat} {HA_f : Nat → Int32} (x1 : Int32) (x2 : Int32) (hN_V : zA ws 7 (aV, .inr (2, [.ref aH, .int V_left, .int V_top, .int V_start, .int V_stepAcross, .int V_stepDown]))) (hN_H : zA ws 5 (aH, .inr (1, [.int H_mostSide, .ref aHA, .int H_side]))) (hN_HA : zA ws 6 (aHA, .inl (cI, HA_n, .inl HA_f))) (r : Int32) (hf : f_V_sample x1 x2 V_start V_stepAcross V_stepDown HA_n HA_f = some r) : Met l y_V_sample w_V_sample rm_V_sample (va_Pc [.ref aV, .int x1, .int x2] (zR dC dI cI cL ws)) (vp_Si (fun v => v = r)) 0 0 (fun _ => False) := by
  refine Met.ofW (cc := b_V_sample) (maxL := 4) (ret := some .int) (by decide) rfl ?_
  intro p e s m args below meth c s₁ B hml hv
  obtain ⟨rfl, hP, hK, hZ⟩ := hv
  have hx := B.exec
  have hb := B.bytes
  have hr := B.returns
  have hlocks := B.notSynchronized
  have hts : ∀ w ∈ BIG, w.before ([.ref aV, .int x1, .int x2] : List Value).toArray s = true := fun w h => atoms_spec (ws := w_V_sample) B.pre w (List.mem_cons_of_mem _ h)
  have hown : s.vm.findClass "FractalMaps$View" = some m.cls := findClass_of_methodNamed B.named
  have hl := lv_entry ([.ref aV, .int x1, .int x2]) (n := 4) (Nat.le_of_ble_eq_true rfl)
  rw [lg_entry_eq]
  generalize (lg_sl ([.ref aV, .int x1, .int x2]) ++ List.replicate (4 - (lg_sl ([.ref aV, .int x1, .int x2])).length) Slot.unset).toArray = ls at hl ⊢
  have hl : lv_has ls 4 [(0, .ref aV), (1, .int x1), (2, .int x2)] := hl
  unfold f_V_sample at hf
  refine lv_aload_n hx hb d_V_sample_0 rfl (lv_at hl 0 rfl) ?_
  refine gf_V_35 (v := .int V_start) hx hb hts hown hK hP hN_V rfl d_V_sample_1 ?_
  refine lv_iload_n hx hb d_V_sample_4 rfl (lv_at hl 1 rfl) ?_
  refine lv_aload_n hx hb d_V_sample_5 rfl (lv_at hl 0 rfl) ?_
  refine gf_V_38 (v := .int V_stepAcross) hx hb hts hown hK hP hN_V rfl d_V_sample_6 ?_
  refine lv_imul hx hb d_V_sample_9 ?_
  refine lv_iadd hx hb d_V_sample_10 ?_
  refine lv_iload_n hx hb d_V_sample_11 rfl (lv_at hl 2 rfl) ?_
  refine lv_aload_n hx hb d_V_sample_12 rfl (lv_at hl 0 rfl) ?_
  refine gf_V_41 (v := .int V_stepDown) hx hb hts hown hK hP hN_V rfl d_V_sample_13 ?_
  refine lv_imul hx hb d_V_sample_16 ?_
  refine lv_iadd hx hb d_V_sample_17 ?_
  refine lv_istore_n (lv' := [(3, .int ((V_start + (x1 * V_stepAcross)) + (x2 * V_stepDown))), (0, .ref aV), (1, .int x1), (2, .int x2)]) hx hb d_V_sample_18 rfl hl (by decide) rfl (fun ls hl => ?_)
  refine lv_iload_n hx hb d_V_sample_19 rfl (lv_at hl 0 rfl) ?_
  refine lv_if_lt (tgt := 47) hx hb d_V_sample_20 (by decide) (fun hc => ?_) (fun hc => ?_)
  · have hf := z_t hc hf
    refine lv_iconst (v := 0) hx hb d_V_sample_47 (by decide) ?_
    obtain rfl := Option.some.inj hf
    exact W.iret hx hb hr (fun t ht hW => ⟨_, rfl, rfl, ht⟩) (fun q h => by cases h) d_V_sample_48
  · have hf := z_f hc hf
    refine lv_iload_n hx hb d_V_sample_23 rfl (lv_at hl 0 rfl) ?_
    refine lv_aload_n hx hb d_V_sample_24 rfl (lv_at hl 1 rfl) ?_
    refine gf_V_7 (v := .ref aH) hx hb hts hown hK hP hN_V rfl d_V_sample_25 ?_
    refine gf_V_44 (v := .ref aHA) hx hb hts hown hK hZ hP hN_H rfl d_V_sample_28 ?_
    refine va_alen (v := nI HA_n) hx hb hK hP _ 0 hN_HA rfl rfl d_V_sample_31 ?_
    refine lv_icmp_ge (tgt := 47) hx hb d_V_sample_32 (by decide) (fun hc => ?_) (fun hc => ?_)
    · have hf := z_t hc hf
      refine lv_iconst (v := 0) hx hb d_V_sample_47 (by decide) ?_
      obtain rfl := Option.some.inj hf
      exact W.iret hx hb hr (fun t ht hW => ⟨_, rfl, rfl, ht⟩) (fun q h => by cases h) d_V_sample_48
    · have hf := z_f hc hf
      refine lv_aload_n hx hb d_V_sample_35 rfl (lv_at hl 1 rfl) ?_
      refine gf_V_7 (v := .ref aH) hx hb hts hown hK hP hN_V rfl d_V_sample_36 ?_
      refine gf_V_44 (v := .ref aHA) hx hb hts hown hK hZ hP hN_H rfl d_V_sample_39 ?_
      refine lv_iload_n hx hb d_V_sample_42 rfl (lv_at hl 0 rfl) ?_
      obtain ⟨hin, hf⟩ := z_no hf
      refine va_iald hx hb hK hP _ 0 hN_HA rfl hin d_V_sample_43 ?_
      refine lv_goto (tgt := 48) hx hb d_V_sample_44 (by decide) ?_
      obtain rfl := Option.some.inj hf
      exact W.iret hx hb hr (fun t ht hW => ⟨_, rfl, rfl, ht⟩) (fun q h => by cases h) d_V_sample_48
