def f_M_tryOne_21 (p1 : Int32) (p2 : Int32) (p3 : Int32) (p4 : Int64) (Xds_n : Nat) (Xds_f : Nat → Int32) (Xrs_n : Nat) (Xrs_f : Nat → Int32) : Nat → Int64 → Int64 → Int64 → Int64 → Int32 → Option (Int64 × Int64 × Int64 × Int64 × Int32)
  | 0, _, _, _, _, _ => none
  | n + 1, v6, v8, v10, v12, v14 => if (p1 * p1) ≤ v14 then (some (v6, v8, v10, v12, v14)) else (if v14 < 0 ∨ Xds_n ≤ v14.toNatClampNeg then none else (if v14 < 0 ∨ Xrs_n ≤ v14.toNatClampNeg then none else (if v14 < 0 ∨ Xds_n ≤ v14.toNatClampNeg then none else (if v14 < 0 ∨ Xrs_n ≤ v14.toNatClampNeg then none else (if v14 < 0 ∨ Xds_n ≤ v14.toNatClampNeg then none else (if v14 < 0 ∨ Xds_n ≤ v14.toNatClampNeg then none else (f_M_tryOne_21 p1 p2 p3 p4 Xds_n Xds_f Xrs_n Xrs_f n (v6 + (Xds_f v14.toNatClampNeg).toInt64) (v8 + (Xrs_f v14.toNatClampNeg).toInt64) (v10 + ((Xds_f v14.toNatClampNeg) * (Xrs_f v14.toNatClampNeg)).toInt64) (v12 + ((Xds_f v14.toNatClampNeg) * (Xds_f v14.toNatClampNeg)).toInt64) (v14 + 1))))))))
def f_M_tryOne_167 (p1 : Int32) (p2 : Int32) (p3 : Int32) (p4 : Int64) (p6 : Int64) (p8 : Int64) (p10 : Int64) (p12 : Int64) (p14 : Int64) (p16 : Int64) (p18 : Int32) (Xds_n : Nat) (Xds_f : Nat → Int32) : Nat → Int64 → Int32 → Option (Int64 × Int32)
  | 0, _, _ => none
  | n + 1, v19, v21 => if (p1 * p1) ≤ v21 then (some (v19, v21)) else (if v21 < 0 ∨ Xds_n ≤ v21.toNatClampNeg then none else ((f_M_mapped p18 (Xds_f v21.toNatClampNeg)).bind (fun q972 => f_M_tryOne_167 p1 p2 p3 p4 p6 p8 p10 p12 p14 p16 p18 Xds_n Xds_f n (v19 - q972.toInt64) (v21 + 1))))
def f_M_tryOne_215 (p1 : Int32) (p2 : Int32) (p3 : Int32) (p4 : Int64) (p6 : Int64) (p8 : Int64) (p10 : Int64) (p12 : Int64) (p14 : Int64) (p16 : Int64) (p18 : Int32) (p19 : Int64) (p21 : Int32) (Xds_n : Nat) (Xds_f : Nat → Int32) (Xrs_n : Nat) (Xrs_f : Nat → Int32) : Nat → Int64 → Int32 → Option (Int64 × Int32)
  | 0, _, _ => none
  | n + 1, v22, v24 => if (p1 * p1) ≤ v24 then (some (v22, v24)) else (if v24 < 0 ∨ Xrs_n ≤ v24.toNatClampNeg then none else (if v24 < 0 ∨ Xds_n ≤ v24.toNatClampNeg then none else ((f_M_mapped p18 (Xds_f v24.toNatClampNeg)).bind (fun q979 => f_M_tryOne_215 p1 p2 p3 p4 p6 p8 p10 p12 p14 p16 p18 p19 p21 Xds_n Xds_f Xrs_n Xrs_f n (v22 + ((((Xrs_f v24.toNatClampNeg) - q979) - p21).toInt64 * (((Xrs_f v24.toNatClampNeg) - q979) - p21).toInt64)) (v24 + 1)))))
def f_M_tryOne_J158 (p1 : Int32) (p2 : Int32) (p3 : Int32) (p4 : Int64) (p6 : Int64) (p8 : Int64) (p10 : Int64) (p12 : Int64) (p14 : Int64) (p16 : Int64) (X_bestError : Int64) (Xds_n : Nat) (Xds_f : Nat → Int32) (Xrs_n : Nat) (Xrs_f : Nat → Int32) (Xbest_n : Nat) (Xbest_f : Nat → Int32) (s0 : Int32) : Option (Int64 × (Nat → Int32)) := (f_M_tryOne_167 p1 p2 p3 p4 p6 p8 p10 p12 p14 p16 s0 Xds_n Xds_f FU p8 (0 : Int32)).bind (fun q974 => (f_M_nearest q974.1 p4).bind (fun q977 => (f_M_tryOne_215 p1 p2 p3 p4 p6 p8 p10 p12 p14 p16 s0 q974.1 q977.toInt32 Xds_n Xds_f Xrs_n Xrs_f FU (0 : Int64) (0 : Int32)).bind (fun q981 => if (lg_cmp X_bestError (0 : Int64)) < 0 then (if (0 : Int32) < 0 ∨ Xbest_n ≤ (0 : Int32).toNatClampNeg then none else (if (1 : Int32) < 0 ∨ Xbest_n ≤ (1 : Int32).toNatClampNeg then none else (if (2 : Int32) < 0 ∨ Xbest_n ≤ (2 : Int32).toNatClampNeg then none else (if (3 : Int32) < 0 ∨ Xbest_n ≤ (3 : Int32).toNatClampNeg then none else (some (q981.1, (upd (upd (upd (upd Xbest_f (0 : Int32).toNatClampNeg p2) (1 : Int32).toNatClampNeg p3) (2 : Int32).toNatClampNeg s0) (3 : Int32).toNatClampNeg q977.toInt32))))))) else (if 0 ≤ (lg_cmp q981.1 X_bestError) then (some (X_bestError, Xbest_f)) else (if (0 : Int32) < 0 ∨ Xbest_n ≤ (0 : Int32).toNatClampNeg then none else (if (1 : Int32) < 0 ∨ Xbest_n ≤ (1 : Int32).toNatClampNeg then none else (if (2 : Int32) < 0 ∨ Xbest_n ≤ (2 : Int32).toNatClampNeg then none else (if (3 : Int32) < 0 ∨ Xbest_n ≤ (3 : Int32).toNatClampNeg then none else (some (q981.1, (upd (upd (upd (upd Xbest_f (0 : Int32).toNatClampNeg p2) (1 : Int32).toNatClampNeg p3) (2 : Int32).toNatClampNeg s0) (3 : Int32).toNatClampNeg q977.toInt32)))))))))))
def f_M_tryOne (x1 : Int32) (x2 : Int32) (x3 : Int32) (X_bestError : Int64) (Xds_n : Nat) (Xds_f : Nat → Int32) (Xrs_n : Nat) (Xrs_f : Nat → Int32) (Xbest_n : Nat) (Xbest_f : Nat → Int32) : Option (Int64 × (Nat → Int32)) := (f_M_tryOne_21 x1 x2 x3 ((x1 * x1).toInt64) Xds_n Xds_f Xrs_n Xrs_f FU (0 : Int64) (0 : Int64) (0 : Int64) (0 : Int64) (0 : Int32)).bind (fun q965 => if (lg_cmp (((x1 * x1).toInt64 * q965.2.2.2.1) - (q965.1 * q965.1)) (0 : Int64)) = 0 then (f_M_tryOne_J158 x1 x2 x3 ((x1 * x1).toInt64) q965.1 q965.2.1 q965.2.2.1 q965.2.2.2.1 (((x1 * x1).toInt64 * q965.2.2.1) - (q965.1 * q965.2.1)) (((x1 * x1).toInt64 * q965.2.2.2.1) - (q965.1 * q965.1)) X_bestError Xds_n Xds_f Xrs_n Xrs_f Xbest_n Xbest_f (0 : Int32)) else ((f_M_nearest ((8 : Int64) * (((x1 * x1).toInt64 * q965.2.2.1) - (q965.1 * q965.2.1))) (((x1 * x1).toInt64 * q965.2.2.2.1) - (q965.1 * q965.1))).bind (fun q1000 => (f_M_brought q1000 (-7 : Int32) (7 : Int32)).bind (fun q1002 => f_M_tryOne_J158 x1 x2 x3 ((x1 * x1).toInt64) q965.1 q965.2.1 q965.2.2.1 q965.2.2.2.1 (((x1 * x1).toInt64 * q965.2.2.1) - (q965.1 * q965.2.1)) (((x1 * x1).toInt64 * q965.2.2.2.1) - (q965.1 * q965.1)) X_bestError Xds_n Xds_f Xrs_n Xrs_f Xbest_n Xbest_f q1002))))
set_option maxHeartbeats 4000000 in
set_option maxRecDepth 100000 in
theorem c_M_tryOne (l : Launch) (dC : Nat → ClassId) (dI : Nat → Nat → Nat) (cI cL : ClassId) {ws0 : va_W} (sz : Nat) {aX aXpicture aXhalf aXblocks aXencoded aXfed aXpile aXnews aXolds aXhalves aXds aXrs aXbest : Nat} {X_code X_side X_many X_found X_encodedBits X_fedMany X_readAt X_why X_tried X_waiting X_decoded : Int32} {X_bestError : Int64} {Xds_n Xrs_n Xbest_n : Nat} {Xds_f Xrs_f Xbest_f : Nat → Int32} (x1 : Int32) (x2 : Int32) (x3 : Int32) (hN_X : zA ws0 21 (aX, .inr (7, [.int X_code, .int X_side, .ref aXpicture, .ref aXhalf, .int X_many, .ref aXblocks, .int X_found, .int X_encodedBits, .ref aXencoded, .int X_fedMany, .ref aXfed, .int X_readAt, .int X_why, .int X_tried, .int X_waiting, .ref aXpile, .int X_decoded, .ref aXnews, .ref aXolds, .ref aXhalves, .ref aXds, .ref aXrs, .ref aXbest, .long X_bestError]))) (hN_Xds : zA ws0 31 (aXds, .inl (cI, Xds_n, .inl Xds_f))) (hN_Xrs : zA ws0 32 (aXrs, .inl (cI, Xrs_n, .inl Xrs_f))) (hN_Xbest : zA ws0 33 (aXbest, .inl (cI, Xbest_n, .inl Xbest_f))) (r : Int64 × (Nat → Int32)) (hf : f_M_tryOne x1 x2 x3 X_bestError Xds_n Xds_f Xrs_n Xrs_f Xbest_n Xbest_f = some r) : Met l y_M_tryOne w_M_tryOne rm_M_tryOne (va_Pc [.ref aX, .int x1, .int x2, .int x3] (zM dC dI cI cL ws0 sz)) (va_Qv (fun ws' : va_W => zA ws' 21 (aX, .inr (7, [.int X_code, .int X_side, .ref aXpicture, .ref aXhalf, .int X_many, .ref aXblocks, .int X_found, .int X_encodedBits, .ref aXencoded, .int X_fedMany, .ref aXfed, .int X_readAt, .int X_why, .int X_tried, .int X_waiting, .ref aXpile, .int X_decoded, .ref aXnews, .ref aXolds, .ref aXhalves, .ref aXds, .ref aXrs, .ref aXbest, .long r.1])) ∧ zA ws' 33 (aXbest, .inl (cI, Xbest_n, .inl r.2)) ∧ ∀ (j : Nat), j ∉ ([21, 33] : List Nat) → ws'[j]? = ws0[j]?) (zQ dC dI cI cL (va_A ws0 sz)) (va_A ws0 sz)) 0 0 (va_A ws0 sz) := by
  refine Met.ofW (cc := b_M_tryOne) (maxL := 27) (ret := none) (by decide) rfl ?_
  intro p e s m args below meth c s₁ B hml hv
  obtain ⟨rfl, hsz, hP, hK, hZ, hD0⟩ := hv
  have hx := B.exec
  have hb := B.bytes
  have hr := B.returns
  have hlocks := B.notSynchronized
  have hts : ∀ w ∈ BIG, w.before ([.ref aX, .int x1, .int x2, .int x3] : List Value).toArray s = true := fun w h => atoms_spec (ws := w_M_tryOne) B.pre w (List.mem_cons_of_mem _ h)
  have hown : s.vm.findClass "FractalMapsModel" = some m.cls := findClass_of_methodNamed B.named
  subst hsz
  have hD := hD0.self (sz := s.heap.size)
  generalize hAe : va_A ws0 s.heap.size = A at hD ⊢
  have hA : ∀ q : Nat, s.heap.size ≤ q → A q := fun q h => by rw [← hAe]; exact Or.inr h
  have hS : va_S A s.heap s.heap [] := va_S.rf
  have hw : ∀ (j : Nat), j ∉ ([21, 33] : List Nat) → ws0[j]? = ws0[j]? := fun _ _ => rfl
  have hl := lv_entry ([.ref aX, .int x1, .int x2, .int x3]) (n := 27) (Nat.le_of_ble_eq_true rfl)
  rw [lg_entry_eq]
  generalize (lg_sl ([.ref aX, .int x1, .int x2, .int x3]) ++ List.replicate (27 - (lg_sl ([.ref aX, .int x1, .int x2, .int x3])).length) Slot.unset).toArray = ls at hl ⊢
  have hl : lv_has ls 27 [(0, .ref aX), (1, .int x1), (2, .int x2), (3, .int x3)] := hl
  unfold f_M_tryOne at hf
  refine lv_iload_n hx hb d_M_tryOne_0 rfl (lv_at hl 1 rfl) ?_
  refine lv_iload_n hx hb d_M_tryOne_1 rfl (lv_at hl 1 rfl) ?_
  refine lv_imul hx hb d_M_tryOne_2 ?_
  refine lv_i2l hx hb d_M_tryOne_3 rfl ?_
  refine lv_lstore (lv' := [(4, .long ((x1 * x1).toInt64)), (0, .ref aX), (1, .int x1), (2, .int x2), (3, .int x3)]) hx hb d_M_tryOne_4 hl (by decide) rfl (fun ls hl => ?_)
  refine lv_lconst (v := 0) hx hb d_M_tryOne_6 (by decide) ?_
  refine lv_lstore (lv' := [(6, .long (0 : Int64)), (4, .long ((x1 * x1).toInt64)), (0, .ref aX), (1, .int x1), (2, .int x2), (3, .int x3)]) hx hb d_M_tryOne_7 hl (by decide) rfl (fun ls hl => ?_)
  refine lv_lconst (v := 0) hx hb d_M_tryOne_9 (by decide) ?_
  refine lv_lstore (lv' := [(8, .long (0 : Int64)), (6, .long (0 : Int64)), (4, .long ((x1 * x1).toInt64)), (0, .ref aX), (1, .int x1), (2, .int x2), (3, .int x3)]) hx hb d_M_tryOne_10 hl (by decide) rfl (fun ls hl => ?_)
  refine lv_lconst (v := 0) hx hb d_M_tryOne_12 (by decide) ?_
  refine lv_lstore (lv' := [(10, .long (0 : Int64)), (8, .long (0 : Int64)), (6, .long (0 : Int64)), (4, .long ((x1 * x1).toInt64)), (0, .ref aX), (1, .int x1), (2, .int x2), (3, .int x3)]) hx hb d_M_tryOne_13 hl (by decide) rfl (fun ls hl => ?_)
  refine lv_lconst (v := 0) hx hb d_M_tryOne_15 (by decide) ?_
  refine lv_lstore (lv' := [(12, .long (0 : Int64)), (10, .long (0 : Int64)), (8, .long (0 : Int64)), (6, .long (0 : Int64)), (4, .long ((x1 * x1).toInt64)), (0, .ref aX), (1, .int x1), (2, .int x2), (3, .int x3)]) hx hb d_M_tryOne_16 hl (by decide) rfl (fun ls hl => ?_)
  refine lv_iconst (v := 0) hx hb d_M_tryOne_18 (by decide) ?_
  refine lv_istore (lv' := [(14, .int (0 : Int32)), (12, .long (0 : Int64)), (10, .long (0 : Int64)), (8, .long (0 : Int64)), (6, .long (0 : Int64)), (4, .long ((x1 * x1).toInt64)), (0, .ref aX), (1, .int x1), (2, .int x2), (3, .int x3)]) hx hb d_M_tryOne_19 hl (by decide) rfl (fun ls hl => ?_)
  have lp971 : ∀ (Qx : State → Prop) (n : Nat) (v6_966 : Int64) (v8_967 : Int64) (v10_968 : Int64) (v12_969 : Int64) (v14_970 : Int32) (ls : Array Slot) (q : Int64 × Int64 × Int64 × Int64 × Int32) (hf : f_M_tryOne_21 x1 x2 x3 ((x1 * x1).toInt64) Xds_n Xds_f Xrs_n Xrs_f n v6_966 v8_967 v10_968 v12_969 v14_970 = some q) (hl : lv_has ls 27 [(0, .ref aX), (1, .int x1), (2, .int x2), (3, .int x3), (4, .long ((x1 * x1).toInt64)), (6, .long v6_966), (8, .long v8_967), (10, .long v10_968), (12, .long v12_969), (14, .int v14_970)]) (kt0 : ∀ (ls : Array Slot), lv_has ls 27 [(0, .ref aX), (1, .int x1), (2, .int x2), (3, .int x3), (4, .long ((x1 * x1).toInt64)), (6, .long q.1), (8, .long q.2.1), (10, .long q.2.2.1), (12, .long q.2.2.2.1), (14, .int q.2.2.2.2)] → W p l e (headSpec w_M_tryOne rm_M_tryOne).room s m ([.ref aX, .int x1, .int x2, .int x3] : List Value).toArray below meth c s.heap [] 0 0 Qx (F0 m 103 ls [])), W p l e (headSpec w_M_tryOne rm_M_tryOne).room s m ([.ref aX, .int x1, .int x2, .int x3] : List Value).toArray below meth c s.heap [] 0 0 Qx (F0 m 21 ls []) := by
    intro Qx n
    induction n with
    | zero => intro v6_966 v8_967 v10_968 v12_969 v14_970 ls q hf; cases hf
    | succ n ih =>
      intro v6_966 v8_967 v10_968 v12_969 v14_970 ls q hf hl kt0
      rw [f_M_tryOne_21] at hf
      refine lv_iload hx hb d_M_tryOne_21 (lv_at hl 9 rfl) ?_
      refine lv_iload_n hx hb d_M_tryOne_23 rfl (lv_at hl 1 rfl) ?_
      refine lv_iload_n hx hb d_M_tryOne_24 rfl (lv_at hl 1 rfl) ?_
      refine lv_imul hx hb d_M_tryOne_25 ?_
      refine lv_icmp_ge (tgt := 103) hx hb d_M_tryOne_26 (by decide) (fun hc => ?_) (fun hc => ?_)
      · have hf := z_t hc hf
        obtain rfl := Option.some.inj hf
        exact kt0 ls (lv_sub hl [0, 1, 2, 3, 4, 5, 6, 7, 8, 9] rfl)
      · have hf := z_f hc hf
        refine lv_lload hx hb d_M_tryOne_29 (lv_at hl 5 rfl) ?_
        refine lv_aload_n hx hb d_M_tryOne_31 rfl (lv_at hl 0 rfl) ?_
        refine gf_M_37 (v := .ref aXds) hx hb hts hown hK hP hN_X rfl d_M_tryOne_32 ?_
        refine lv_iload hx hb d_M_tryOne_35 (lv_at hl 9 rfl) ?_
        obtain ⟨hin, hf⟩ := z_no hf
        refine va_iald hx hb hK hP _ 0 hN_Xds rfl hin d_M_tryOne_37 ?_
        refine lv_i2l hx hb d_M_tryOne_38 rfl ?_
        refine lv_ladd hx hb d_M_tryOne_39 ?_
        refine lv_lstore (lv' := [(6, .long (v6_966 + (Xds_f v14_970.toNatClampNeg).toInt64)), (0, .ref aX), (1, .int x1), (2, .int x2), (3, .int x3), (4, .long ((x1 * x1).toInt64)), (8, .long v8_967), (10, .long v10_968), (12, .long v12_969), (14, .int v14_970)]) hx hb d_M_tryOne_40 hl (by decide) rfl (fun ls hl => ?_)
        refine lv_lload hx hb d_M_tryOne_42 (lv_at hl 6 rfl) ?_
        refine lv_aload_n hx hb d_M_tryOne_44 rfl (lv_at hl 1 rfl) ?_
        refine gf_M_40 (v := .ref aXrs) hx hb hts hown hK hP hN_X rfl d_M_tryOne_45 ?_
        refine lv_iload hx hb d_M_tryOne_48 (lv_at hl 9 rfl) ?_
        obtain ⟨hin, hf⟩ := z_no hf
        refine va_iald hx hb hK hP _ 0 hN_Xrs rfl hin d_M_tryOne_50 ?_
        refine lv_i2l hx hb d_M_tryOne_51 rfl ?_
        refine lv_ladd hx hb d_M_tryOne_52 ?_
        refine lv_lstore (lv' := [(8, .long (v8_967 + (Xrs_f v14_970.toNatClampNeg).toInt64)), (6, .long (v6_966 + (Xds_f v14_970.toNatClampNeg).toInt64)), (0, .ref aX), (1, .int x1), (2, .int x2), (3, .int x3), (4, .long ((x1 * x1).toInt64)), (10, .long v10_968), (12, .long v12_969), (14, .int v14_970)]) hx hb d_M_tryOne_53 hl (by decide) rfl (fun ls hl => ?_)
        refine lv_lload hx hb d_M_tryOne_55 (lv_at hl 7 rfl) ?_
        refine lv_aload_n hx hb d_M_tryOne_57 rfl (lv_at hl 2 rfl) ?_
        refine gf_M_37 (v := .ref aXds) hx hb hts hown hK hP hN_X rfl d_M_tryOne_58 ?_
        refine lv_iload hx hb d_M_tryOne_61 (lv_at hl 9 rfl) ?_
        obtain ⟨hin, hf⟩ := z_no hf
        refine va_iald hx hb hK hP _ 0 hN_Xds rfl hin d_M_tryOne_63 ?_
        refine lv_aload_n hx hb d_M_tryOne_64 rfl (lv_at hl 2 rfl) ?_
        refine gf_M_40 (v := .ref aXrs) hx hb hts hown hK hP hN_X rfl d_M_tryOne_65 ?_
        refine lv_iload hx hb d_M_tryOne_68 (lv_at hl 9 rfl) ?_
        obtain ⟨hin, hf⟩ := z_no hf
        refine va_iald hx hb hK hP _ 0 hN_Xrs rfl hin d_M_tryOne_70 ?_
        refine lv_imul hx hb d_M_tryOne_71 ?_
        refine lv_i2l hx hb d_M_tryOne_72 rfl ?_
        refine lv_ladd hx hb d_M_tryOne_73 ?_
        refine lv_lstore (lv' := [(10, .long (v10_968 + ((Xds_f v14_970.toNatClampNeg) * (Xrs_f v14_970.toNatClampNeg)).toInt64)), (8, .long (v8_967 + (Xrs_f v14_970.toNatClampNeg).toInt64)), (6, .long (v6_966 + (Xds_f v14_970.toNatClampNeg).toInt64)), (0, .ref aX), (1, .int x1), (2, .int x2), (3, .int x3), (4, .long ((x1 * x1).toInt64)), (12, .long v12_969), (14, .int v14_970)]) hx hb d_M_tryOne_74 hl (by decide) rfl (fun ls hl => ?_)
        refine lv_lload hx hb d_M_tryOne_76 (lv_at hl 8 rfl) ?_
        refine lv_aload_n hx hb d_M_tryOne_78 rfl (lv_at hl 3 rfl) ?_
        refine gf_M_37 (v := .ref aXds) hx hb hts hown hK hP hN_X rfl d_M_tryOne_79 ?_
        refine lv_iload hx hb d_M_tryOne_82 (lv_at hl 9 rfl) ?_
        obtain ⟨hin, hf⟩ := z_no hf
        refine va_iald hx hb hK hP _ 0 hN_Xds rfl hin d_M_tryOne_84 ?_
        refine lv_aload_n hx hb d_M_tryOne_85 rfl (lv_at hl 3 rfl) ?_
        refine gf_M_37 (v := .ref aXds) hx hb hts hown hK hP hN_X rfl d_M_tryOne_86 ?_
        refine lv_iload hx hb d_M_tryOne_89 (lv_at hl 9 rfl) ?_
        obtain ⟨hin, hf⟩ := z_no hf
        refine va_iald hx hb hK hP _ 0 hN_Xds rfl hin d_M_tryOne_91 ?_
        refine lv_imul hx hb d_M_tryOne_92 ?_
        refine lv_i2l hx hb d_M_tryOne_93 rfl ?_
        refine lv_ladd hx hb d_M_tryOne_94 ?_
        refine lv_lstore (lv' := [(12, .long (v12_969 + ((Xds_f v14_970.toNatClampNeg) * (Xds_f v14_970.toNatClampNeg)).toInt64)), (10, .long (v10_968 + ((Xds_f v14_970.toNatClampNeg) * (Xrs_f v14_970.toNatClampNeg)).toInt64)), (8, .long (v8_967 + (Xrs_f v14_970.toNatClampNeg).toInt64)), (6, .long (v6_966 + (Xds_f v14_970.toNatClampNeg).toInt64)), (0, .ref aX), (1, .int x1), (2, .int x2), (3, .int x3), (4, .long ((x1 * x1).toInt64)), (14, .int v14_970)]) hx hb d_M_tryOne_95 hl (by decide) rfl (fun ls hl => ?_)
        refine lv_iinc (v := (v14_970 + 1)) (lv' := [(14, .int (v14_970 + 1)), (12, .long (v12_969 + ((Xds_f v14_970.toNatClampNeg) * (Xds_f v14_970.toNatClampNeg)).toInt64)), (10, .long (v10_968 + ((Xds_f v14_970.toNatClampNeg) * (Xrs_f v14_970.toNatClampNeg)).toInt64)), (8, .long (v8_967 + (Xrs_f v14_970.toNatClampNeg).toInt64)), (6, .long (v6_966 + (Xds_f v14_970.toNatClampNeg).toInt64)), (0, .ref aX), (1, .int x1), (2, .int x2), (3, .int x3), (4, .long ((x1 * x1).toInt64))]) hx hb d_M_tryOne_97 hl (k := 9) rfl rfl (by decide) rfl (fun ls hl => ?_)
        refine lv_goto (tgt := 21) hx hb d_M_tryOne_100 (by decide) ?_
        exact ih (v6_966 + (Xds_f v14_970.toNatClampNeg).toInt64) (v8_967 + (Xrs_f v14_970.toNatClampNeg).toInt64) (v10_968 + ((Xds_f v14_970.toNatClampNeg) * (Xrs_f v14_970.toNatClampNeg)).toInt64) (v12_969 + ((Xds_f v14_970.toNatClampNeg) * (Xds_f v14_970.toNatClampNeg)).toInt64) (v14_970 + 1) ls _ hf (lv_sub hl [5, 6, 7, 8, 9, 4, 3, 2, 1, 0] rfl) kt0
  obtain ⟨q965, hc, hf⟩ := z_b hf
  refine lp971 _ FU (0 : Int64) (0 : Int64) (0 : Int64) (0 : Int64) (0 : Int32) ls q965 hc (lv_sub hl [6, 7, 8, 9, 5, 4, 3, 2, 1, 0] rfl) (fun ls hl => ?_)
  refine lv_lload hx hb d_M_tryOne_103 (lv_at hl 4 rfl) ?_
  refine lv_lload hx hb d_M_tryOne_105 (lv_at hl 7 rfl) ?_
  refine lv_lmul hx hb d_M_tryOne_107 ?_
  refine lv_lload hx hb d_M_tryOne_108 (lv_at hl 5 rfl) ?_
  refine lv_lload hx hb d_M_tryOne_110 (lv_at hl 6 rfl) ?_
  refine lv_lmul hx hb d_M_tryOne_112 ?_
  refine lv_lsub hx hb d_M_tryOne_113 ?_
  refine lv_lstore (lv' := [(14, .long (((x1 * x1).toInt64 * q965.2.2.1) - (q965.1 * q965.2.1))), (0, .ref aX), (1, .int x1), (2, .int x2), (3, .int x3), (4, .long ((x1 * x1).toInt64)), (6, .long q965.1), (8, .long q965.2.1), (10, .long q965.2.2.1), (12, .long q965.2.2.2.1)]) hx hb d_M_tryOne_114 hl (by decide) rfl (fun ls hl => ?_)
  refine lv_lload hx hb d_M_tryOne_116 (lv_at hl 5 rfl) ?_
  refine lv_lload hx hb d_M_tryOne_118 (lv_at hl 9 rfl) ?_
  refine lv_lmul hx hb d_M_tryOne_120 ?_
  refine lv_lload hx hb d_M_tryOne_121 (lv_at hl 6 rfl) ?_
  refine lv_lload hx hb d_M_tryOne_123 (lv_at hl 6 rfl) ?_
  refine lv_lmul hx hb d_M_tryOne_125 ?_
  refine lv_lsub hx hb d_M_tryOne_126 ?_
  refine lv_lstore (lv' := [(16, .long (((x1 * x1).toInt64 * q965.2.2.2.1) - (q965.1 * q965.1))), (14, .long (((x1 * x1).toInt64 * q965.2.2.1) - (q965.1 * q965.2.1))), (0, .ref aX), (1, .int x1), (2, .int x2), (3, .int x3), (4, .long ((x1 * x1).toInt64)), (6, .long q965.1), (8, .long q965.2.1), (10, .long q965.2.2.1), (12, .long q965.2.2.2.1)]) hx hb d_M_tryOne_127 hl (by decide) rfl (fun ls hl => ?_)
  refine lv_lload hx hb d_M_tryOne_129 (lv_at hl 0 rfl) ?_
  refine lv_lconst (v := 0) hx hb d_M_tryOne_131 (by decide) ?_
  refine W.lcmp hx hb d_M_tryOne_132 ?_
  have jp158_985 : ∀ (s0_984 : Int32) (ls : Array Slot) (hf : f_M_tryOne_J158 x1 x2 x3 ((x1 * x1).toInt64) q965.1 q965.2.1 q965.2.2.1 q965.2.2.2.1 (((x1 * x1).toInt64 * q965.2.2.1) - (q965.1 * q965.2.1)) (((x1 * x1).toInt64 * q965.2.2.2.1) - (q965.1 * q965.1)) X_bestError Xds_n Xds_f Xrs_n Xrs_f Xbest_n Xbest_f s0_984 = some r) (hl : lv_has ls 27 [(0, .ref aX), (1, .int x1), (2, .int x2), (3, .int x3), (4, .long ((x1 * x1).toInt64)), (6, .long q965.1), (8, .long q965.2.1), (10, .long q965.2.2.1), (12, .long q965.2.2.2.1), (14, .long (((x1 * x1).toInt64 * q965.2.2.1) - (q965.1 * q965.2.1))), (16, .long (((x1 * x1).toInt64 * q965.2.2.2.1) - (q965.1 * q965.1)))]), W p l e (headSpec w_M_tryOne rm_M_tryOne).room s m ([.ref aX, .int x1, .int x2, .int x3] : List Value).toArray below meth c s.heap [] 0 0 (MQ below (va_Qv (fun ws' : va_W => zA ws' 21 (aX, .inr (7, [.int X_code, .int X_side, .ref aXpicture, .ref aXhalf, .int X_many, .ref aXblocks, .int X_found, .int X_encodedBits, .ref aXencoded, .int X_fedMany, .ref aXfed, .int X_readAt, .int X_why, .int X_tried, .int X_waiting, .ref aXpile, .int X_decoded, .ref aXnews, .ref aXolds, .ref aXhalves, .ref aXds, .ref aXrs, .ref aXbest, .long r.1])) ∧ zA ws' 33 (aXbest, .inl (cI, Xbest_n, .inl r.2)) ∧ ∀ (j : Nat), j ∉ ([21, 33] : List Nat) → ws'[j]? = ws0[j]?) (zQ dC dI cI cL A) A) ([.ref aX, .int x1, .int x2, .int x3] : List Value).toArray s 0 0 A) (F0 m 158 ls [.int s0_984]) := by
    intro s0_984 ls hf hl
    unfold f_M_tryOne_J158 at hf
    refine lv_istore (lv' := [(18, .int s0_984), (0, .ref aX), (1, .int x1), (2, .int x2), (3, .int x3), (4, .long ((x1 * x1).toInt64)), (6, .long q965.1), (8, .long q965.2.1), (10, .long q965.2.2.1), (12, .long q965.2.2.2.1), (14, .long (((x1 * x1).toInt64 * q965.2.2.1) - (q965.1 * q965.2.1))), (16, .long (((x1 * x1).toInt64 * q965.2.2.2.1) - (q965.1 * q965.1)))]) hx hb d_M_tryOne_158 hl (by decide) rfl (fun ls hl => ?_)
    refine lv_lload hx hb d_M_tryOne_160 (lv_at hl 7 rfl) ?_
    refine lv_lstore (lv' := [(19, .long q965.2.1), (18, .int s0_984), (0, .ref aX), (1, .int x1), (2, .int x2), (3, .int x3), (4, .long ((x1 * x1).toInt64)), (6, .long q965.1), (8, .long q965.2.1), (10, .long q965.2.2.1), (12, .long q965.2.2.2.1), (14, .long (((x1 * x1).toInt64 * q965.2.2.1) - (q965.1 * q965.2.1))), (16, .long (((x1 * x1).toInt64 * q965.2.2.2.1) - (q965.1 * q965.1)))]) hx hb d_M_tryOne_162 hl (by decide) rfl (fun ls hl => ?_)
    refine lv_iconst (v := 0) hx hb d_M_tryOne_164 (by decide) ?_
    refine lv_istore (lv' := [(21, .int (0 : Int32)), (19, .long q965.2.1), (18, .int s0_984), (0, .ref aX), (1, .int x1), (2, .int x2), (3, .int x3), (4, .long ((x1 * x1).toInt64)), (6, .long q965.1), (8, .long q965.2.1), (10, .long q965.2.2.1), (12, .long q965.2.2.2.1), (14, .long (((x1 * x1).toInt64 * q965.2.2.1) - (q965.1 * q965.2.1))), (16, .long (((x1 * x1).toInt64 * q965.2.2.2.1) - (q965.1 * q965.1)))]) hx hb d_M_tryOne_165 hl (by decide) rfl (fun ls hl => ?_)
    have lp989 : ∀ (Qx : State → Prop) (n : Nat) (v19_987 : Int64) (v21_988 : Int32) (ls : Array Slot) (q : Int64 × Int32) (hf : f_M_tryOne_167 x1 x2 x3 ((x1 * x1).toInt64) q965.1 q965.2.1 q965.2.2.1 q965.2.2.2.1 (((x1 * x1).toInt64 * q965.2.2.1) - (q965.1 * q965.2.1)) (((x1 * x1).toInt64 * q965.2.2.2.1) - (q965.1 * q965.1)) s0_984 Xds_n Xds_f n v19_987 v21_988 = some q) (hl : lv_has ls 27 [(0, .ref aX), (1, .int x1), (2, .int x2), (3, .int x3), (4, .long ((x1 * x1).toInt64)), (6, .long q965.1), (8, .long q965.2.1), (10, .long q965.2.2.1), (12, .long q965.2.2.2.1), (14, .long (((x1 * x1).toInt64 * q965.2.2.1) - (q965.1 * q965.2.1))), (16, .long (((x1 * x1).toInt64 * q965.2.2.2.1) - (q965.1 * q965.1))), (18, .int s0_984), (19, .long v19_987), (21, .int v21_988)]) (kt0 : ∀ (ls : Array Slot), lv_has ls 27 [(0, .ref aX), (1, .int x1), (2, .int x2), (3, .int x3), (4, .long ((x1 * x1).toInt64)), (6, .long q965.1), (8, .long q965.2.1), (10, .long q965.2.2.1), (12, .long q965.2.2.2.1), (14, .long (((x1 * x1).toInt64 * q965.2.2.1) - (q965.1 * q965.2.1))), (16, .long (((x1 * x1).toInt64 * q965.2.2.2.1) - (q965.1 * q965.1))), (18, .int s0_984), (19, .long q.1), (21, .int q.2)] → W p l e (headSpec w_M_tryOne rm_M_tryOne).room s m ([.ref aX, .int x1, .int x2, .int x3] : List Value).toArray below meth c s.heap [] 0 0 Qx (F0 m 199 ls [])), W p l e (headSpec w_M_tryOne rm_M_tryOne).room s m ([.ref aX, .int x1, .int x2, .int x3] : List Value).toArray below meth c s.heap [] 0 0 Qx (F0 m 167 ls []) := by
      intro Qx n
      induction n with
      | zero => intro v19_987 v21_988 ls q hf; cases hf
      | succ n ih =>
        intro v19_987 v21_988 ls q hf hl kt0
        rw [f_M_tryOne_167] at hf
        refine lv_iload hx hb d_M_tryOne_167 (lv_at hl 13 rfl) ?_
        refine lv_iload_n hx hb d_M_tryOne_169 rfl (lv_at hl 1 rfl) ?_
        refine lv_iload_n hx hb d_M_tryOne_170 rfl (lv_at hl 1 rfl) ?_
        refine lv_imul hx hb d_M_tryOne_171 ?_
        refine lv_icmp_ge (tgt := 199) hx hb d_M_tryOne_172 (by decide) (fun hc => ?_) (fun hc => ?_)
        · have hf := z_t hc hf
          obtain rfl := Option.some.inj hf
          exact kt0 ls (lv_sub hl [0, 1, 2, 3, 4, 5, 6, 7, 8, 9, 10, 11, 12, 13] rfl)
        · have hf := z_f hc hf
          refine lv_lload hx hb d_M_tryOne_175 (lv_at hl 12 rfl) ?_
          refine lv_iload hx hb d_M_tryOne_177 (lv_at hl 11 rfl) ?_
          refine lv_aload_n hx hb d_M_tryOne_179 rfl (lv_at hl 0 rfl) ?_
          refine gf_M_37 (v := .ref aXds) hx hb hts hown hK hP hN_X rfl d_M_tryOne_180 ?_
          refine lv_iload hx hb d_M_tryOne_183 (lv_at hl 13 rfl) ?_
          obtain ⟨hin, hf⟩ := z_no hf
          refine va_iald hx hb hK hP _ 0 hN_Xds rfl hin d_M_tryOne_185 ?_
          obtain ⟨q990, hc, hf⟩ := z_b hf
          refine vp_callSi (z_cr (va_runS (As := [.int s0_984, .int (Xds_f v21_988.toNatClampNeg)]) (rest := [.long v19_987]) ⟨hx, hb, hml, hown, hts⟩ (c_M_mapped l s0_984 (Xds_f v21_988.toNatClampNeg) q990 hc) (cw_M_87 hts ⟨Nat.le_of_ble_eq_true rfl, Nat.le_of_ble_eq_true rfl⟩) ⟨zb0, zp0⟩ rfl rfl hl.1 rfl (lv_room (Nat.le_of_ble_eq_true rfl)) d_M_tryOne_186 ⟨Nat.zero_le _, Nat.zero_le _⟩)) (fun r991 hv => ?_)
          have hv := hv.symm
          subst hv
          refine lv_i2l hx hb d_M_tryOne_189 rfl ?_
          refine lv_lsub hx hb d_M_tryOne_190 ?_
          refine lv_lstore (lv' := [(19, .long (v19_987 - q990.toInt64)), (0, .ref aX), (1, .int x1), (2, .int x2), (3, .int x3), (4, .long ((x1 * x1).toInt64)), (6, .long q965.1), (8, .long q965.2.1), (10, .long q965.2.2.1), (12, .long q965.2.2.2.1), (14, .long (((x1 * x1).toInt64 * q965.2.2.1) - (q965.1 * q965.2.1))), (16, .long (((x1 * x1).toInt64 * q965.2.2.2.1) - (q965.1 * q965.1))), (18, .int s0_984), (21, .int v21_988)]) hx hb d_M_tryOne_191 hl (by decide) rfl (fun ls hl => ?_)
          refine lv_iinc (v := (v21_988 + 1)) (lv' := [(21, .int (v21_988 + 1)), (19, .long (v19_987 - q990.toInt64)), (0, .ref aX), (1, .int x1), (2, .int x2), (3, .int x3), (4, .long ((x1 * x1).toInt64)), (6, .long q965.1), (8, .long q965.2.1), (10, .long q965.2.2.1), (12, .long q965.2.2.2.1), (14, .long (((x1 * x1).toInt64 * q965.2.2.1) - (q965.1 * q965.2.1))), (16, .long (((x1 * x1).toInt64 * q965.2.2.2.1) - (q965.1 * q965.1))), (18, .int s0_984)]) hx hb d_M_tryOne_193 hl (k := 13) rfl rfl (by decide) rfl (fun ls hl => ?_)
          refine lv_goto (tgt := 167) hx hb d_M_tryOne_196 (by decide) ?_
          exact ih (v19_987 - q990.toInt64) (v21_988 + 1) ls _ hf (lv_sub hl [2, 3, 4, 5, 6, 7, 8, 9, 10, 11, 12, 13, 1, 0] rfl) kt0
    obtain ⟨q986, hc, hf⟩ := z_b hf
    refine lp989 _ FU q965.2.1 (0 : Int32) ls q986 hc (lv_sub hl [3, 4, 5, 6, 7, 8, 9, 10, 11, 12, 13, 2, 1, 0] rfl) (fun ls hl => ?_)
    refine lv_lload hx hb d_M_tryOne_199 (lv_at hl 12 rfl) ?_
    refine lv_lload hx hb d_M_tryOne_201 (lv_at hl 4 rfl) ?_
    obtain ⟨q992, hc, hf⟩ := z_b hf
    refine vp_callSl (z_cr (va_runS (As := [.long q986.1, .long ((x1 * x1).toInt64)]) (rest := []) ⟨hx, hb, hml, hown, hts⟩ (c_M_nearest l q986.1 ((x1 * x1).toInt64) q992 hc) (cw_M_83 hts ⟨Nat.le_of_ble_eq_true rfl, Nat.le_of_ble_eq_true rfl⟩) ⟨zb0, zp0⟩ rfl rfl hl.1 rfl (lv_room (Nat.le_of_ble_eq_true rfl)) d_M_tryOne_203 ⟨Nat.zero_le _, Nat.zero_le _⟩)) (fun r993 hv => ?_)
    have hv := hv.symm
    subst hv
    refine lv_l2i hx hb d_M_tryOne_206 rfl ?_
    refine lv_istore (lv' := [(21, .int q992.toInt32), (0, .ref aX), (1, .int x1), (2, .int x2), (3, .int x3), (4, .long ((x1 * x1).toInt64)), (6, .long q965.1), (8, .long q965.2.1), (10, .long q965.2.2.1), (12, .long q965.2.2.2.1), (14, .long (((x1 * x1).toInt64 * q965.2.2.1) - (q965.1 * q965.2.1))), (16, .long (((x1 * x1).toInt64 * q965.2.2.2.1) - (q965.1 * q965.1))), (18, .int s0_984), (19, .long q986.1)]) hx hb d_M_tryOne_207 hl (by decide) rfl (fun ls hl => ?_)
    refine lv_lconst (v := 0) hx hb d_M_tryOne_209 (by decide) ?_
    refine lv_lstore (lv' := [(22, .long (0 : Int64)), (21, .int q992.toInt32), (0, .ref aX), (1, .int x1), (2, .int x2), (3, .int x3), (4, .long ((x1 * x1).toInt64)), (6, .long q965.1), (8, .long q965.2.1), (10, .long q965.2.2.1), (12, .long q965.2.2.2.1), (14, .long (((x1 * x1).toInt64 * q965.2.2.1) - (q965.1 * q965.2.1))), (16, .long (((x1 * x1).toInt64 * q965.2.2.2.1) - (q965.1 * q965.1))), (18, .int s0_984), (19, .long q986.1)]) hx hb d_M_tryOne_210 hl (by decide) rfl (fun ls hl => ?_)
    refine lv_iconst (v := 0) hx hb d_M_tryOne_212 (by decide) ?_
    refine lv_istore (lv' := [(24, .int (0 : Int32)), (22, .long (0 : Int64)), (21, .int q992.toInt32), (0, .ref aX), (1, .int x1), (2, .int x2), (3, .int x3), (4, .long ((x1 * x1).toInt64)), (6, .long q965.1), (8, .long q965.2.1), (10, .long q965.2.2.1), (12, .long q965.2.2.2.1), (14, .long (((x1 * x1).toInt64 * q965.2.2.1) - (q965.1 * q965.2.1))), (16, .long (((x1 * x1).toInt64 * q965.2.2.2.1) - (q965.1 * q965.1))), (18, .int s0_984), (19, .long q986.1)]) hx hb d_M_tryOne_213 hl (by decide) rfl (fun ls hl => ?_)
    have lp997 : ∀ (Qx : State → Prop) (n : Nat) (v22_995 : Int64) (v24_996 : Int32) (ls : Array Slot) (q : Int64 × Int32) (hf : f_M_tryOne_215 x1 x2 x3 ((x1 * x1).toInt64) q965.1 q965.2.1 q965.2.2.1 q965.2.2.2.1 (((x1 * x1).toInt64 * q965.2.2.1) - (q965.1 * q965.2.1)) (((x1 * x1).toInt64 * q965.2.2.2.1) - (q965.1 * q965.1)) s0_984 q986.1 q992.toInt32 Xds_n Xds_f Xrs_n Xrs_f n v22_995 v24_996 = some q) (hl : lv_has ls 27 [(0, .ref aX), (1, .int x1), (2, .int x2), (3, .int x3), (4, .long ((x1 * x1).toInt64)), (6, .long q965.1), (8, .long q965.2.1), (10, .long q965.2.2.1), (12, .long q965.2.2.2.1), (14, .long (((x1 * x1).toInt64 * q965.2.2.1) - (q965.1 * q965.2.1))), (16, .long (((x1 * x1).toInt64 * q965.2.2.2.1) - (q965.1 * q965.1))), (18, .int s0_984), (19, .long q986.1), (21, .int q992.toInt32), (22, .long v22_995), (24, .int v24_996)]) (kt0 : ∀ (ls : Array Slot), lv_has ls 27 [(0, .ref aX), (1, .int x1), (2, .int x2), (3, .int x3), (4, .long ((x1 * x1).toInt64)), (6, .long q965.1), (8, .long q965.2.1), (10, .long q965.2.2.1), (12, .long q965.2.2.2.1), (14, .long (((x1 * x1).toInt64 * q965.2.2.1) - (q965.1 * q965.2.1))), (16, .long (((x1 * x1).toInt64 * q965.2.2.2.1) - (q965.1 * q965.1))), (18, .int s0_984), (19, .long q986.1), (21, .int q992.toInt32), (22, .long q.1), (24, .int q.2)] → W p l e (headSpec w_M_tryOne rm_M_tryOne).room s m ([.ref aX, .int x1, .int x2, .int x3] : List Value).toArray below meth c s.heap [] 0 0 Qx (F0 m 265 ls [])), W p l e (headSpec w_M_tryOne rm_M_tryOne).room s m ([.ref aX, .int x1, .int x2, .int x3] : List Value).toArray below meth c s.heap [] 0 0 Qx (F0 m 215 ls []) := by
      intro Qx n
      induction n with
      | zero => intro v22_995 v24_996 ls q hf; cases hf
      | succ n ih =>
        intro v22_995 v24_996 ls q hf hl kt0
        rw [f_M_tryOne_215] at hf
        refine lv_iload hx hb d_M_tryOne_215 (lv_at hl 15 rfl) ?_
        refine lv_iload_n hx hb d_M_tryOne_217 rfl (lv_at hl 1 rfl) ?_
        refine lv_iload_n hx hb d_M_tryOne_218 rfl (lv_at hl 1 rfl) ?_
        refine lv_imul hx hb d_M_tryOne_219 ?_
        refine lv_icmp_ge (tgt := 265) hx hb d_M_tryOne_220 (by decide) (fun hc => ?_) (fun hc => ?_)
        · have hf := z_t hc hf
          obtain rfl := Option.some.inj hf
          exact kt0 ls (lv_sub hl [0, 1, 2, 3, 4, 5, 6, 7, 8, 9, 10, 11, 12, 13, 14, 15] rfl)
        · have hf := z_f hc hf
          refine lv_aload_n hx hb d_M_tryOne_223 rfl (lv_at hl 0 rfl) ?_
          refine gf_M_40 (v := .ref aXrs) hx hb hts hown hK hP hN_X rfl d_M_tryOne_224 ?_
          refine lv_iload hx hb d_M_tryOne_227 (lv_at hl 15 rfl) ?_
          obtain ⟨hin, hf⟩ := z_no hf
          refine va_iald hx hb hK hP _ 0 hN_Xrs rfl hin d_M_tryOne_229 ?_
          refine lv_iload hx hb d_M_tryOne_230 (lv_at hl 11 rfl) ?_
          refine lv_aload_n hx hb d_M_tryOne_232 rfl (lv_at hl 0 rfl) ?_
          refine gf_M_37 (v := .ref aXds) hx hb hts hown hK hP hN_X rfl d_M_tryOne_233 ?_
          refine lv_iload hx hb d_M_tryOne_236 (lv_at hl 15 rfl) ?_
          obtain ⟨hin, hf⟩ := z_no hf
          refine va_iald hx hb hK hP _ 0 hN_Xds rfl hin d_M_tryOne_238 ?_
          obtain ⟨q998, hc, hf⟩ := z_b hf
          refine vp_callSi (z_cr (va_runS (As := [.int s0_984, .int (Xds_f v24_996.toNatClampNeg)]) (rest := [.int (Xrs_f v24_996.toNatClampNeg)]) ⟨hx, hb, hml, hown, hts⟩ (c_M_mapped l s0_984 (Xds_f v24_996.toNatClampNeg) q998 hc) (cw_M_87 hts ⟨Nat.le_of_ble_eq_true rfl, Nat.le_of_ble_eq_true rfl⟩) ⟨zb0, zp0⟩ rfl rfl hl.1 rfl (lv_room (Nat.le_of_ble_eq_true rfl)) d_M_tryOne_239 ⟨Nat.zero_le _, Nat.zero_le _⟩)) (fun r999 hv => ?_)
          have hv := hv.symm
          subst hv
          refine lv_isub hx hb d_M_tryOne_242 ?_
          refine lv_iload hx hb d_M_tryOne_243 (lv_at hl 13 rfl) ?_
          refine lv_isub hx hb d_M_tryOne_245 ?_
          refine lv_i2l hx hb d_M_tryOne_246 rfl ?_
          refine lv_lstore (lv' := [(25, .long ((((Xrs_f v24_996.toNatClampNeg) - q998) - q992.toInt32).toInt64)), (0, .ref aX), (1, .int x1), (2, .int x2), (3, .int x3), (4, .long ((x1 * x1).toInt64)), (6, .long q965.1), (8, .long q965.2.1), (10, .long q965.2.2.1), (12, .long q965.2.2.2.1), (14, .long (((x1 * x1).toInt64 * q965.2.2.1) - (q965.1 * q965.2.1))), (16, .long (((x1 * x1).toInt64 * q965.2.2.2.1) - (q965.1 * q965.1))), (18, .int s0_984), (19, .long q986.1), (21, .int q992.toInt32), (22, .long v22_995), (24, .int v24_996)]) hx hb d_M_tryOne_247 hl (by decide) rfl (fun ls hl => ?_)
          refine lv_lload hx hb d_M_tryOne_249 (lv_at hl 15 rfl) ?_
          refine lv_lload hx hb d_M_tryOne_251 (lv_at hl 0 rfl) ?_
          refine lv_lload hx hb d_M_tryOne_253 (lv_at hl 0 rfl) ?_
          refine lv_lmul hx hb d_M_tryOne_255 ?_
          refine lv_ladd hx hb d_M_tryOne_256 ?_
          refine lv_lstore (lv' := [(22, .long (v22_995 + ((((Xrs_f v24_996.toNatClampNeg) - q998) - q992.toInt32).toInt64 * (((Xrs_f v24_996.toNatClampNeg) - q998) - q992.toInt32).toInt64))), (25, .long ((((Xrs_f v24_996.toNatClampNeg) - q998) - q992.toInt32).toInt64)), (0, .ref aX), (1, .int x1), (2, .int x2), (3, .int x3), (4, .long ((x1 * x1).toInt64)), (6, .long q965.1), (8, .long q965.2.1), (10, .long q965.2.2.1), (12, .long q965.2.2.2.1), (14, .long (((x1 * x1).toInt64 * q965.2.2.1) - (q965.1 * q965.2.1))), (16, .long (((x1 * x1).toInt64 * q965.2.2.2.1) - (q965.1 * q965.1))), (18, .int s0_984), (19, .long q986.1), (21, .int q992.toInt32), (24, .int v24_996)]) hx hb d_M_tryOne_257 hl (by decide) rfl (fun ls hl => ?_)
          refine lv_iinc (v := (v24_996 + 1)) (lv' := [(24, .int (v24_996 + 1)), (22, .long (v22_995 + ((((Xrs_f v24_996.toNatClampNeg) - q998) - q992.toInt32).toInt64 * (((Xrs_f v24_996.toNatClampNeg) - q998) - q992.toInt32).toInt64))), (25, .long ((((Xrs_f v24_996.toNatClampNeg) - q998) - q992.toInt32).toInt64)), (0, .ref aX), (1, .int x1), (2, .int x2), (3, .int x3), (4, .long ((x1 * x1).toInt64)), (6, .long q965.1), (8, .long q965.2.1), (10, .long q965.2.2.1), (12, .long q965.2.2.2.1), (14, .long (((x1 * x1).toInt64 * q965.2.2.1) - (q965.1 * q965.2.1))), (16, .long (((x1 * x1).toInt64 * q965.2.2.2.1) - (q965.1 * q965.1))), (18, .int s0_984), (19, .long q986.1), (21, .int q992.toInt32)]) hx hb d_M_tryOne_259 hl (k := 16) rfl rfl (by decide) rfl (fun ls hl => ?_)
          refine lv_goto (tgt := 215) hx hb d_M_tryOne_262 (by decide) ?_
          exact ih (v22_995 + ((((Xrs_f v24_996.toNatClampNeg) - q998) - q992.toInt32).toInt64 * (((Xrs_f v24_996.toNatClampNeg) - q998) - q992.toInt32).toInt64)) (v24_996 + 1) ls _ hf (lv_sub hl [3, 4, 5, 6, 7, 8, 9, 10, 11, 12, 13, 14, 15, 16, 1, 0] rfl) kt0
    obtain ⟨q994, hc, hf⟩ := z_b hf
    refine lp997 _ FU (0 : Int64) (0 : Int32) ls q994 hc (lv_sub hl [3, 4, 5, 6, 7, 8, 9, 10, 11, 12, 13, 14, 15, 2, 1, 0] rfl) (fun ls hl => ?_)
    refine lv_aload_n hx hb d_M_tryOne_265 rfl (lv_at hl 0 rfl) ?_
    refine gf_M_91 (v := .long X_bestError) hx hb hts hown hK hP hN_X rfl d_M_tryOne_266 ?_
    refine lv_lconst (v := 0) hx hb d_M_tryOne_269 (by decide) ?_
    refine W.lcmp hx hb d_M_tryOne_270 ?_
    refine lv_if_lt (tgt := 284) hx hb d_M_tryOne_271 (by decide) (fun hc => ?_) (fun hc => ?_)
    · have hf := z_t hc hf
      refine lv_aload_n hx hb d_M_tryOne_284 rfl (lv_at hl 0 rfl) ?_
      refine lv_lload hx hb d_M_tryOne_285 (lv_at hl 14 rfl) ?_
      refine pf_M_91 (v := .long q994.1) hx hb hts hown hK hP hD hS hN_X rfl rfl (Nat.le_of_ble_eq_true rfl) d_M_tryOne_287 (fun ws H locs hP hD hS hN_X hfr => ?_)
      have hN_X : zA ws 21 (aX, .inr (7, [.int X_code, .int X_side, .ref aXpicture, .ref aXhalf, .int X_many, .ref aXblocks, .int X_found, .int X_encodedBits, .ref aXencoded, .int X_fedMany, .ref aXfed, .int X_readAt, .int X_why, .int X_tried, .int X_waiting, .ref aXpile, .int X_decoded, .ref aXnews, .ref aXolds, .ref aXhalves, .ref aXds, .ref aXrs, .ref aXbest, .long q994.1])) := hN_X
      have hN_Xds := (hfr _ (by decide)).trans hN_Xds
      have hN_Xrs := (hfr _ (by decide)).trans hN_Xrs
      have hN_Xbest := (hfr _ (by decide)).trans hN_Xbest
      have hw := z_fr (by decide) hw hfr
      refine lv_aload_n hx hb d_M_tryOne_290 rfl (lv_at hl 0 rfl) ?_
      refine gf_M_43 (v := .ref aXbest) hx hb hts hown hK hP hN_X rfl d_M_tryOne_291 ?_
      refine lv_iconst (v := 0) hx hb d_M_tryOne_294 (by decide) ?_
      refine lv_iload_n hx hb d_M_tryOne_295 rfl (lv_at hl 2 rfl) ?_
      obtain ⟨hin, hf⟩ := z_no hf
      refine z_iast hx hb hK hP hD hS hN_Xbest rfl hin d_M_tryOne_296 (fun ws H locs hP hD hS hN_Xbest hfr => ?_)
      have hN_Xbest : zA ws 33 (aXbest, .inl (cI, Xbest_n, .inl (upd Xbest_f (0 : Int32).toNatClampNeg x2))) := hN_Xbest
      have hN_X := (hfr _ (by decide)).trans hN_X
      have hN_Xds := (hfr _ (by decide)).trans hN_Xds
      have hN_Xrs := (hfr _ (by decide)).trans hN_Xrs
      have hw := z_fr (by decide) hw hfr
      refine lv_aload_n hx hb d_M_tryOne_297 rfl (lv_at hl 0 rfl) ?_
      refine gf_M_43 (v := .ref aXbest) hx hb hts hown hK hP hN_X rfl d_M_tryOne_298 ?_
      refine lv_iconst (v := 1) hx hb d_M_tryOne_301 (by decide) ?_
      refine lv_iload_n hx hb d_M_tryOne_302 rfl (lv_at hl 3 rfl) ?_
      obtain ⟨hin, hf⟩ := z_no hf
      refine z_iast hx hb hK hP hD hS hN_Xbest rfl hin d_M_tryOne_303 (fun ws H locs hP hD hS hN_Xbest hfr => ?_)
      have hN_Xbest : zA ws 33 (aXbest, .inl (cI, Xbest_n, .inl (upd (upd Xbest_f (0 : Int32).toNatClampNeg x2) (1 : Int32).toNatClampNeg x3))) := hN_Xbest
      have hN_X := (hfr _ (by decide)).trans hN_X
      have hN_Xds := (hfr _ (by decide)).trans hN_Xds
      have hN_Xrs := (hfr _ (by decide)).trans hN_Xrs
      have hw := z_fr (by decide) hw hfr
      refine lv_aload_n hx hb d_M_tryOne_304 rfl (lv_at hl 0 rfl) ?_
      refine gf_M_43 (v := .ref aXbest) hx hb hts hown hK hP hN_X rfl d_M_tryOne_305 ?_
      refine lv_iconst (v := 2) hx hb d_M_tryOne_308 (by decide) ?_
      refine lv_iload hx hb d_M_tryOne_309 (lv_at hl 11 rfl) ?_
      obtain ⟨hin, hf⟩ := z_no hf
      refine z_iast hx hb hK hP hD hS hN_Xbest rfl hin d_M_tryOne_311 (fun ws H locs hP hD hS hN_Xbest hfr => ?_)
      have hN_Xbest : zA ws 33 (aXbest, .inl (cI, Xbest_n, .inl (upd (upd (upd Xbest_f (0 : Int32).toNatClampNeg x2) (1 : Int32).toNatClampNeg x3) (2 : Int32).toNatClampNeg s0_984))) := hN_Xbest
      have hN_X := (hfr _ (by decide)).trans hN_X
      have hN_Xds := (hfr _ (by decide)).trans hN_Xds
      have hN_Xrs := (hfr _ (by decide)).trans hN_Xrs
      have hw := z_fr (by decide) hw hfr
      refine lv_aload_n hx hb d_M_tryOne_312 rfl (lv_at hl 0 rfl) ?_
      refine gf_M_43 (v := .ref aXbest) hx hb hts hown hK hP hN_X rfl d_M_tryOne_313 ?_
      refine lv_iconst (v := 3) hx hb d_M_tryOne_316 (by decide) ?_
      refine lv_iload hx hb d_M_tryOne_317 (lv_at hl 13 rfl) ?_
      obtain ⟨hin, hf⟩ := z_no hf
      refine z_iast hx hb hK hP hD hS hN_Xbest rfl hin d_M_tryOne_319 (fun ws H locs hP hD hS hN_Xbest hfr => ?_)
      have hN_Xbest : zA ws 33 (aXbest, .inl (cI, Xbest_n, .inl (upd (upd (upd (upd Xbest_f (0 : Int32).toNatClampNeg x2) (1 : Int32).toNatClampNeg x3) (2 : Int32).toNatClampNeg s0_984) (3 : Int32).toNatClampNeg q992.toInt32))) := hN_Xbest
      have hN_X := (hfr _ (by decide)).trans hN_X
      have hN_Xds := (hfr _ (by decide)).trans hN_Xds
      have hN_Xrs := (hfr _ (by decide)).trans hN_Xrs
      have hw := z_fr (by decide) hw hfr
      obtain rfl := Option.some.inj hf
      exact W.vret hx hb hr (fun t ht hW => ⟨⟨ws, rfl, ⟨hN_X, hN_Xbest, hw⟩, by rw [ht]; exact hP, va_K.moved hW.alike hK, hD⟩, hS.F ht⟩) hS.2.2 d_M_tryOne_320
    · have hf := z_f hc hf
      refine lv_lload hx hb d_M_tryOne_274 (lv_at hl 14 rfl) ?_
      refine lv_aload_n hx hb d_M_tryOne_276 rfl (lv_at hl 0 rfl) ?_
      refine gf_M_91 (v := .long X_bestError) hx hb hts hown hK hP hN_X rfl d_M_tryOne_277 ?_
      refine W.lcmp hx hb d_M_tryOne_280 ?_
      refine lv_if_ge (tgt := 320) hx hb d_M_tryOne_281 (by decide) (fun hc => ?_) (fun hc => ?_)
      · have hf := z_t hc hf
        obtain rfl := Option.some.inj hf
        exact W.vret hx hb hr (fun t ht hW => ⟨⟨ws0, rfl, ⟨hN_X, hN_Xbest, hw⟩, by rw [ht]; exact hP, va_K.moved hW.alike hK, hD⟩, hS.F ht⟩) hS.2.2 d_M_tryOne_320
      · have hf := z_f hc hf
        refine lv_aload_n hx hb d_M_tryOne_284 rfl (lv_at hl 0 rfl) ?_
        refine lv_lload hx hb d_M_tryOne_285 (lv_at hl 14 rfl) ?_
        refine pf_M_91 (v := .long q994.1) hx hb hts hown hK hP hD hS hN_X rfl rfl (Nat.le_of_ble_eq_true rfl) d_M_tryOne_287 (fun ws H locs hP hD hS hN_X hfr => ?_)
        have hN_X : zA ws 21 (aX, .inr (7, [.int X_code, .int X_side, .ref aXpicture, .ref aXhalf, .int X_many, .ref aXblocks, .int X_found, .int X_encodedBits, .ref aXencoded, .int X_fedMany, .ref aXfed, .int X_readAt, .int X_why, .int X_tried, .int X_waiting, .ref aXpile, .int X_decoded, .ref aXnews, .ref aXolds, .ref aXhalves, .ref aXds, .ref aXrs, .ref aXbest, .long q994.1])) := hN_X
        have hN_Xds := (hfr _ (by decide)).trans hN_Xds
        have hN_Xrs := (hfr _ (by decide)).trans hN_Xrs
        have hN_Xbest := (hfr _ (by decide)).trans hN_Xbest
        have hw := z_fr (by decide) hw hfr
        refine lv_aload_n hx hb d_M_tryOne_290 rfl (lv_at hl 0 rfl) ?_
        refine gf_M_43 (v := .ref aXbest) hx hb hts hown hK hP hN_X rfl d_M_tryOne_291 ?_
        refine lv_iconst (v := 0) hx hb d_M_tryOne_294 (by decide) ?_
        refine lv_iload_n hx hb d_M_tryOne_295 rfl (lv_at hl 2 rfl) ?_
        obtain ⟨hin, hf⟩ := z_no hf
        refine z_iast hx hb hK hP hD hS hN_Xbest rfl hin d_M_tryOne_296 (fun ws H locs hP hD hS hN_Xbest hfr => ?_)
        have hN_Xbest : zA ws 33 (aXbest, .inl (cI, Xbest_n, .inl (upd Xbest_f (0 : Int32).toNatClampNeg x2))) := hN_Xbest
        have hN_X := (hfr _ (by decide)).trans hN_X
        have hN_Xds := (hfr _ (by decide)).trans hN_Xds
        have hN_Xrs := (hfr _ (by decide)).trans hN_Xrs
        have hw := z_fr (by decide) hw hfr
        refine lv_aload_n hx hb d_M_tryOne_297 rfl (lv_at hl 0 rfl) ?_
        refine gf_M_43 (v := .ref aXbest) hx hb hts hown hK hP hN_X rfl d_M_tryOne_298 ?_
        refine lv_iconst (v := 1) hx hb d_M_tryOne_301 (by decide) ?_
        refine lv_iload_n hx hb d_M_tryOne_302 rfl (lv_at hl 3 rfl) ?_
        obtain ⟨hin, hf⟩ := z_no hf
        refine z_iast hx hb hK hP hD hS hN_Xbest rfl hin d_M_tryOne_303 (fun ws H locs hP hD hS hN_Xbest hfr => ?_)
        have hN_Xbest : zA ws 33 (aXbest, .inl (cI, Xbest_n, .inl (upd (upd Xbest_f (0 : Int32).toNatClampNeg x2) (1 : Int32).toNatClampNeg x3))) := hN_Xbest
        have hN_X := (hfr _ (by decide)).trans hN_X
        have hN_Xds := (hfr _ (by decide)).trans hN_Xds
        have hN_Xrs := (hfr _ (by decide)).trans hN_Xrs
        have hw := z_fr (by decide) hw hfr
        refine lv_aload_n hx hb d_M_tryOne_304 rfl (lv_at hl 0 rfl) ?_
        refine gf_M_43 (v := .ref aXbest) hx hb hts hown hK hP hN_X rfl d_M_tryOne_305 ?_
        refine lv_iconst (v := 2) hx hb d_M_tryOne_308 (by decide) ?_
        refine lv_iload hx hb d_M_tryOne_309 (lv_at hl 11 rfl) ?_
        obtain ⟨hin, hf⟩ := z_no hf
        refine z_iast hx hb hK hP hD hS hN_Xbest rfl hin d_M_tryOne_311 (fun ws H locs hP hD hS hN_Xbest hfr => ?_)
        have hN_Xbest : zA ws 33 (aXbest, .inl (cI, Xbest_n, .inl (upd (upd (upd Xbest_f (0 : Int32).toNatClampNeg x2) (1 : Int32).toNatClampNeg x3) (2 : Int32).toNatClampNeg s0_984))) := hN_Xbest
        have hN_X := (hfr _ (by decide)).trans hN_X
        have hN_Xds := (hfr _ (by decide)).trans hN_Xds
        have hN_Xrs := (hfr _ (by decide)).trans hN_Xrs
        have hw := z_fr (by decide) hw hfr
        refine lv_aload_n hx hb d_M_tryOne_312 rfl (lv_at hl 0 rfl) ?_
        refine gf_M_43 (v := .ref aXbest) hx hb hts hown hK hP hN_X rfl d_M_tryOne_313 ?_
        refine lv_iconst (v := 3) hx hb d_M_tryOne_316 (by decide) ?_
        refine lv_iload hx hb d_M_tryOne_317 (lv_at hl 13 rfl) ?_
        obtain ⟨hin, hf⟩ := z_no hf
        refine z_iast hx hb hK hP hD hS hN_Xbest rfl hin d_M_tryOne_319 (fun ws H locs hP hD hS hN_Xbest hfr => ?_)
        have hN_Xbest : zA ws 33 (aXbest, .inl (cI, Xbest_n, .inl (upd (upd (upd (upd Xbest_f (0 : Int32).toNatClampNeg x2) (1 : Int32).toNatClampNeg x3) (2 : Int32).toNatClampNeg s0_984) (3 : Int32).toNatClampNeg q992.toInt32))) := hN_Xbest
        have hN_X := (hfr _ (by decide)).trans hN_X
        have hN_Xds := (hfr _ (by decide)).trans hN_Xds
        have hN_Xrs := (hfr _ (by decide)).trans hN_Xrs
        have hw := z_fr (by decide) hw hfr
        obtain rfl := Option.some.inj hf
        exact W.vret hx hb hr (fun t ht hW => ⟨⟨ws, rfl, ⟨hN_X, hN_Xbest, hw⟩, by rw [ht]; exact hP, va_K.moved hW.alike hK, hD⟩, hS.F ht⟩) hS.2.2 d_M_tryOne_320
  refine lv_if_ne (tgt := 140) hx hb d_M_tryOne_133 (by decide) (fun hc => ?_) (fun hc => ?_)
  · have hf := z_f hc hf
    refine lv_ldc2 (v := 8) hx hb hown (hts _ lk_M_81) d_M_tryOne_140 ?_
    refine lv_lload hx hb d_M_tryOne_143 (lv_at hl 1 rfl) ?_
    refine lv_lmul hx hb d_M_tryOne_145 ?_
    refine lv_lload hx hb d_M_tryOne_146 (lv_at hl 0 rfl) ?_
    obtain ⟨q1000, hc, hf⟩ := z_b hf
    refine vp_callSl (z_cr (va_runS (As := [.long ((8 : Int64) * (((x1 * x1).toInt64 * q965.2.2.1) - (q965.1 * q965.2.1))), .long (((x1 * x1).toInt64 * q965.2.2.2.1) - (q965.1 * q965.1))]) (rest := []) ⟨hx, hb, hml, hown, hts⟩ (c_M_nearest l ((8 : Int64) * (((x1 * x1).toInt64 * q965.2.2.1) - (q965.1 * q965.2.1))) (((x1 * x1).toInt64 * q965.2.2.2.1) - (q965.1 * q965.1)) q1000 hc) (cw_M_83 hts ⟨Nat.le_of_ble_eq_true rfl, Nat.le_of_ble_eq_true rfl⟩) ⟨zb0, zp0⟩ rfl rfl hl.1 rfl (lv_room (Nat.le_of_ble_eq_true rfl)) d_M_tryOne_148 ⟨Nat.zero_le _, Nat.zero_le _⟩)) (fun r1001 hv => ?_)
    have hv := hv.symm
    subst hv
    refine lv_bipush (v := (-7)) hx hb d_M_tryOne_151 (by decide) ?_
    refine lv_bipush (v := 7) hx hb d_M_tryOne_153 (by decide) ?_
    obtain ⟨q1002, hc, hf⟩ := z_b hf
    refine vp_callSi (z_cr (va_runS (As := [.long q1000, .int (-7 : Int32), .int (7 : Int32)]) (rest := []) ⟨hx, hb, hml, hown, hts⟩ (c_M_brought l q1000 (-7 : Int32) (7 : Int32) q1002 hc) (cw_M_65 hts ⟨Nat.le_of_ble_eq_true rfl, Nat.le_of_ble_eq_true rfl⟩) ⟨zb0, zp0⟩ rfl rfl hl.1 rfl (lv_room (Nat.le_of_ble_eq_true rfl)) d_M_tryOne_155 ⟨Nat.zero_le _, Nat.zero_le _⟩)) (fun r1003 hv => ?_)
    have hv := hv.symm
    subst hv
    exact jp158_985 q1002 ls hf (lv_sub hl [2, 3, 4, 5, 6, 7, 8, 9, 10, 1, 0] rfl)
  · have hf := z_t hc hf
    refine lv_iconst (v := 0) hx hb d_M_tryOne_136 (by decide) ?_
    refine lv_goto (tgt := 158) hx hb d_M_tryOne_137 (by decide) ?_
    exact jp158_985 (0 : Int32) ls hf (lv_sub hl [2, 3, 4, 5, 6, 7, 8, 9, 10, 1, 0] rfl)
