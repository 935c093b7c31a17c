def f_M_tell_5 (p1 : Int32) (p2 : Int32) : Nat → Int32 → Int32 → Option (Int32 × Int32)
  | 0, _, _ => none
  | n + 1, v3, v4 => if p2 ≤ v4 then (some (v3, v4)) else (f_M_tell_5 p1 p2 n ((2 : Int32) * v3) (v4 + 1))
def f_M_tell_24 (p1 : Int32) (p2 : Int32) (Xencoded_n : Nat) : Nat → Int32 → Int32 → Int32 → (Nat → Int32) → Option (Int32 × Int32 × Int32 × (Nat → Int32))
  | 0, _, _, _, _ => none
  | n + 1, v3, v4, X_encodedBits, Xencoded_f => if p2 ≤ v4 then (some (v3, v4, X_encodedBits, Xencoded_f)) else (if (X_encodedBits - X_encodedBits / (8 : Int32) * (8 : Int32)) = 0 then (if (X_encodedBits / (8 : Int32)) < 0 ∨ Xencoded_n ≤ (X_encodedBits / (8 : Int32)).toNatClampNeg then none else (if (X_encodedBits / (8 : Int32)) < 0 ∨ Xencoded_n ≤ (X_encodedBits / (8 : Int32)).toNatClampNeg then none else (if v3 = 0 then none else (if (X_encodedBits / (8 : Int32)) < 0 ∨ Xencoded_n ≤ (X_encodedBits / (8 : Int32)).toNatClampNeg then none else (f_M_tell_24 p1 p2 Xencoded_n n (v3 / (2 : Int32)) (v4 + 1) (X_encodedBits + (1 : Int32)) (upd (upd Xencoded_f (X_encodedBits / (8 : Int32)).toNatClampNeg (0 : Int32)) (X_encodedBits / (8 : Int32)).toNatClampNeg (((upd Xencoded_f (X_encodedBits / (8 : Int32)).toNatClampNeg (0 : Int32)) (X_encodedBits / (8 : Int32)).toNatClampNeg) + (((p1 / v3) - (p1 / v3) / (2 : Int32) * (2 : Int32)) <<< (((7 : Int32) - (X_encodedBits - X_encodedBits / (8 : Int32) * (8 : Int32))) &&& 31))))))))) else (if (X_encodedBits / (8 : Int32)) < 0 ∨ Xencoded_n ≤ (X_encodedBits / (8 : Int32)).toNatClampNeg then none else (if (X_encodedBits / (8 : Int32)) < 0 ∨ Xencoded_n ≤ (X_encodedBits / (8 : Int32)).toNatClampNeg then none else (if (X_encodedBits / (8 : Int32)) < 0 ∨ Xencoded_n ≤ (X_encodedBits / (8 : Int32)).toNatClampNeg then none else (if v3 = 0 then none else (if (X_encodedBits / (8 : Int32)) < 0 ∨ Xencoded_n ≤ (X_encodedBits / (8 : Int32)).toNatClampNeg then none else (f_M_tell_24 p1 p2 Xencoded_n n (v3 / (2 : Int32)) (v4 + 1) (X_encodedBits + (1 : Int32)) (upd (upd Xencoded_f (X_encodedBits / (8 : Int32)).toNatClampNeg (Xencoded_f (X_encodedBits / (8 : Int32)).toNatClampNeg)) (X_encodedBits / (8 : Int32)).toNatClampNeg (((upd Xencoded_f (X_encodedBits / (8 : Int32)).toNatClampNeg (Xencoded_f (X_encodedBits / (8 : Int32)).toNatClampNeg)) (X_encodedBits / (8 : Int32)).toNatClampNeg) + (((p1 / v3) - (p1 / v3) / (2 : Int32) * (2 : Int32)) <<< (((7 : Int32) - (X_encodedBits - X_encodedBits / (8 : Int32) * (8 : Int32))) &&& 31)))))))))))
def f_M_tell (x1 : Int32) (x2 : Int32) (X_encodedBits : Int32) (Xencoded_n : Nat) (Xencoded_f : Nat → Int32) : Option (Int32 × (Nat → Int32)) := (f_M_tell_5 x1 x2 FU (1 : Int32) (1 : Int32)).bind (fun q955 => (f_M_tell_24 x1 x2 Xencoded_n FU q955.1 (0 : Int32) X_encodedBits Xencoded_f).bind (fun q959 => some (q959.2.2.1, q959.2.2.2)))
set_option maxHeartbeats 4000000 in
set_option maxRecDepth 100000 in
theorem c_M_tell (l : Launch) (dC : Nat → ClassId) (dI : Nat → Nat → Nat) (cI cL : ClassId) {ws0 : va_W} (sz : Nat) {aX aXpicture aXhalf aXblocks aXencoded aXfed aXpile aXnews aXolds aXhalves aXds aXrs aXbest : Nat} {X_code X_side X_many X_found X_encodedBits X_fedMany X_readAt X_why X_tried X_waiting X_decoded : Int32} {X_bestError : Int64} {Xencoded_n : Nat} {Xencoded_f : Nat → Int32} (x1 : Int32) (x2 : Int32) (hN_X : zA ws0 21 (aX, .inr (7, [.int X_code, .int X_side, .ref aXpicture, .ref aXhalf, .int X_many, .ref aXblocks, .int X_found, .int X_encodedBits, .ref aXencoded, .int X_fedMany, .ref aXfed, .int X_readAt, .int X_why, .int X_tried, .int X_waiting, .ref aXpile, .int X_decoded, .ref aXnews, .ref aXolds, .ref aXhalves, .ref aXds, .ref aXrs, .ref aXbest, .long X_bestError]))) (hN_Xencoded : zA ws0 25 (aXencoded, .inl (cI, Xencoded_n, .inl Xencoded_f))) (r : Int32 × (Nat → Int32)) (hf : f_M_tell x1 x2 X_encodedBits Xencoded_n Xencoded_f = some r) : Met l y_M_tell w_M_tell rm_M_tell (va_Pc [.ref aX, .int x1, .int x2] (zM dC dI cI cL ws0 sz)) (va_Qv (fun ws' : va_W => zA ws' 21 (aX, .inr (7, [.int X_code, .int X_side, .ref aXpicture, .ref aXhalf, .int X_many, .ref aXblocks, .int X_found, .int r.1, .ref aXencoded, .int X_fedMany, .ref aXfed, .int X_readAt, .int X_why, .int X_tried, .int X_waiting, .ref aXpile, .int X_decoded, .ref aXnews, .ref aXolds, .ref aXhalves, .ref aXds, .ref aXrs, .ref aXbest, .long X_bestError])) ∧ zA ws' 25 (aXencoded, .inl (cI, Xencoded_n, .inl r.2)) ∧ ∀ (j : Nat), j ∉ ([21, 25] : List Nat) → ws'[j]? = ws0[j]?) (zQ dC dI cI cL (va_A ws0 sz)) (va_A ws0 sz)) 0 0 (va_A ws0 sz) := by
  refine Met.ofW (cc := b_M_tell) (maxL := 6) (ret := none) (by decide) rfl ?_
  intro p e s m args below meth c s₁ B hml hv
  obtain ⟨rfl, hsz, hP, hK, hZ, hD0⟩ := hv
  have hx := B.exec
  have hb := B.bytes
  have hr := B.returns
  have hlocks := B.notSynchronized
  have hts : ∀ w ∈ BIG, w.before ([.ref aX, .int x1, .int x2] : List Value).toArray s = true := fun w h => atoms_spec (ws := w_M_tell) B.pre w (List.mem_cons_of_mem _ h)
  have hown : s.vm.findClass "FractalMapsModel" = some m.cls := findClass_of_methodNamed B.named
  subst hsz
  have hD := hD0.self (sz := s.heap.size)
  generalize hAe : va_A ws0 s.heap.size = A at hD ⊢
  have hA : ∀ q : Nat, s.heap.size ≤ q → A q := fun q h => by rw [← hAe]; exact Or.inr h
  have hS : va_S A s.heap s.heap [] := va_S.rf
  have hw : ∀ (j : Nat), j ∉ ([21, 25] : List Nat) → ws0[j]? = ws0[j]? := fun _ _ => rfl
  have hl := lv_entry ([.ref aX, .int x1, .int x2]) (n := 6) (Nat.le_of_ble_eq_true rfl)
  rw [lg_entry_eq]
  generalize (lg_sl ([.ref aX, .int x1, .int x2]) ++ List.replicate (6 - (lg_sl ([.ref aX, .int x1, .int x2])).length) Slot.unset).toArray = ls at hl ⊢
  have hl : lv_has ls 6 [(0, .ref aX), (1, .int x1), (2, .int x2)] := hl
  unfold f_M_tell at hf
  refine lv_iconst (v := 1) hx hb d_M_tell_0 (by decide) ?_
  refine lv_istore_n (lv' := [(3, .int (1 : Int32)), (0, .ref aX), (1, .int x1), (2, .int x2)]) hx hb d_M_tell_1 rfl hl (by decide) rfl (fun ls hl => ?_)
  refine lv_iconst (v := 1) hx hb d_M_tell_2 (by decide) ?_
  refine lv_istore (lv' := [(4, .int (1 : Int32)), (3, .int (1 : Int32)), (0, .ref aX), (1, .int x1), (2, .int x2)]) hx hb d_M_tell_3 hl (by decide) rfl (fun ls hl => ?_)
  have lp958 : ∀ (Qx : State → Prop) (n : Nat) (v3_956 : Int32) (v4_957 : Int32) (ls : Array Slot) (q : Int32 × Int32) (hf : f_M_tell_5 x1 x2 n v3_956 v4_957 = some q) (hl : lv_has ls 6 [(0, .ref aX), (1, .int x1), (2, .int x2), (3, .int v3_956), (4, .int v4_957)]) (kt0 : ∀ (ls : Array Slot), lv_has ls 6 [(0, .ref aX), (1, .int x1), (2, .int x2), (3, .int q.1), (4, .int q.2)] → W p l e (headSpec w_M_tell rm_M_tell).room s m ([.ref aX, .int x1, .int x2] : List Value).toArray below meth c s.heap [] 0 0 Qx (F0 m 21 ls [])), W p l e (headSpec w_M_tell rm_M_tell).room s m ([.ref aX, .int x1, .int x2] : List Value).toArray below meth c s.heap [] 0 0 Qx (F0 m 5 ls []) := by
    intro Qx n
    induction n with
    | zero => intro v3_956 v4_957 ls q hf; cases hf
    | succ n ih =>
      intro v3_956 v4_957 ls q hf hl kt0
      rw [f_M_tell_5] at hf
      refine lv_iload hx hb d_M_tell_5 (lv_at hl 4 rfl) ?_
      refine lv_iload_n hx hb d_M_tell_7 rfl (lv_at hl 2 rfl) ?_
      refine lv_icmp_ge (tgt := 21) hx hb d_M_tell_8 (by decide) (fun hc => ?_) (fun hc => ?_)
      · have hf := z_t hc hf
        obtain rfl := Option.some.inj hf
        exact kt0 ls (lv_sub hl [0, 1, 2, 3, 4] rfl)
      · have hf := z_f hc hf
        refine lv_iconst (v := 2) hx hb d_M_tell_11 (by decide) ?_
        refine lv_iload_n hx hb d_M_tell_12 rfl (lv_at hl 3 rfl) ?_
        refine lv_imul hx hb d_M_tell_13 ?_
        refine lv_istore_n (lv' := [(3, .int ((2 : Int32) * v3_956)), (0, .ref aX), (1, .int x1), (2, .int x2), (4, .int v4_957)]) hx hb d_M_tell_14 rfl hl (by decide) rfl (fun ls hl => ?_)
        refine lv_iinc (v := (v4_957 + 1)) (lv' := [(4, .int (v4_957 + 1)), (3, .int ((2 : Int32) * v3_956)), (0, .ref aX), (1, .int x1), (2, .int x2)]) hx hb d_M_tell_15 hl (k := 4) rfl rfl (by decide) rfl (fun ls hl => ?_)
        refine lv_goto (tgt := 5) hx hb d_M_tell_18 (by decide) ?_
        exact ih ((2 : Int32) * v3_956) (v4_957 + 1) ls _ hf (lv_sub hl [2, 3, 4, 1, 0] rfl) kt0
  obtain ⟨q955, hc, hf⟩ := z_b hf
  refine lp958 _ FU (1 : Int32) (1 : Int32) ls q955 hc (lv_sub hl [2, 3, 4, 1, 0] rfl) (fun ls hl => ?_)
  refine lv_iconst (v := 0) hx hb d_M_tell_21 (by decide) ?_
  refine lv_istore (lv' := [(4, .int (0 : Int32)), (0, .ref aX), (1, .int x1), (2, .int x2), (3, .int q955.1)]) hx hb d_M_tell_22 hl (by decide) rfl (fun ls hl => ?_)
  have lp964 : ∀ (Qx : State → Prop) (n : Nat) (v3_960 : Int32) (v4_961 : Int32) (X_encodedBits_962 : Int32) (Xencoded_f_963 : Nat → Int32) (ws : va_W) (H : Heap) (locs : List Loc) (ls : Array Slot) (q : Int32 × Int32 × Int32 × (Nat → Int32)) (hf : f_M_tell_24 x1 x2 Xencoded_n n v3_960 v4_961 X_encodedBits_962 Xencoded_f_963 = some q) (hl : lv_has ls 6 [(0, .ref aX), (1, .int x1), (2, .int x2), (3, .int v3_960), (4, .int v4_961)]) (hP : va_P (dC, dI) classes ws H) (hD : va_D A ws) (hS : va_S A s.heap H locs) (hN_X : zA ws 21 (aX, .inr (7, [.int X_code, .int X_side, .ref aXpicture, .ref aXhalf, .int X_many, .ref aXblocks, .int X_found, .int X_encodedBits_962, .ref aXencoded, .int X_fedMany, .ref aXfed, .int X_readAt, .int X_why, .int X_tried, .int X_waiting, .ref aXpile, .int X_decoded, .ref aXnews, .ref aXolds, .ref aXhalves, .ref aXds, .ref aXrs, .ref aXbest, .long X_bestError]))) (hN_Xencoded : zA ws 25 (aXencoded, .inl (cI, Xencoded_n, .inl Xencoded_f_963))) (hw : ∀ (j : Nat), j ∉ ([21, 25] : List Nat) → ws[j]? = ws0[j]?) (kt0 : ∀ (ws : va_W) (H : Heap) (locs : List Loc) (ls : Array Slot), lv_has ls 6 [(0, .ref aX), (1, .int x1), (2, .int x2), (3, .int q.1), (4, .int q.2.1)] → (va_P (dC, dI) classes ws H) → (va_D A ws) → (va_S A s.heap H locs) → (zA ws 21 (aX, .inr (7, [.int X_code, .int X_side, .ref aXpicture, .ref aXhalf, .int X_many, .ref aXblocks, .int X_found, .int q.2.2.1, .ref aXencoded, .int X_fedMany, .ref aXfed, .int X_readAt, .int X_why, .int X_tried, .int X_waiting, .ref aXpile, .int X_decoded, .ref aXnews, .ref aXolds, .ref aXhalves, .ref aXds, .ref aXrs, .ref aXbest, .long X_bestError]))) → (zA ws 25 (aXencoded, .inl (cI, Xencoded_n, .inl q.2.2.2))) → (∀ (j : Nat), j ∉ ([21, 25] : List Nat) → ws[j]? = ws0[j]?) → W p l e (headSpec w_M_tell rm_M_tell).room s m ([.ref aX, .int x1, .int x2] : List Value).toArray below meth c H locs 0 0 Qx (F0 m 113 ls [])), W p l e (headSpec w_M_tell rm_M_tell).room s m ([.ref aX, .int x1, .int x2] : List Value).toArray below meth c H locs 0 0 Qx (F0 m 24 ls []) := by
    intro Qx n
    induction n with
    | zero => intro v3_960 v4_961 X_encodedBits_962 Xencoded_f_963 ws H locs ls q hf; cases hf
    | succ n ih =>
      intro v3_960 v4_961 X_encodedBits_962 Xencoded_f_963 ws H locs ls q hf hl hP hD hS hN_X hN_Xencoded hw kt0
      rw [f_M_tell_24] at hf
      refine lv_iload hx hb d_M_tell_24 (lv_at hl 4 rfl) ?_
      refine lv_iload_n hx hb d_M_tell_26 rfl (lv_at hl 2 rfl) ?_
      refine lv_icmp_ge (tgt := 113) hx hb d_M_tell_27 (by decide) (fun hc => ?_) (fun hc => ?_)
      · have hf := z_t hc hf
        obtain rfl := Option.some.inj hf
        exact kt0 _ _ _ ls (lv_sub hl [0, 1, 2, 3, 4] rfl) hP hD hS hN_X hN_Xencoded hw
      · have hf := z_f hc hf
        refine lv_aload_n hx hb d_M_tell_30 rfl (lv_at hl 0 rfl) ?_
        refine gf_M_126 (v := .int X_encodedBits_962) hx hb hts hown hK hP hN_X rfl d_M_tell_31 ?_
        refine lv_bipush (v := 8) hx hb d_M_tell_34 (by decide) ?_
        refine lv_idiv hx hb d_M_tell_36 (by decide) ?_
        refine lv_istore (lv' := [(5, .int (X_encodedBits_962 / (8 : Int32))), (0, .ref aX), (1, .int x1), (2, .int x2), (3, .int v3_960), (4, .int v4_961)]) hx hb d_M_tell_37 hl (by decide) rfl (fun ls hl => ?_)
        refine lv_aload_n hx hb d_M_tell_39 rfl (lv_at hl 1 rfl) ?_
        refine gf_M_19 (v := .ref aXencoded) hx hb hts hown hK hP hN_X rfl d_M_tell_40 ?_
        refine lv_iload hx hb d_M_tell_43 (lv_at hl 0 rfl) ?_
        refine lv_aload_n hx hb d_M_tell_45 rfl (lv_at hl 1 rfl) ?_
        refine gf_M_126 (v := .int X_encodedBits_962) hx hb hts hown hK hP hN_X rfl d_M_tell_46 ?_
        refine lv_bipush (v := 8) hx hb d_M_tell_49 (by decide) ?_
        refine lv_irem hx hb d_M_tell_51 (by decide) ?_
        refine lv_if_ne (tgt := 59) hx hb d_M_tell_52 (by decide) (fun hc => ?_) (fun hc => ?_)
        · have hf := z_f hc hf
          refine lv_aload_n hx hb d_M_tell_59 rfl (lv_at hl 1 rfl) ?_
          refine gf_M_19 (v := .ref aXencoded) hx hb hts hown hK hP hN_X rfl d_M_tell_60 ?_
          refine lv_iload hx hb d_M_tell_63 (lv_at hl 0 rfl) ?_
          obtain ⟨hin, hf⟩ := z_no hf
          refine va_iald hx hb hK hP _ 0 hN_Xencoded rfl hin d_M_tell_65 ?_
          obtain ⟨hin, hf⟩ := z_no hf
          refine z_iast hx hb hK hP hD hS hN_Xencoded rfl hin d_M_tell_66 (fun ws H locs hP hD hS hN_Xencoded hfr => ?_)
          have hN_Xencoded : zA ws 25 (aXencoded, .inl (cI, Xencoded_n, .inl (upd Xencoded_f_963 (X_encodedBits_962 / (8 : Int32)).toNatClampNeg (Xencoded_f_963 (X_encodedBits_962 / (8 : Int32)).toNatClampNeg)))) := hN_Xencoded
          have hN_X := (hfr _ (by decide)).trans hN_X
          have hw := z_fr (by decide) hw hfr
          refine lv_aload_n hx hb d_M_tell_67 rfl (lv_at hl 1 rfl) ?_
          refine gf_M_19 (v := .ref aXencoded) hx hb hts hown hK hP hN_X rfl d_M_tell_68 ?_
          refine lv_iload hx hb d_M_tell_71 (lv_at hl 0 rfl) ?_
          refine lv_dup2_11 hx hb d_M_tell_73 rfl rfl ?_
          obtain ⟨hin, hf⟩ := z_no hf
          refine va_iald hx hb hK hP _ 0 hN_Xencoded rfl hin d_M_tell_74 ?_
          refine lv_iload_n hx hb d_M_tell_75 rfl (lv_at hl 2 rfl) ?_
          refine lv_iload_n hx hb d_M_tell_76 rfl (lv_at hl 4 rfl) ?_
          obtain ⟨hne, hf⟩ := z_no hf
          refine lv_idiv hx hb d_M_tell_77 hne ?_
          refine lv_iconst (v := 2) hx hb d_M_tell_78 (by decide) ?_
          refine lv_irem hx hb d_M_tell_79 (by decide) ?_
          refine lv_bipush (v := 7) hx hb d_M_tell_80 (by decide) ?_
          refine lv_aload_n hx hb d_M_tell_82 rfl (lv_at hl 1 rfl) ?_
          refine gf_M_126 (v := .int X_encodedBits_962) hx hb hts hown hK hP hN_X rfl d_M_tell_83 ?_
          refine lv_bipush (v := 8) hx hb d_M_tell_86 (by decide) ?_
          refine lv_irem hx hb d_M_tell_88 (by decide) ?_
          refine lv_isub hx hb d_M_tell_89 ?_
          refine lv_ishl hx hb d_M_tell_90 ?_
          refine lv_iadd hx hb d_M_tell_91 ?_
          obtain ⟨hin, hf⟩ := z_no hf
          refine z_iast hx hb hK hP hD hS hN_Xencoded rfl hin d_M_tell_92 (fun ws H locs hP hD hS hN_Xencoded hfr => ?_)
          have hN_Xencoded : zA ws 25 (aXencoded, .inl (cI, Xencoded_n, .inl (upd (upd Xencoded_f_963 (X_encodedBits_962 / (8 : Int32)).toNatClampNeg (Xencoded_f_963 (X_encodedBits_962 / (8 : Int32)).toNatClampNeg)) (X_encodedBits_962 / (8 : Int32)).toNatClampNeg (((upd Xencoded_f_963 (X_encodedBits_962 / (8 : Int32)).toNatClampNeg (Xencoded_f_963 (X_encodedBits_962 / (8 : Int32)).toNatClampNeg)) (X_encodedBits_962 / (8 : Int32)).toNatClampNeg) + (((x1 / v3_960) - (x1 / v3_960) / (2 : Int32) * (2 : Int32)) <<< (((7 : Int32) - (X_encodedBits_962 - X_encodedBits_962 / (8 : Int32) * (8 : Int32))) &&& 31)))))) := hN_Xencoded
          have hN_X := (hfr _ (by decide)).trans hN_X
          have hw := z_fr (by decide) hw hfr
          refine lv_aload_n hx hb d_M_tell_93 rfl (lv_at hl 1 rfl) ?_
          refine lv_dup hx hb d_M_tell_94 rfl ?_
          refine gf_M_126 (v := .int X_encodedBits_962) hx hb hts hown hK hP hN_X rfl d_M_tell_95 ?_
          refine lv_iconst (v := 1) hx hb d_M_tell_98 (by decide) ?_
          refine lv_iadd hx hb d_M_tell_99 ?_
          refine pf_M_126 (v := .int (X_encodedBits_962 + (1 : Int32))) hx hb hts hown hK hP hD hS hN_X rfl rfl (Nat.le_of_ble_eq_true rfl) d_M_tell_100 (fun ws H locs hP hD hS hN_X hfr => ?_)
          have hN_X : zA ws 21 (aX, .inr (7, [.int X_code, .int X_side, .ref aXpicture, .ref aXhalf, .int X_many, .ref aXblocks, .int X_found, .int (X_encodedBits_962 + (1 : Int32)), .ref aXencoded, .int X_fedMany, .ref aXfed, .int X_readAt, .int X_why, .int X_tried, .int X_waiting, .ref aXpile, .int X_decoded, .ref aXnews, .ref aXolds, .ref aXhalves, .ref aXds, .ref aXrs, .ref aXbest, .long X_bestError])) := hN_X
          have hN_Xencoded := (hfr _ (by decide)).trans hN_Xencoded
          have hw := z_fr (by decide) hw hfr
          refine lv_iload_n hx hb d_M_tell_103 rfl (lv_at hl 4 rfl) ?_
          refine lv_iconst (v := 2) hx hb d_M_tell_104 (by decide) ?_
          refine lv_idiv hx hb d_M_tell_105 (by decide) ?_
          refine lv_istore_n (lv' := [(3, .int (v3_960 / (2 : Int32))), (5, .int (X_encodedBits_962 / (8 : Int32))), (0, .ref aX), (1, .int x1), (2, .int x2), (4, .int v4_961)]) hx hb d_M_tell_106 rfl hl (by decide) rfl (fun ls hl => ?_)
          refine lv_iinc (v := (v4_961 + 1)) (lv' := [(4, .int (v4_961 + 1)), (3, .int (v3_960 / (2 : Int32))), (5, .int (X_encodedBits_962 / (8 : Int32))), (0, .ref aX), (1, .int x1), (2, .int x2)]) hx hb d_M_tell_107 hl (k := 5) rfl rfl (by decide) rfl (fun ls hl => ?_)
          refine lv_goto (tgt := 24) hx hb d_M_tell_110 (by decide) ?_
          exact ih (v3_960 / (2 : Int32)) (v4_961 + 1) (X_encodedBits_962 + (1 : Int32)) (upd (upd Xencoded_f_963 (X_encodedBits_962 / (8 : Int32)).toNatClampNeg (Xencoded_f_963 (X_encodedBits_962 / (8 : Int32)).toNatClampNeg)) (X_encodedBits_962 / (8 : Int32)).toNatClampNeg (((upd Xencoded_f_963 (X_encodedBits_962 / (8 : Int32)).toNatClampNeg (Xencoded_f_963 (X_encodedBits_962 / (8 : Int32)).toNatClampNeg)) (X_encodedBits_962 / (8 : Int32)).toNatClampNeg) + (((x1 / v3_960) - (x1 / v3_960) / (2 : Int32) * (2 : Int32)) <<< (((7 : Int32) - (X_encodedBits_962 - X_encodedBits_962 / (8 : Int32) * (8 : Int32))) &&& 31)))) _ _ _ ls _ hf (lv_sub hl [3, 4, 5, 1, 0] rfl) hP hD hS hN_X hN_Xencoded hw kt0
        · have hf := z_t hc hf
          refine lv_iconst (v := 0) hx hb d_M_tell_55 (by decide) ?_
          refine lv_goto (tgt := 66) hx hb d_M_tell_56 (by decide) ?_
          obtain ⟨hin, hf⟩ := z_no hf
          refine z_iast hx hb hK hP hD hS hN_Xencoded rfl hin d_M_tell_66 (fun ws H locs hP hD hS hN_Xencoded hfr => ?_)
          have hN_Xencoded : zA ws 25 (aXencoded, .inl (cI, Xencoded_n, .inl (upd Xencoded_f_963 (X_encodedBits_962 / (8 : Int32)).toNatClampNeg (0 : Int32)))) := hN_Xencoded
          have hN_X := (hfr _ (by decide)).trans hN_X
          have hw := z_fr (by decide) hw hfr
          refine lv_aload_n hx hb d_M_tell_67 rfl (lv_at hl 1 rfl) ?_
          refine gf_M_19 (v := .ref aXencoded) hx hb hts hown hK hP hN_X rfl d_M_tell_68 ?_
          refine lv_iload hx hb d_M_tell_71 (lv_at hl 0 rfl) ?_
          refine lv_dup2_11 hx hb d_M_tell_73 rfl rfl ?_
          obtain ⟨hin, hf⟩ := z_no hf
          refine va_iald hx hb hK hP _ 0 hN_Xencoded rfl hin d_M_tell_74 ?_
          refine lv_iload_n hx hb d_M_tell_75 rfl (lv_at hl 2 rfl) ?_
          refine lv_iload_n hx hb d_M_tell_76 rfl (lv_at hl 4 rfl) ?_
          obtain ⟨hne, hf⟩ := z_no hf
          refine lv_idiv hx hb d_M_tell_77 hne ?_
          refine lv_iconst (v := 2) hx hb d_M_tell_78 (by decide) ?_
          refine lv_irem hx hb d_M_tell_79 (by decide) ?_
          refine lv_bipush (v := 7) hx hb d_M_tell_80 (by decide) ?_
          refine lv_aload_n hx hb d_M_tell_82 rfl (lv_at hl 1 rfl) ?_
          refine gf_M_126 (v := .int X_encodedBits_962) hx hb hts hown hK hP hN_X rfl d_M_tell_83 ?_
          refine lv_bipush (v := 8) hx hb d_M_tell_86 (by decide) ?_
          refine lv_irem hx hb d_M_tell_88 (by decide) ?_
          refine lv_isub hx hb d_M_tell_89 ?_
          refine lv_ishl hx hb d_M_tell_90 ?_
          refine lv_iadd hx hb d_M_tell_91 ?_
          obtain ⟨hin, hf⟩ := z_no hf
          refine z_iast hx hb hK hP hD hS hN_Xencoded rfl hin d_M_tell_92 (fun ws H locs hP hD hS hN_Xencoded hfr => ?_)
          have hN_Xencoded : zA ws 25 (aXencoded, .inl (cI, Xencoded_n, .inl (upd (upd Xencoded_f_963 (X_encodedBits_962 / (8 : Int32)).toNatClampNeg (0 : Int32)) (X_encodedBits_962 / (8 : Int32)).toNatClampNeg (((upd Xencoded_f_963 (X_encodedBits_962 / (8 : Int32)).toNatClampNeg (0 : Int32)) (X_encodedBits_962 / (8 : Int32)).toNatClampNeg) + (((x1 / v3_960) - (x1 / v3_960) / (2 : Int32) * (2 : Int32)) <<< (((7 : Int32) - (X_encodedBits_962 - X_encodedBits_962 / (8 : Int32) * (8 : Int32))) &&& 31)))))) := hN_Xencoded
          have hN_X := (hfr _ (by decide)).trans hN_X
          have hw := z_fr (by decide) hw hfr
          refine lv_aload_n hx hb d_M_tell_93 rfl (lv_at hl 1 rfl) ?_
          refine lv_dup hx hb d_M_tell_94 rfl ?_
          refine gf_M_126 (v := .int X_encodedBits_962) hx hb hts hown hK hP hN_X rfl d_M_tell_95 ?_
          refine lv_iconst (v := 1) hx hb d_M_tell_98 (by decide) ?_
          refine lv_iadd hx hb d_M_tell_99 ?_
          refine pf_M_126 (v := .int (X_encodedBits_962 + (1 : Int32))) hx hb hts hown hK hP hD hS hN_X rfl rfl (Nat.le_of_ble_eq_true rfl) d_M_tell_100 (fun ws H locs hP hD hS hN_X hfr => ?_)
          have hN_X : zA ws 21 (aX, .inr (7, [.int X_code, .int X_side, .ref aXpicture, .ref aXhalf, .int X_many, .ref aXblocks, .int X_found, .int (X_encodedBits_962 + (1 : Int32)), .ref aXencoded, .int X_fedMany, .ref aXfed, .int X_readAt, .int X_why, .int X_tried, .int X_waiting, .ref aXpile, .int X_decoded, .ref aXnews, .ref aXolds, .ref aXhalves, .ref aXds, .ref aXrs, .ref aXbest, .long X_bestError])) := hN_X
          have hN_Xencoded := (hfr _ (by decide)).trans hN_Xencoded
          have hw := z_fr (by decide) hw hfr
          refine lv_iload_n hx hb d_M_tell_103 rfl (lv_at hl 4 rfl) ?_
          refine lv_iconst (v := 2) hx hb d_M_tell_104 (by decide) ?_
          refine lv_idiv hx hb d_M_tell_105 (by decide) ?_
          refine lv_istore_n (lv' := [(3, .int (v3_960 / (2 : Int32))), (5, .int (X_encodedBits_962 / (8 : Int32))), (0, .ref aX), (1, .int x1), (2, .int x2), (4, .int v4_961)]) hx hb d_M_tell_106 rfl hl (by decide) rfl (fun ls hl => ?_)
          refine lv_iinc (v := (v4_961 + 1)) (lv' := [(4, .int (v4_961 + 1)), (3, .int (v3_960 / (2 : Int32))), (5, .int (X_encodedBits_962 / (8 : Int32))), (0, .ref aX), (1, .int x1), (2, .int x2)]) hx hb d_M_tell_107 hl (k := 5) rfl rfl (by decide) rfl (fun ls hl => ?_)
          refine lv_goto (tgt := 24) hx hb d_M_tell_110 (by decide) ?_
          exact ih (v3_960 / (2 : Int32)) (v4_961 + 1) (X_encodedBits_962 + (1 : Int32)) (upd (upd Xencoded_f_963 (X_encodedBits_962 / (8 : Int32)).toNatClampNeg (0 : Int32)) (X_encodedBits_962 / (8 : Int32)).toNatClampNeg (((upd Xencoded_f_963 (X_encodedBits_962 / (8 : Int32)).toNatClampNeg (0 : Int32)) (X_encodedBits_962 / (8 : Int32)).toNatClampNeg) + (((x1 / v3_960) - (x1 / v3_960) / (2 : Int32) * (2 : Int32)) <<< (((7 : Int32) - (X_encodedBits_962 - X_encodedBits_962 / (8 : Int32) * (8 : Int32))) &&& 31)))) _ _ _ ls _ hf (lv_sub hl [3, 4, 5, 1, 0] rfl) hP hD hS hN_X hN_Xencoded hw kt0
  obtain ⟨q959, hc, hf⟩ := z_b hf
  refine lp964 _ FU q955.1 (0 : Int32) X_encodedBits Xencoded_f _ _ _ ls q959 hc (lv_sub hl [1, 2, 3, 4, 0] rfl) hP hD hS hN_X hN_Xencoded hw (fun ws H locs ls hl hP hD hS hN_X hN_Xencoded hw => ?_)
  obtain rfl := Option.some.inj hf
  exact W.vret hx hb hr (fun t ht hW => ⟨⟨ws, rfl, ⟨hN_X, hN_Xencoded, hw⟩, by rw [ht]; exact hP, va_K.moved hW.alike hK, hD⟩, hS.F ht⟩) hS.2.2 d_M_tell_113
def f_M_nearest (x1 : Int64) (x2 : Int64) : Option (Int64) := if ((2 : Int64) * x2) = 0 then none else (if 0 ≤ (lg_cmp (((2 : Int64) * x1) + x2) (0 : Int64)) then (some ((((2 : Int64) * x1) + x2) / ((2 : Int64) * x2))) else (if (lg_cmp ((((((2 : Int64) * x1) + x2) / ((2 : Int64) * x2)) * (2 : Int64)) * x2) (((2 : Int64) * x1) + x2)) = 0 then (some ((((2 : Int64) * x1) + x2) / ((2 : Int64) * x2))) else (some (((((2 : Int64) * x1) + x2) / ((2 : Int64) * x2)) - (1 : Int64)))))
set_option maxHeartbeats 4000000 in
set_option maxRecDepth 100000 in
theorem c_M_nearest (l : Launch) (x1 : Int64) (x2 : Int64) (r : Int64) (hf : f_M_nearest x1 x2 = some r) : Met l y_M_nearest w_M_nearest rm_M_nearest (va_Pc [.long x1, .long x2] (fun _ => True)) (vp_Sl (fun v => v = r)) 0 0 (fun _ => False) := by
  refine Met.ofW (cc := b_M_nearest) (maxL := 8) (ret := some .long) (by decide) rfl ?_
  intro p e s m args below meth c s₁ B hml hv
  obtain ⟨rfl, -⟩ := hv
  have hx := B.exec
  have hb := B.bytes
  have hr := B.returns
  have hlocks := B.notSynchronized
  have hts : ∀ w ∈ BIG, w.before ([.long x1, .long x2] : List Value).toArray s = true := fun w h => atoms_spec (ws := w_M_nearest) B.pre w (List.mem_cons_of_mem _ h)
  have hown : s.vm.findClass "FractalMapsModel" = some m.cls := findClass_of_methodNamed B.named
  have hl := lv_entry ([.long x1, .long x2]) (n := 8) (Nat.le_of_ble_eq_true rfl)
  rw [lg_entry_eq]
  generalize (lg_sl ([.long x1, .long x2]) ++ List.replicate (8 - (lg_sl ([.long x1, .long x2])).length) Slot.unset).toArray = ls at hl ⊢
  have hl : lv_has ls 8 [(0, .long x1), (2, .long x2)] := hl
  unfold f_M_nearest at hf
  refine lv_ldc2 (v := 2) hx hb hown (hts _ lk_M_53) d_M_nearest_0 ?_
  refine lv_lload_n hx hb d_M_nearest_3 rfl (lv_at hl 0 rfl) ?_
  refine lv_lmul hx hb d_M_nearest_4 ?_
  refine lv_lload_n hx hb d_M_nearest_5 rfl (lv_at hl 1 rfl) ?_
  refine lv_ladd hx hb d_M_nearest_6 ?_
  refine lv_lstore (lv' := [(4, .long (((2 : Int64) * x1) + x2)), (0, .long x1), (2, .long x2)]) hx hb d_M_nearest_7 hl (by decide) rfl (fun ls hl => ?_)
  refine lv_lload hx hb d_M_nearest_9 (lv_at hl 0 rfl) ?_
  refine lv_ldc2 (v := 2) hx hb hown (hts _ lk_M_53) d_M_nearest_11 ?_
  refine lv_lload_n hx hb d_M_nearest_14 rfl (lv_at hl 2 rfl) ?_
  refine lv_lmul hx hb d_M_nearest_15 ?_
  obtain ⟨hne, hf⟩ := z_no hf
  refine lv_ldiv hx hb d_M_nearest_16 hne ?_
  refine lv_lstore (lv' := [(6, .long ((((2 : Int64) * x1) + x2) / ((2 : Int64) * x2))), (4, .long (((2 : Int64) * x1) + x2)), (0, .long x1), (2, .long x2)]) hx hb d_M_nearest_17 hl (by decide) rfl (fun ls hl => ?_)
  refine lv_lload hx hb d_M_nearest_19 (lv_at hl 1 rfl) ?_
  refine lv_lconst (v := 0) hx hb d_M_nearest_21 (by decide) ?_
  refine W.lcmp hx hb d_M_nearest_22 ?_
  refine lv_if_ge (tgt := 47) hx hb d_M_nearest_23 (by decide) (fun hc => ?_) (fun hc => ?_)
  · have hf := z_t hc hf
    refine lv_lload hx hb d_M_nearest_47 (lv_at hl 0 rfl) ?_
    obtain rfl := Option.some.inj hf
    exact W.lret hx hb hr (fun t ht hW => ⟨_, rfl, rfl, ht⟩) (fun q h => by cases h) d_M_nearest_49
  · have hf := z_f hc hf
    refine lv_lload hx hb d_M_nearest_26 (lv_at hl 0 rfl) ?_
    refine lv_ldc2 (v := 2) hx hb hown (hts _ lk_M_53) d_M_nearest_28 ?_
    refine lv_lmul hx hb d_M_nearest_31 ?_
    refine lv_lload_n hx hb d_M_nearest_32 rfl (lv_at hl 3 rfl) ?_
    refine lv_lmul hx hb d_M_nearest_33 ?_
    refine lv_lload hx hb d_M_nearest_34 (lv_at hl 1 rfl) ?_
    refine W.lcmp hx hb d_M_nearest_36 ?_
    refine lv_if_eq (tgt := 47) hx hb d_M_nearest_37 (by decide) (fun hc => ?_) (fun hc => ?_)
    · have hf := z_t hc hf
      refine lv_lload hx hb d_M_nearest_47 (lv_at hl 0 rfl) ?_
      obtain rfl := Option.some.inj hf
      exact W.lret hx hb hr (fun t ht hW => ⟨_, rfl, rfl, ht⟩) (fun q h => by cases h) d_M_nearest_49
    · have hf := z_f hc hf
      refine lv_lload hx hb d_M_nearest_40 (lv_at hl 0 rfl) ?_
      refine lv_lconst (v := 1) hx hb d_M_nearest_42 (by decide) ?_
      refine lv_lsub hx hb d_M_nearest_43 ?_
      refine lv_goto (tgt := 49) hx hb d_M_nearest_44 (by decide) ?_
      obtain rfl := Option.some.inj hf
      exact W.lret hx hb hr (fun t ht hW => ⟨_, rfl, rfl, ht⟩) (fun q h => by cases h) d_M_nearest_49
