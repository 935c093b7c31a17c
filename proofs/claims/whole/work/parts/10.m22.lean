def f_M_halve_7 (p1 : Int32) (p3 : Int32) (y0A_n : Nat) (y0A_f : Nat → Int32) (y2A_n : Nat) : Nat → Int32 → (Nat → Int32) → Option (Int32 × (Nat → Int32))
  | 0, _, _ => none
  | n + 1, v4, y2A_f => if (p3 * p3) ≤ v4 then (some (v4, y2A_f)) else (if p3 = 0 then none else (if p3 = 0 then none else (if ((((2 : Int32) * (v4 / p3)) * p1) + ((2 : Int32) * (v4 - v4 / p3 * p3))) < 0 ∨ y0A_n ≤ ((((2 : Int32) * (v4 / p3)) * p1) + ((2 : Int32) * (v4 - v4 / p3 * p3))).toNatClampNeg then none else (if (((((2 : Int32) * (v4 / p3)) * p1) + ((2 : Int32) * (v4 - v4 / p3 * p3))) + (1 : Int32)) < 0 ∨ y0A_n ≤ (((((2 : Int32) * (v4 / p3)) * p1) + ((2 : Int32) * (v4 - v4 / p3 * p3))) + (1 : Int32)).toNatClampNeg then none else (if (((((2 : Int32) * (v4 / p3)) * p1) + ((2 : Int32) * (v4 - v4 / p3 * p3))) + p1) < 0 ∨ y0A_n ≤ (((((2 : Int32) * (v4 / p3)) * p1) + ((2 : Int32) * (v4 - v4 / p3 * p3))) + p1).toNatClampNeg then none else (if ((((((2 : Int32) * (v4 / p3)) * p1) + ((2 : Int32) * (v4 - v4 / p3 * p3))) + p1) + (1 : Int32)) < 0 ∨ y0A_n ≤ ((((((2 : Int32) * (v4 / p3)) * p1) + ((2 : Int32) * (v4 - v4 / p3 * p3))) + p1) + (1 : Int32)).toNatClampNeg then none else (if v4 < 0 ∨ y2A_n ≤ v4.toNatClampNeg then none else (f_M_halve_7 p1 p3 y0A_n y0A_f y2A_n n (v4 + 1) (upd y2A_f v4.toNatClampNeg ((((((y0A_f ((((2 : Int32) * (v4 / p3)) * p1) + ((2 : Int32) * (v4 - v4 / p3 * p3))).toNatClampNeg) + (y0A_f (((((2 : Int32) * (v4 / p3)) * p1) + ((2 : Int32) * (v4 - v4 / p3 * p3))) + (1 : Int32)).toNatClampNeg)) + (y0A_f (((((2 : Int32) * (v4 / p3)) * p1) + ((2 : Int32) * (v4 - v4 / p3 * p3))) + p1).toNatClampNeg)) + (y0A_f ((((((2 : Int32) * (v4 / p3)) * p1) + ((2 : Int32) * (v4 - v4 / p3 * p3))) + p1) + (1 : Int32)).toNatClampNeg)) + (2 : Int32)) / (4 : Int32)))))))))))
def f_M_halve (x1 : Int32) (y0A_n : Nat) (y0A_f : Nat → Int32) (y2A_n : Nat) (y2A_f : Nat → Int32) : Option (Nat → Int32) := (f_M_halve_7 x1 (x1 / (2 : Int32)) y0A_n y0A_f y2A_n FU (0 : Int32) y2A_f).bind (fun q835 => some q835.2)
set_option maxHeartbeats 4000000 in
set_option maxRecDepth 100000 in
theorem c_M_halve (l : Launch) (dC : Nat → ClassId) (dI : Nat → Nat → Nat) (cI cL : ClassId) {ws0 : va_W} (sz : Nat) {ky0A ky2A ay0A ay2A : Nat} {y0A_n y2A_n : Nat} {y0A_f y2A_f : Nat → Int32} (x1 : Int32) (hN_y0A : zA ws0 ky0A (ay0A, .inl (cI, y0A_n, .inl y0A_f))) (hN_y2A : zA ws0 ky2A (ay2A, .inl (cI, y2A_n, .inl y2A_f))) (ne_y0A_y2A : ky0A ≠ ky2A) (r : Nat → Int32) (hf : f_M_halve x1 y0A_n y0A_f y2A_n y2A_f = some r) : Met l y_M_halve w_M_halve rm_M_halve (va_Pc [.ref ay0A, .int x1, .ref ay2A] (zM dC dI cI cL ws0 sz)) (va_Qv (fun ws' : va_W => zA ws' ky2A (ay2A, .inl (cI, y2A_n, .inl r)) ∧ ∀ (j : Nat), j ∉ ([ky2A] : List Nat) → ws'[j]? = ws0[j]?) (zQ dC dI cI cL (va_A ws0 sz)) (va_A ws0 sz)) 0 0 (va_A ws0 sz) := by
  refine Met.ofW (cc := b_M_halve) (maxL := 6) (ret := none) (by decide) rfl ?_
  intro p e s m args below meth c s₁ B hml hv
  obtain ⟨rfl, hsz, hP, hK, hZ, hD0⟩ := hv
  have hx := B.exec
  have hb := B.bytes
  have hr := B.returns
  have hlocks := B.notSynchronized
  have hts : ∀ w ∈ BIG, w.before ([.ref ay0A, .int x1, .ref ay2A] : List Value).toArray s = true := fun w h => atoms_spec (ws := w_M_halve) B.pre w (List.mem_cons_of_mem _ h)
  have hown : s.vm.findClass "FractalMapsModel" = some m.cls := findClass_of_methodNamed B.named
  subst hsz
  have hD := hD0.self (sz := s.heap.size)
  generalize hAe : va_A ws0 s.heap.size = A at hD ⊢
  have hA : ∀ q : Nat, s.heap.size ≤ q → A q := fun q h => by rw [← hAe]; exact Or.inr h
  have hS : va_S A s.heap s.heap [] := va_S.rf
  have hw : ∀ (j : Nat), j ∉ ([ky2A] : List Nat) → ws0[j]? = ws0[j]? := fun _ _ => rfl
  have hl := lv_entry ([.ref ay0A, .int x1, .ref ay2A]) (n := 6) (Nat.le_of_ble_eq_true rfl)
  rw [lg_entry_eq]
  generalize (lg_sl ([.ref ay0A, .int x1, .ref ay2A]) ++ List.replicate (6 - (lg_sl ([.ref ay0A, .int x1, .ref ay2A])).length) Slot.unset).toArray = ls at hl ⊢
  have hl : lv_has ls 6 [(0, .ref ay0A), (1, .int x1), (2, .ref ay2A)] := hl
  unfold f_M_halve at hf
  refine lv_iload_n hx hb d_M_halve_0 rfl (lv_at hl 1 rfl) ?_
  refine lv_iconst (v := 2) hx hb d_M_halve_1 (by decide) ?_
  refine lv_idiv hx hb d_M_halve_2 (by decide) ?_
  refine lv_istore_n (lv' := [(3, .int (x1 / (2 : Int32))), (0, .ref ay0A), (1, .int x1), (2, .ref ay2A)]) hx hb d_M_halve_3 rfl hl (by decide) rfl (fun ls hl => ?_)
  refine lv_iconst (v := 0) hx hb d_M_halve_4 (by decide) ?_
  refine lv_istore (lv' := [(4, .int (0 : Int32)), (3, .int (x1 / (2 : Int32))), (0, .ref ay0A), (1, .int x1), (2, .ref ay2A)]) hx hb d_M_halve_5 hl (by decide) rfl (fun ls hl => ?_)
  have lp838 : ∀ (Qx : State → Prop) (n : Nat) (v4_836 : Int32) (y2A_f_837 : Nat → Int32) (ws : va_W) (H : Heap) (locs : List Loc) (ls : Array Slot) (q : Int32 × (Nat → Int32)) (hf : f_M_halve_7 x1 (x1 / (2 : Int32)) y0A_n y0A_f y2A_n n v4_836 y2A_f_837 = some q) (hl : lv_has ls 6 [(0, .ref ay0A), (1, .int x1), (2, .ref ay2A), (3, .int (x1 / (2 : Int32))), (4, .int v4_836)]) (hP : va_P (dC, dI) classes ws H) (hD : va_D A ws) (hS : va_S A s.heap H locs) (hN_y0A : zA ws ky0A (ay0A, .inl (cI, y0A_n, .inl y0A_f))) (hN_y2A : zA ws ky2A (ay2A, .inl (cI, y2A_n, .inl y2A_f_837))) (hw : ∀ (j : Nat), j ∉ ([ky2A] : List Nat) → ws[j]? = ws0[j]?) (kt0 : ∀ (ws : va_W) (H : Heap) (locs : List Loc) (ls : Array Slot), lv_has ls 6 [(0, .ref ay0A), (1, .int x1), (2, .ref ay2A), (3, .int (x1 / (2 : Int32))), (4, .int q.1)] → (va_P (dC, dI) classes ws H) → (va_D A ws) → (va_S A s.heap H locs) → (zA ws ky0A (ay0A, .inl (cI, y0A_n, .inl y0A_f))) → (zA ws ky2A (ay2A, .inl (cI, y2A_n, .inl q.2))) → (∀ (j : Nat), j ∉ ([ky2A] : List Nat) → ws[j]? = ws0[j]?) → W p l e (headSpec w_M_halve rm_M_halve).room s m ([.ref ay0A, .int x1, .ref ay2A] : List Value).toArray below meth c H locs 0 0 Qx (F0 m 73 ls [])), W p l e (headSpec w_M_halve rm_M_halve).room s m ([.ref ay0A, .int x1, .ref ay2A] : List Value).toArray below meth c H locs 0 0 Qx (F0 m 7 ls []) := by
    intro Qx n
    induction n with
    | zero => intro v4_836 y2A_f_837 ws H locs ls q hf; cases hf
    | succ n ih =>
      intro v4_836 y2A_f_837 ws H locs ls q hf hl hP hD hS hN_y0A hN_y2A hw kt0
      rw [f_M_halve_7] at hf
      refine lv_iload hx hb d_M_halve_7 (lv_at hl 4 rfl) ?_
      refine lv_iload_n hx hb d_M_halve_9 rfl (lv_at hl 3 rfl) ?_
      refine lv_iload_n hx hb d_M_halve_10 rfl (lv_at hl 3 rfl) ?_
      refine lv_imul hx hb d_M_halve_11 ?_
      refine lv_icmp_ge (tgt := 73) hx hb d_M_halve_12 (by decide) (fun hc => ?_) (fun hc => ?_)
      · have hf := z_t hc hf
        obtain rfl := Option.some.inj hf
        exact kt0 _ _ _ ls (lv_sub hl [0, 1, 2, 3, 4] rfl) hP hD hS hN_y0A hN_y2A hw
      · have hf := z_f hc hf
        refine lv_iconst (v := 2) hx hb d_M_halve_15 (by decide) ?_
        refine lv_iload hx hb d_M_halve_16 (lv_at hl 4 rfl) ?_
        refine lv_iload_n hx hb d_M_halve_18 rfl (lv_at hl 3 rfl) ?_
        obtain ⟨hne, hf⟩ := z_no hf
        refine lv_idiv hx hb d_M_halve_19 hne ?_
        refine lv_imul hx hb d_M_halve_20 ?_
        refine lv_iload_n hx hb d_M_halve_21 rfl (lv_at hl 1 rfl) ?_
        refine lv_imul hx hb d_M_halve_22 ?_
        refine lv_iconst (v := 2) hx hb d_M_halve_23 (by decide) ?_
        refine lv_iload hx hb d_M_halve_24 (lv_at hl 4 rfl) ?_
        refine lv_iload_n hx hb d_M_halve_26 rfl (lv_at hl 3 rfl) ?_
        obtain ⟨hne, hf⟩ := z_no hf
        refine lv_irem hx hb d_M_halve_27 hne ?_
        refine lv_imul hx hb d_M_halve_28 ?_
        refine lv_iadd hx hb d_M_halve_29 ?_
        refine lv_istore (lv' := [(5, .int ((((2 : Int32) * (v4_836 / (x1 / (2 : Int32)))) * x1) + ((2 : Int32) * (v4_836 - v4_836 / (x1 / (2 : Int32)) * (x1 / (2 : Int32)))))), (0, .ref ay0A), (1, .int x1), (2, .ref ay2A), (3, .int (x1 / (2 : Int32))), (4, .int v4_836)]) hx hb d_M_halve_30 hl (by decide) rfl (fun ls hl => ?_)
        refine lv_aload_n hx hb d_M_halve_32 rfl (lv_at hl 3 rfl) ?_
        refine lv_iload hx hb d_M_halve_33 (lv_at hl 5 rfl) ?_
        refine lv_aload_n hx hb d_M_halve_35 rfl (lv_at hl 1 rfl) ?_
        refine lv_iload hx hb d_M_halve_36 (lv_at hl 0 rfl) ?_
        obtain ⟨hin, hf⟩ := z_no hf
        refine va_iald hx hb hK hP _ 0 hN_y0A rfl hin d_M_halve_38 ?_
        refine lv_aload_n hx hb d_M_halve_39 rfl (lv_at hl 1 rfl) ?_
        refine lv_iload hx hb d_M_halve_40 (lv_at hl 0 rfl) ?_
        refine lv_iconst (v := 1) hx hb d_M_halve_42 (by decide) ?_
        refine lv_iadd hx hb d_M_halve_43 ?_
        obtain ⟨hin, hf⟩ := z_no hf
        refine va_iald hx hb hK hP _ 0 hN_y0A rfl hin d_M_halve_44 ?_
        refine lv_iadd hx hb d_M_halve_45 ?_
        refine lv_aload_n hx hb d_M_halve_46 rfl (lv_at hl 1 rfl) ?_
        refine lv_iload hx hb d_M_halve_47 (lv_at hl 0 rfl) ?_
        refine lv_iload_n hx hb d_M_halve_49 rfl (lv_at hl 2 rfl) ?_
        refine lv_iadd hx hb d_M_halve_50 ?_
        obtain ⟨hin, hf⟩ := z_no hf
        refine va_iald hx hb hK hP _ 0 hN_y0A rfl hin d_M_halve_51 ?_
        refine lv_iadd hx hb d_M_halve_52 ?_
        refine lv_aload_n hx hb d_M_halve_53 rfl (lv_at hl 1 rfl) ?_
        refine lv_iload hx hb d_M_halve_54 (lv_at hl 0 rfl) ?_
        refine lv_iload_n hx hb d_M_halve_56 rfl (lv_at hl 2 rfl) ?_
        refine lv_iadd hx hb d_M_halve_57 ?_
        refine lv_iconst (v := 1) hx hb d_M_halve_58 (by decide) ?_
        refine lv_iadd hx hb d_M_halve_59 ?_
        obtain ⟨hin, hf⟩ := z_no hf
        refine va_iald hx hb hK hP _ 0 hN_y0A rfl hin d_M_halve_60 ?_
        refine lv_iadd hx hb d_M_halve_61 ?_
        refine lv_iconst (v := 2) hx hb d_M_halve_62 (by decide) ?_
        refine lv_iadd hx hb d_M_halve_63 ?_
        refine lv_iconst (v := 4) hx hb d_M_halve_64 (by decide) ?_
        refine lv_idiv hx hb d_M_halve_65 (by decide) ?_
        obtain ⟨hin, hf⟩ := z_no hf
        refine z_iast hx hb hK hP hD hS hN_y2A rfl hin d_M_halve_66 (fun ws H locs hP hD hS hN_y2A hfr => ?_)
        have hN_y2A : zA ws ky2A (ay2A, .inl (cI, y2A_n, .inl (upd y2A_f_837 v4_836.toNatClampNeg ((((((y0A_f ((((2 : Int32) * (v4_836 / (x1 / (2 : Int32)))) * x1) + ((2 : Int32) * (v4_836 - v4_836 / (x1 / (2 : Int32)) * (x1 / (2 : Int32))))).toNatClampNeg) + (y0A_f (((((2 : Int32) * (v4_836 / (x1 / (2 : Int32)))) * x1) + ((2 : Int32) * (v4_836 - v4_836 / (x1 / (2 : Int32)) * (x1 / (2 : Int32))))) + (1 : Int32)).toNatClampNeg)) + (y0A_f (((((2 : Int32) * (v4_836 / (x1 / (2 : Int32)))) * x1) + ((2 : Int32) * (v4_836 - v4_836 / (x1 / (2 : Int32)) * (x1 / (2 : Int32))))) + x1).toNatClampNeg)) + (y0A_f ((((((2 : Int32) * (v4_836 / (x1 / (2 : Int32)))) * x1) + ((2 : Int32) * (v4_836 - v4_836 / (x1 / (2 : Int32)) * (x1 / (2 : Int32))))) + x1) + (1 : Int32)).toNatClampNeg)) + (2 : Int32)) / (4 : Int32))))) := hN_y2A
        have hN_y0A := (hfr _ ne_y0A_y2A).trans hN_y0A
        have hw := z_fr List.mem_cons_self hw hfr
        refine lv_iinc (v := (v4_836 + 1)) (lv' := [(4, .int (v4_836 + 1)), (5, .int ((((2 : Int32) * (v4_836 / (x1 / (2 : Int32)))) * x1) + ((2 : Int32) * (v4_836 - v4_836 / (x1 / (2 : Int32)) * (x1 / (2 : Int32)))))), (0, .ref ay0A), (1, .int x1), (2, .ref ay2A), (3, .int (x1 / (2 : Int32)))]) hx hb d_M_halve_67 hl (k := 5) rfl rfl (by decide) rfl (fun ls hl => ?_)
        refine lv_goto (tgt := 7) hx hb d_M_halve_70 (by decide) ?_
        exact ih (v4_836 + 1) (upd y2A_f_837 v4_836.toNatClampNeg ((((((y0A_f ((((2 : Int32) * (v4_836 / (x1 / (2 : Int32)))) * x1) + ((2 : Int32) * (v4_836 - v4_836 / (x1 / (2 : Int32)) * (x1 / (2 : Int32))))).toNatClampNeg) + (y0A_f (((((2 : Int32) * (v4_836 / (x1 / (2 : Int32)))) * x1) + ((2 : Int32) * (v4_836 - v4_836 / (x1 / (2 : Int32)) * (x1 / (2 : Int32))))) + (1 : Int32)).toNatClampNeg)) + (y0A_f (((((2 : Int32) * (v4_836 / (x1 / (2 : Int32)))) * x1) + ((2 : Int32) * (v4_836 - v4_836 / (x1 / (2 : Int32)) * (x1 / (2 : Int32))))) + x1).toNatClampNeg)) + (y0A_f ((((((2 : Int32) * (v4_836 / (x1 / (2 : Int32)))) * x1) + ((2 : Int32) * (v4_836 - v4_836 / (x1 / (2 : Int32)) * (x1 / (2 : Int32))))) + x1) + (1 : Int32)).toNatClampNeg)) + (2 : Int32)) / (4 : Int32))) _ _ _ ls _ hf (lv_sub hl [2, 3, 4, 5, 0] rfl) hP hD hS hN_y0A hN_y2A hw kt0
  obtain ⟨q835, hc, hf⟩ := z_b hf
  refine lp838 _ FU (0 : Int32) y2A_f _ _ _ ls q835 hc (lv_sub hl [2, 3, 4, 1, 0] rfl) hP hD hS hN_y0A hN_y2A hw (fun ws H locs ls hl hP hD hS hN_y0A hN_y2A hw => ?_)
  obtain rfl := Option.some.inj hf
  exact W.vret hx hb hr (fun t ht hW => ⟨⟨ws, rfl, ⟨hN_y2A, hw⟩, by rw [ht]; exact hP, va_K.moved hW.alike hK, hD⟩, hS.F ht⟩) hS.2.2 d_M_halve_73
def f_M_turned_17 (p1 : Int32) (p2 : Int32) (p3 : Int32) (p4 : Int32) (p5 : Int32) (p6 : Int32) : Nat → Int32 → Int32 → Int32 → Option (Int32 × Int32 × Int32)
  | 0, _, _, _ => none
  | n + 1, v7, v8, v9 => if (p5 - p5 / (4 : Int32) * (4 : Int32)) ≤ v9 then (some (v7, v8, v9)) else (f_M_turned_17 p1 p2 p3 p4 p5 p6 n v8 ((p4 - (1 : Int32)) - v7) (v9 + 1))
def f_M_turned (x1 : Int32) (x2 : Int32) (x3 : Int32) (x4 : Int32) (x5 : Int32) (x6 : Int32) (y0A_n : Nat) (y0A_f : Nat → Int32) : Option (Int32) := if x4 = 0 then none else (if x4 = 0 then none else ((f_M_turned_17 x1 x2 x3 x4 x5 x6 FU (x6 - x6 / x4 * x4) (x6 / x4) (0 : Int32)).bind (fun q839 => if x5 ≤ (3 : Int32) then (if ((((x3 + q839.2.1) * x1) + x2) + q839.1) < 0 ∨ y0A_n ≤ ((((x3 + q839.2.1) * x1) + x2) + q839.1).toNatClampNeg then none else (some (y0A_f ((((x3 + q839.2.1) * x1) + x2) + q839.1).toNatClampNeg))) else (if ((((x3 + q839.2.1) * x1) + x2) + ((x4 - (1 : Int32)) - q839.1)) < 0 ∨ y0A_n ≤ ((((x3 + q839.2.1) * x1) + x2) + ((x4 - (1 : Int32)) - q839.1)).toNatClampNeg then none else (some (y0A_f ((((x3 + q839.2.1) * x1) + x2) + ((x4 - (1 : Int32)) - q839.1)).toNatClampNeg))))))
set_option maxHeartbeats 4000000 in
set_option maxRecDepth 100000 in
theorem c_M_turned (l : Launch) (dC : Nat → ClassId) (dI : Nat → Nat → Nat) (cI cL : ClassId) {ws : va_W} {ky0A ay0A : Nat} {y0A_n : Nat} {y0A_f : Nat → Int32} (x1 : Int32) (x2 : Int32) (x3 : Int32) (x4 : Int32) (x5 : Int32) (x6 : Int32) (hN_y0A : zA ws ky0A (ay0A, .inl (cI, y0A_n, .inl y0A_f))) (r : Int32) (hf : f_M_turned x1 x2 x3 x4 x5 x6 y0A_n y0A_f = some r) : Met l y_M_turned w_M_turned rm_M_turned (va_Pc [.ref ay0A, .int x1, .int x2, .int x3, .int x4, .int x5, .int x6] (zR dC dI cI cL ws)) (vp_Si (fun v => v = r)) 0 0 (fun _ => False) := by
  refine Met.ofW (cc := b_M_turned) (maxL := 11) (ret := some .int) (by decide) rfl ?_
  intro p e s m args below meth c s₁ B hml hv
  obtain ⟨rfl, hP, hK, hZ⟩ := hv
  have hx := B.exec
  have hb := B.bytes
  have hr := B.returns
  have hlocks := B.notSynchronized
  have hts : ∀ w ∈ BIG, w.before ([.ref ay0A, .int x1, .int x2, .int x3, .int x4, .int x5, .int x6] : List Value).toArray s = true := fun w h => atoms_spec (ws := w_M_turned) B.pre w (List.mem_cons_of_mem _ h)
  have hown : s.vm.findClass "FractalMapsModel" = some m.cls := findClass_of_methodNamed B.named
  have hl := lv_entry ([.ref ay0A, .int x1, .int x2, .int x3, .int x4, .int x5, .int x6]) (n := 11) (Nat.le_of_ble_eq_true rfl)
  rw [lg_entry_eq]
  generalize (lg_sl ([.ref ay0A, .int x1, .int x2, .int x3, .int x4, .int x5, .int x6]) ++ List.replicate (11 - (lg_sl ([.ref ay0A, .int x1, .int x2, .int x3, .int x4, .int x5, .int x6])).length) Slot.unset).toArray = ls at hl ⊢
  have hl : lv_has ls 11 [(0, .ref ay0A), (1, .int x1), (2, .int x2), (3, .int x3), (4, .int x4), (5, .int x5), (6, .int x6)] := hl
  unfold f_M_turned at hf
  refine lv_iload hx hb d_M_turned_0 (lv_at hl 6 rfl) ?_
  refine lv_iload hx hb d_M_turned_2 (lv_at hl 4 rfl) ?_
  obtain ⟨hne, hf⟩ := z_no hf
  refine lv_irem hx hb d_M_turned_4 hne ?_
  refine lv_istore (lv' := [(7, .int (x6 - x6 / x4 * x4)), (0, .ref ay0A), (1, .int x1), (2, .int x2), (3, .int x3), (4, .int x4), (5, .int x5), (6, .int x6)]) hx hb d_M_turned_5 hl (by decide) rfl (fun ls hl => ?_)
  refine lv_iload hx hb d_M_turned_7 (lv_at hl 7 rfl) ?_
  refine lv_iload hx hb d_M_turned_9 (lv_at hl 5 rfl) ?_
  obtain ⟨hne, hf⟩ := z_no hf
  refine lv_idiv hx hb d_M_turned_11 hne ?_
  refine lv_istore (lv' := [(8, .int (x6 / x4)), (7, .int (x6 - x6 / x4 * x4)), (0, .ref ay0A), (1, .int x1), (2, .int x2), (3, .int x3), (4, .int x4), (5, .int x5), (6, .int x6)]) hx hb d_M_turned_12 hl (by decide) rfl (fun ls hl => ?_)
  refine lv_iconst (v := 0) hx hb d_M_turned_14 (by decide) ?_
  refine lv_istore (lv' := [(9, .int (0 : Int32)), (8, .int (x6 / x4)), (7, .int (x6 - x6 / x4 * x4)), (0, .ref ay0A), (1, .int x1), (2, .int x2), (3, .int x3), (4, .int x4), (5, .int x5), (6, .int x6)]) hx hb d_M_turned_15 hl (by decide) rfl (fun ls hl => ?_)
  have lp843 : ∀ (Qx : State → Prop) (n : Nat) (v7_840 : Int32) (v8_841 : Int32) (v9_842 : Int32) (ls : Array Slot) (q : Int32 × Int32 × Int32) (hf : f_M_turned_17 x1 x2 x3 x4 x5 x6 n v7_840 v8_841 v9_842 = some q) (hl : lv_has ls 11 [(0, .ref ay0A), (1, .int x1), (2, .int x2), (3, .int x3), (4, .int x4), (5, .int x5), (6, .int x6), (7, .int v7_840), (8, .int v8_841), (9, .int v9_842)]) (kt0 : ∀ (ls : Array Slot), lv_has ls 11 [(0, .ref ay0A), (1, .int x1), (2, .int x2), (3, .int x3), (4, .int x4), (5, .int x5), (6, .int x6), (7, .int q.1), (8, .int q.2.1), (9, .int q.2.2)] → W p l e (headSpec w_M_turned rm_M_turned).room s m ([.ref ay0A, .int x1, .int x2, .int x3, .int x4, .int x5, .int x6] : List Value).toArray below meth c s.heap [] 0 0 Qx (F0 m 49 ls [])), W p l e (headSpec w_M_turned rm_M_turned).room s m ([.ref ay0A, .int x1, .int x2, .int x3, .int x4, .int x5, .int x6] : List Value).toArray below meth c s.heap [] 0 0 Qx (F0 m 17 ls []) := by
    intro Qx n
    induction n with
    | zero => intro v7_840 v8_841 v9_842 ls q hf; cases hf
    | succ n ih =>
      intro v7_840 v8_841 v9_842 ls q hf hl kt0
      rw [f_M_turned_17] at hf
      refine lv_iload hx hb d_M_turned_17 (lv_at hl 9 rfl) ?_
      refine lv_iload hx hb d_M_turned_19 (lv_at hl 5 rfl) ?_
      refine lv_iconst (v := 4) hx hb d_M_turned_21 (by decide) ?_
      refine lv_irem hx hb d_M_turned_22 (by decide) ?_
      refine lv_icmp_ge (tgt := 49) hx hb d_M_turned_23 (by decide) (fun hc => ?_) (fun hc => ?_)
      · have hf := z_t hc hf
        obtain rfl := Option.some.inj hf
        exact kt0 ls (lv_sub hl [0, 1, 2, 3, 4, 5, 6, 7, 8, 9] rfl)
      · have hf := z_f hc hf
        refine lv_iload hx hb d_M_turned_26 (lv_at hl 7 rfl) ?_
        refine lv_istore (lv' := [(10, .int v7_840), (0, .ref ay0A), (1, .int x1), (2, .int x2), (3, .int x3), (4, .int x4), (5, .int x5), (6, .int x6), (7, .int v7_840), (8, .int v8_841), (9, .int v9_842)]) hx hb d_M_turned_28 hl (by decide) rfl (fun ls hl => ?_)
        refine lv_iload hx hb d_M_turned_30 (lv_at hl 9 rfl) ?_
        refine lv_istore (lv' := [(7, .int v8_841), (10, .int v7_840), (0, .ref ay0A), (1, .int x1), (2, .int x2), (3, .int x3), (4, .int x4), (5, .int x5), (6, .int x6), (8, .int v8_841), (9, .int v9_842)]) hx hb d_M_turned_32 hl (by decide) rfl (fun ls hl => ?_)
        refine lv_iload hx hb d_M_turned_34 (lv_at hl 6 rfl) ?_
        refine lv_iconst (v := 1) hx hb d_M_turned_36 (by decide) ?_
        refine lv_isub hx hb d_M_turned_37 ?_
        refine lv_iload hx hb d_M_turned_38 (lv_at hl 1 rfl) ?_
        refine lv_isub hx hb d_M_turned_40 ?_
        refine lv_istore (lv' := [(8, .int ((x4 - (1 : Int32)) - v7_840)), (7, .int v8_841), (10, .int v7_840), (0, .ref ay0A), (1, .int x1), (2, .int x2), (3, .int x3), (4, .int x4), (5, .int x5), (6, .int x6), (9, .int v9_842)]) hx hb d_M_turned_41 hl (by decide) rfl (fun ls hl => ?_)
        refine lv_iinc (v := (v9_842 + 1)) (lv' := [(9, .int (v9_842 + 1)), (8, .int ((x4 - (1 : Int32)) - v7_840)), (7, .int v8_841), (10, .int v7_840), (0, .ref ay0A), (1, .int x1), (2, .int x2), (3, .int x3), (4, .int x4), (5, .int x5), (6, .int x6)]) hx hb d_M_turned_43 hl (k := 10) rfl rfl (by decide) rfl (fun ls hl => ?_)
        refine lv_goto (tgt := 17) hx hb d_M_turned_46 (by decide) ?_
        exact ih v8_841 ((x4 - (1 : Int32)) - v7_840) (v9_842 + 1) ls _ hf (lv_sub hl [4, 5, 6, 7, 8, 9, 10, 2, 1, 0] rfl) kt0
  obtain ⟨q839, hc, hf⟩ := z_b hf
  refine lp843 _ FU (x6 - x6 / x4 * x4) (x6 / x4) (0 : Int32) ls q839 hc (lv_sub hl [3, 4, 5, 6, 7, 8, 9, 2, 1, 0] rfl) (fun ls hl => ?_)
  refine lv_iload hx hb d_M_turned_49 (lv_at hl 5 rfl) ?_
  refine lv_iconst (v := 3) hx hb d_M_turned_51 (by decide) ?_
  refine lv_icmp_le (tgt := 65) hx hb d_M_turned_52 (by decide) (fun hc => ?_) (fun hc => ?_)
  · have hf := z_t hc hf
    refine lv_iload hx hb d_M_turned_65 (lv_at hl 7 rfl) ?_
    refine lv_istore (lv' := [(7, .int q839.1), (0, .ref ay0A), (1, .int x1), (2, .int x2), (3, .int x3), (4, .int x4), (5, .int x5), (6, .int x6), (8, .int q839.2.1), (9, .int q839.2.2)]) hx hb d_M_turned_67 hl (by decide) rfl (fun ls hl => ?_)
    refine lv_aload_n hx hb d_M_turned_69 rfl (lv_at hl 1 rfl) ?_
    refine lv_iload_n hx hb d_M_turned_70 rfl (lv_at hl 4 rfl) ?_
    refine lv_iload hx hb d_M_turned_71 (lv_at hl 8 rfl) ?_
    refine lv_iadd hx hb d_M_turned_73 ?_
    refine lv_iload_n hx hb d_M_turned_74 rfl (lv_at hl 2 rfl) ?_
    refine lv_imul hx hb d_M_turned_75 ?_
    refine lv_iload_n hx hb d_M_turned_76 rfl (lv_at hl 3 rfl) ?_
    refine lv_iadd hx hb d_M_turned_77 ?_
    refine lv_iload hx hb d_M_turned_78 (lv_at hl 0 rfl) ?_
    refine lv_iadd hx hb d_M_turned_80 ?_
    obtain ⟨hin, hf⟩ := z_no hf
    refine va_iald hx hb hK hP _ 0 hN_y0A rfl hin d_M_turned_81 ?_
    obtain rfl := Option.some.inj hf
    exact W.iret hx hb hr (fun t ht hW => ⟨_, rfl, rfl, ht⟩) (fun q h => by cases h) d_M_turned_82
  · have hf := z_f hc hf
    refine lv_iload hx hb d_M_turned_55 (lv_at hl 4 rfl) ?_
    refine lv_iconst (v := 1) hx hb d_M_turned_57 (by decide) ?_
    refine lv_isub hx hb d_M_turned_58 ?_
    refine lv_iload hx hb d_M_turned_59 (lv_at hl 7 rfl) ?_
    refine lv_isub hx hb d_M_turned_61 ?_
    refine lv_goto (tgt := 67) hx hb d_M_turned_62 (by decide) ?_
    refine lv_istore (lv' := [(7, .int ((x4 - (1 : Int32)) - q839.1)), (0, .ref ay0A), (1, .int x1), (2, .int x2), (3, .int x3), (4, .int x4), (5, .int x5), (6, .int x6), (8, .int q839.2.1), (9, .int q839.2.2)]) hx hb d_M_turned_67 hl (by decide) rfl (fun ls hl => ?_)
    refine lv_aload_n hx hb d_M_turned_69 rfl (lv_at hl 1 rfl) ?_
    refine lv_iload_n hx hb d_M_turned_70 rfl (lv_at hl 4 rfl) ?_
    refine lv_iload hx hb d_M_turned_71 (lv_at hl 8 rfl) ?_
    refine lv_iadd hx hb d_M_turned_73 ?_
    refine lv_iload_n hx hb d_M_turned_74 rfl (lv_at hl 2 rfl) ?_
    refine lv_imul hx hb d_M_turned_75 ?_
    refine lv_iload_n hx hb d_M_turned_76 rfl (lv_at hl 3 rfl) ?_
    refine lv_iadd hx hb d_M_turned_77 ?_
    refine lv_iload hx hb d_M_turned_78 (lv_at hl 0 rfl) ?_
    refine lv_iadd hx hb d_M_turned_80 ?_
    obtain ⟨hin, hf⟩ := z_no hf
    refine va_iald hx hb hK hP _ 0 hN_y0A rfl hin d_M_turned_81 ?_
    obtain rfl := Option.some.inj hf
    exact W.iret hx hb hr (fun t ht hW => ⟨_, rfl, rfl, ht⟩) (fun q h => by cases h) d_M_turned_82
def f_M_layDomain_10 (p1 : Int32) (p2 : Int32) (p3 : Int32) (p4 : Int32) (X_side : Int32) (Xhalf_n : Nat) (Xhalf_f : Nat → Int32) (Xds_n : Nat) : Nat → Int32 → (Nat → Int32) → Option (Int32 × (Nat → Int32))
  | 0, _, _ => none
  | n + 1, v5, Xds_f => if (p1 * p1) ≤ v5 then (some (v5, Xds_f)) else (if p4 = 0 then none else (if p4 = 0 then none else ((f_M_turned (X_side / (2 : Int32)) ((p1 * (p2 - p2 / p4 * p4)) / (2 : Int32)) ((p1 * (p2 / p4)) / (2 : Int32)) p1 p3 v5 Xhalf_n Xhalf_f).bind (fun q846 => if v5 < 0 ∨ Xds_n ≤ v5.toNatClampNeg then none else (f_M_layDomain_10 p1 p2 p3 p4 X_side Xhalf_n Xhalf_f Xds_n n (v5 + 1) (upd Xds_f v5.toNatClampNeg q846))))))
def f_M_layDomain (x1 : Int32) (x2 : Int32) (x3 : Int32) (X_side : Int32) (Xhalf_n : Nat) (Xhalf_f : Nat → Int32) (Xds_n : Nat) (Xds_f : Nat → Int32) : Option (Nat → Int32) := (f_M_domains x1 X_side).bind (fun q844 => (f_M_layDomain_10 x1 x2 x3 q844 X_side Xhalf_n Xhalf_f Xds_n FU (0 : Int32) Xds_f).bind (fun q848 => some q848.2))
set_option maxHeartbeats 4000000 in
set_option maxRecDepth 100000 in
theorem c_M_layDomain (l : Launch) (dC : Nat → ClassId) (dI : Nat → Nat → Nat) (cI cL : ClassId) {ws0 : va_W} (sz : Nat) {aX aXpicture aXhalf aXblocks aXencoded aXfed aXpile aXnews aXolds aXhalves aXds aXrs aXbest : Nat} {X_code X_side X_many X_found X_encodedBits X_fedMany X_readAt X_why X_tried X_waiting X_decoded : Int32} {X_bestError : Int64} {Xhalf_n Xds_n : Nat} {Xhalf_f Xds_f : Nat → Int32} (x1 : Int32) (x2 : Int32) (x3 : Int32) (hN_X : zA ws0 21 (aX, .inr (7, [.int X_code, .int X_side, .ref aXpicture, .ref aXhalf, .int X_many, .ref aXblocks, .int X_found, .int X_encodedBits, .ref aXencoded, .int X_fedMany, .ref aXfed, .int X_readAt, .int X_why, .int X_tried, .int X_waiting, .ref aXpile, .int X_decoded, .ref aXnews, .ref aXolds, .ref aXhalves, .ref aXds, .ref aXrs, .ref aXbest, .long X_bestError]))) (hN_Xhalf : zA ws0 23 (aXhalf, .inl (cI, Xhalf_n, .inl Xhalf_f))) (hN_Xds : zA ws0 31 (aXds, .inl (cI, Xds_n, .inl Xds_f))) (r : Nat → Int32) (hf : f_M_layDomain x1 x2 x3 X_side Xhalf_n Xhalf_f Xds_n Xds_f = some r) : Met l y_M_layDomain w_M_layDomain rm_M_layDomain (va_Pc [.ref aX, .int x1, .int x2, .int x3] (zM dC dI cI cL ws0 sz)) (va_Qv (fun ws' : va_W => zA ws' 31 (aXds, .inl (cI, Xds_n, .inl r)) ∧ ∀ (j : Nat), j ∉ ([31] : List Nat) → ws'[j]? = ws0[j]?) (zQ dC dI cI cL (va_A ws0 sz)) (va_A ws0 sz)) 0 0 (va_A ws0 sz) := by
  refine Met.ofW (cc := b_M_layDomain) (maxL := 6) (ret := none) (by decide) rfl ?_
  intro p e s m args below meth c s₁ B hml hv
  obtain ⟨rfl, hsz, hP, hK, hZ, hD0⟩ := hv
  have hx := B.exec
  have hb := B.bytes
  have hr := B.returns
  have hlocks := B.notSynchronized
  have hts : ∀ w ∈ BIG, w.before ([.ref aX, .int x1, .int x2, .int x3] : List Value).toArray s = true := fun w h => atoms_spec (ws := w_M_layDomain) B.pre w (List.mem_cons_of_mem _ h)
  have hown : s.vm.findClass "FractalMapsModel" = some m.cls := findClass_of_methodNamed B.named
  subst hsz
  have hD := hD0.self (sz := s.heap.size)
  generalize hAe : va_A ws0 s.heap.size = A at hD ⊢
  have hA : ∀ q : Nat, s.heap.size ≤ q → A q := fun q h => by rw [← hAe]; exact Or.inr h
  have hS : va_S A s.heap s.heap [] := va_S.rf
  have hw : ∀ (j : Nat), j ∉ ([31] : List Nat) → ws0[j]? = ws0[j]? := fun _ _ => rfl
  have hl := lv_entry ([.ref aX, .int x1, .int x2, .int x3]) (n := 6) (Nat.le_of_ble_eq_true rfl)
  rw [lg_entry_eq]
  generalize (lg_sl ([.ref aX, .int x1, .int x2, .int x3]) ++ List.replicate (6 - (lg_sl ([.ref aX, .int x1, .int x2, .int x3])).length) Slot.unset).toArray = ls at hl ⊢
  have hl : lv_has ls 6 [(0, .ref aX), (1, .int x1), (2, .int x2), (3, .int x3)] := hl
  unfold f_M_layDomain at hf
  refine lv_aload_n hx hb d_M_layDomain_0 rfl (lv_at hl 0 rfl) ?_
  refine lv_iload_n hx hb d_M_layDomain_1 rfl (lv_at hl 1 rfl) ?_
  obtain ⟨q844, hc, hf⟩ := z_b hf
  refine vp_callSi (z_cr (va_runV (As := [.int x1]) (rest := []) ⟨hx, hb, hml, hown, hts⟩ (c_M_domains l dC dI cI cL x1 hN_X q844 hc) (cw_M_69 hts ⟨Nat.le_of_ble_eq_true rfl, Nat.le_of_ble_eq_true rfl⟩) ⟨zbR, va_recv hK hP (ci := 7) rfl hN_X, (zpR hP hK hZ)⟩ rfl rfl hl.1 rfl (lv_room (Nat.le_of_ble_eq_true rfl)) d_M_layDomain_2 ⟨Nat.zero_le _, Nat.zero_le _⟩)) (fun r845 hv => ?_)
  have hv := hv.symm
  subst hv
  refine lv_istore (lv' := [(4, .int q844), (0, .ref aX), (1, .int x1), (2, .int x2), (3, .int x3)]) hx hb d_M_layDomain_5 hl (by decide) rfl (fun ls hl => ?_)
  refine lv_iconst (v := 0) hx hb d_M_layDomain_7 (by decide) ?_
  refine lv_istore (lv' := [(5, .int (0 : Int32)), (4, .int q844), (0, .ref aX), (1, .int x1), (2, .int x2), (3, .int x3)]) hx hb d_M_layDomain_8 hl (by decide) rfl (fun ls hl => ?_)
  have lp851 : ∀ (Qx : State → Prop) (n : Nat) (v5_849 : Int32) (Xds_f_850 : Nat → Int32) (ws : va_W) (H : Heap) (locs : List Loc) (ls : Array Slot) (q : Int32 × (Nat → Int32)) (hf : f_M_layDomain_10 x1 x2 x3 q844 X_side Xhalf_n Xhalf_f Xds_n n v5_849 Xds_f_850 = some q) (hl : lv_has ls 6 [(0, .ref aX), (1, .int x1), (2, .int x2), (3, .int x3), (4, .int q844), (5, .int v5_849)]) (hP : va_P (dC, dI) classes ws H) (hD : va_D A ws) (hS : va_S A s.heap H locs) (hN_X : zA ws 21 (aX, .inr (7, [.int X_code, .int X_side, .ref aXpicture, .ref aXhalf, .int X_many, .ref aXblocks, .int X_found, .int X_encodedBits, .ref aXencoded, .int X_fedMany, .ref aXfed, .int X_readAt, .int X_why, .int X_tried, .int X_waiting, .ref aXpile, .int X_decoded, .ref aXnews, .ref aXolds, .ref aXhalves, .ref aXds, .ref aXrs, .ref aXbest, .long X_bestError]))) (hN_Xhalf : zA ws 23 (aXhalf, .inl (cI, Xhalf_n, .inl Xhalf_f))) (hN_Xds : zA ws 31 (aXds, .inl (cI, Xds_n, .inl Xds_f_850))) (hw : ∀ (j : Nat), j ∉ ([31] : List Nat) → ws[j]? = ws0[j]?) (kt0 : ∀ (ws : va_W) (H : Heap) (locs : List Loc) (ls : Array Slot), lv_has ls 6 [(0, .ref aX), (1, .int x1), (2, .int x2), (3, .int x3), (4, .int q844), (5, .int q.1)] → (va_P (dC, dI) classes ws H) → (va_D A ws) → (va_S A s.heap H locs) → (zA ws 21 (aX, .inr (7, [.int X_code, .int X_side, .ref aXpicture, .ref aXhalf, .int X_many, .ref aXblocks, .int X_found, .int X_encodedBits, .ref aXencoded, .int X_fedMany, .ref aXfed, .int X_readAt, .int X_why, .int X_tried, .int X_waiting, .ref aXpile, .int X_decoded, .ref aXnews, .ref aXolds, .ref aXhalves, .ref aXds, .ref aXrs, .ref aXbest, .long X_bestError]))) → (zA ws 23 (aXhalf, .inl (cI, Xhalf_n, .inl Xhalf_f))) → (zA ws 31 (aXds, .inl (cI, Xds_n, .inl q.2))) → (∀ (j : Nat), j ∉ ([31] : List Nat) → ws[j]? = ws0[j]?) → W p l e (headSpec w_M_layDomain rm_M_layDomain).room s m ([.ref aX, .int x1, .int x2, .int x3] : List Value).toArray below meth c H locs 0 0 Qx (F0 m 64 ls [])), W p l e (headSpec w_M_layDomain rm_M_layDomain).room s m ([.ref aX, .int x1, .int x2, .int x3] : List Value).toArray below meth c H locs 0 0 Qx (F0 m 10 ls []) := by
    intro Qx n
    induction n with
    | zero => intro v5_849 Xds_f_850 ws H locs ls q hf; cases hf
    | succ n ih =>
      intro v5_849 Xds_f_850 ws H locs ls q hf hl hP hD hS hN_X hN_Xhalf hN_Xds hw kt0
      rw [f_M_layDomain_10] at hf
      refine lv_iload hx hb d_M_layDomain_10 (lv_at hl 5 rfl) ?_
      refine lv_iload_n hx hb d_M_layDomain_12 rfl (lv_at hl 1 rfl) ?_
      refine lv_iload_n hx hb d_M_layDomain_13 rfl (lv_at hl 1 rfl) ?_
      refine lv_imul hx hb d_M_layDomain_14 ?_
      refine lv_icmp_ge (tgt := 64) hx hb d_M_layDomain_15 (by decide) (fun hc => ?_) (fun hc => ?_)
      · have hf := z_t hc hf
        obtain rfl := Option.some.inj hf
        exact kt0 _ _ _ ls (lv_sub hl [0, 1, 2, 3, 4, 5] rfl) hP hD hS hN_X hN_Xhalf hN_Xds hw
      · have hf := z_f hc hf
        refine lv_aload_n hx hb d_M_layDomain_18 rfl (lv_at hl 0 rfl) ?_
        refine gf_M_37 (v := .ref aXds) hx hb hts hown hK hP hN_X rfl d_M_layDomain_19 ?_
        refine lv_iload hx hb d_M_layDomain_22 (lv_at hl 5 rfl) ?_
        refine lv_aload_n hx hb d_M_layDomain_24 rfl (lv_at hl 0 rfl) ?_
        refine gf_M_13 (v := .ref aXhalf) hx hb hts hown hK hP hN_X rfl d_M_layDomain_25 ?_
        refine lv_aload_n hx hb d_M_layDomain_28 rfl (lv_at hl 0 rfl) ?_
        refine gf_M_46 (v := .int X_side) hx hb hts hown hK hP hN_X rfl d_M_layDomain_29 ?_
        refine lv_iconst (v := 2) hx hb d_M_layDomain_32 (by decide) ?_
        refine lv_idiv hx hb d_M_layDomain_33 (by decide) ?_
        refine lv_iload_n hx hb d_M_layDomain_34 rfl (lv_at hl 1 rfl) ?_
        refine lv_iload_n hx hb d_M_layDomain_35 rfl (lv_at hl 2 rfl) ?_
        refine lv_iload hx hb d_M_layDomain_36 (lv_at hl 4 rfl) ?_
        obtain ⟨hne, hf⟩ := z_no hf
        refine lv_irem hx hb d_M_layDomain_38 hne ?_
        refine lv_imul hx hb d_M_layDomain_39 ?_
        refine lv_iconst (v := 2) hx hb d_M_layDomain_40 (by decide) ?_
        refine lv_idiv hx hb d_M_layDomain_41 (by decide) ?_
        refine lv_iload_n hx hb d_M_layDomain_42 rfl (lv_at hl 1 rfl) ?_
        refine lv_iload_n hx hb d_M_layDomain_43 rfl (lv_at hl 2 rfl) ?_
        refine lv_iload hx hb d_M_layDomain_44 (lv_at hl 4 rfl) ?_
        obtain ⟨hne, hf⟩ := z_no hf
        refine lv_idiv hx hb d_M_layDomain_46 hne ?_
        refine lv_imul hx hb d_M_layDomain_47 ?_
        refine lv_iconst (v := 2) hx hb d_M_layDomain_48 (by decide) ?_
        refine lv_idiv hx hb d_M_layDomain_49 (by decide) ?_
        refine lv_iload_n hx hb d_M_layDomain_50 rfl (lv_at hl 1 rfl) ?_
        refine lv_iload_n hx hb d_M_layDomain_51 rfl (lv_at hl 3 rfl) ?_
        refine lv_iload hx hb d_M_layDomain_52 (lv_at hl 5 rfl) ?_
        obtain ⟨q852, hc, hf⟩ := z_b hf
        refine vp_callSi (z_cr (va_runS (As := [.ref aXhalf, .int (X_side / (2 : Int32)), .int ((x1 * (x2 - x2 / q844 * q844)) / (2 : Int32)), .int ((x1 * (x2 / q844)) / (2 : Int32)), .int x1, .int x3, .int v5_849]) (rest := [.int v5_849, .ref aXds]) ⟨hx, hb, hml, hown, hts⟩ (c_M_turned l dC dI cI cL (X_side / (2 : Int32)) ((x1 * (x2 - x2 / q844 * q844)) / (2 : Int32)) ((x1 * (x2 / q844)) / (2 : Int32)) x1 x3 v5_849 hN_Xhalf q852 hc) (cw_M_73 hts ⟨Nat.le_of_ble_eq_true rfl, Nat.le_of_ble_eq_true rfl⟩) ⟨zbR, (zpR hP hK hZ)⟩ rfl rfl hl.1 rfl (lv_room (Nat.le_of_ble_eq_true rfl)) d_M_layDomain_54 ⟨Nat.zero_le _, Nat.zero_le _⟩)) (fun r853 hv => ?_)
        have hv := hv.symm
        subst hv
        obtain ⟨hin, hf⟩ := z_no hf
        refine z_iast hx hb hK hP hD hS hN_Xds rfl hin d_M_layDomain_57 (fun ws H locs hP hD hS hN_Xds hfr => ?_)
        have hN_Xds : zA ws 31 (aXds, .inl (cI, Xds_n, .inl (upd Xds_f_850 v5_849.toNatClampNeg q852))) := hN_Xds
        have hN_X := (hfr _ (by decide)).trans hN_X
        have hN_Xhalf := (hfr _ (by decide)).trans hN_Xhalf
        have hw := z_fr (by decide) hw hfr
        refine lv_iinc (v := (v5_849 + 1)) (lv' := [(5, .int (v5_849 + 1)), (0, .ref aX), (1, .int x1), (2, .int x2), (3, .int x3), (4, .int q844)]) hx hb d_M_layDomain_58 hl (k := 5) rfl rfl (by decide) rfl (fun ls hl => ?_)
        refine lv_goto (tgt := 10) hx hb d_M_layDomain_61 (by decide) ?_
        exact ih (v5_849 + 1) (upd Xds_f_850 v5_849.toNatClampNeg q852) _ _ _ ls _ hf (lv_sub hl [1, 2, 3, 4, 5, 0] rfl) hP hD hS hN_X hN_Xhalf hN_Xds hw kt0
  obtain ⟨q848, hc, hf⟩ := z_b hf
  refine lp851 _ FU (0 : Int32) Xds_f _ _ _ ls q848 hc (lv_sub hl [2, 3, 4, 5, 1, 0] rfl) hP hD hS hN_X hN_Xhalf hN_Xds hw (fun ws H locs ls hl hP hD hS hN_X hN_Xhalf hN_Xds hw => ?_)
  obtain rfl := Option.some.inj hf
  exact W.vret hx hb hr (fun t ht hW => ⟨⟨ws, rfl, ⟨hN_Xds, hw⟩, by rw [ht]; exact hP, va_K.moved hW.alike hK, hD⟩, hS.F ht⟩) hS.2.2 d_M_layDomain_64
