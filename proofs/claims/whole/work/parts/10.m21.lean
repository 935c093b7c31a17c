def f_M_read_86 (p1 : Int32) (p2 : Int32) (X_side : Int32) (X_fedMany : Int32) (Xblocks_n : Nat) (Xfed_n : Nat) (Xfed_f : Nat → Int32) (Xpile_n : Nat) (Xbest_n : Nat) : Nat → Int32 → Int32 → Int32 → Int32 → (Nat → Int32) → (Nat → Int32) → (Nat → Int32) → Option (Int32 × Int32 × Int32 × Int32 × (Nat → Int32) × (Nat → Int32) × (Nat → Int32))
  | 0, _, _, _, _, _, _, _ => none
  | n + 1, X_found, X_readAt, X_why, X_waiting, Xblocks_f, Xpile_f, Xbest_f => if X_waiting ≤ 0 then (some (X_found, X_readAt, X_why, X_waiting, Xblocks_f, Xpile_f, Xbest_f)) else (if 0 ≤ X_why then (some (X_found, X_readAt, X_why, X_waiting, Xblocks_f, Xpile_f, Xbest_f)) else (if ((3 : Int32) * (X_waiting - (1 : Int32))) < 0 ∨ Xpile_n ≤ ((3 : Int32) * (X_waiting - (1 : Int32))).toNatClampNeg then none else (if (((3 : Int32) * (X_waiting - (1 : Int32))) + (1 : Int32)) < 0 ∨ Xpile_n ≤ (((3 : Int32) * (X_waiting - (1 : Int32))) + (1 : Int32)).toNatClampNeg then none else (if (((3 : Int32) * (X_waiting - (1 : Int32))) + (2 : Int32)) < 0 ∨ Xpile_n ≤ (((3 : Int32) * (X_waiting - (1 : Int32))) + (2 : Int32)).toNatClampNeg then none else (if (Xpile_f (((3 : Int32) * (X_waiting - (1 : Int32))) + (2 : Int32)).toNatClampNeg) ≤ p2 then ((f_M_readBlock (Xpile_f ((3 : Int32) * (X_waiting - (1 : Int32))).toNatClampNeg) (Xpile_f (((3 : Int32) * (X_waiting - (1 : Int32))) + (1 : Int32)).toNatClampNeg) (Xpile_f (((3 : Int32) * (X_waiting - (1 : Int32))) + (2 : Int32)).toNatClampNeg) X_side X_found X_fedMany X_readAt X_why Xblocks_n Xblocks_f Xfed_n Xfed_f Xbest_n Xbest_f).bind (fun q786 => f_M_read_86 p1 p2 X_side X_fedMany Xblocks_n Xfed_n Xfed_f Xpile_n Xbest_n n q786.1 q786.2.1 q786.2.2.1 (X_waiting - (1 : Int32)) q786.2.2.2.1 Xpile_f q786.2.2.2.2)) else ((f_M_take (1 : Int32) X_fedMany X_readAt X_why Xfed_n Xfed_f).bind (fun q787 => if q787.1 = (1 : Int32) then ((f_M_pileQuarters (Xpile_f ((3 : Int32) * (X_waiting - (1 : Int32))).toNatClampNeg) (Xpile_f (((3 : Int32) * (X_waiting - (1 : Int32))) + (1 : Int32)).toNatClampNeg) (Xpile_f (((3 : Int32) * (X_waiting - (1 : Int32))) + (2 : Int32)).toNatClampNeg) (X_waiting - (1 : Int32)) Xpile_n Xpile_f).bind (fun q789 => f_M_read_86 p1 p2 X_side X_fedMany Xblocks_n Xfed_n Xfed_f Xpile_n Xbest_n n X_found q787.2.1 q787.2.2 q789.1 Xblocks_f q789.2 Xbest_f)) else ((f_M_readBlock (Xpile_f ((3 : Int32) * (X_waiting - (1 : Int32))).toNatClampNeg) (Xpile_f (((3 : Int32) * (X_waiting - (1 : Int32))) + (1 : Int32)).toNatClampNeg) (Xpile_f (((3 : Int32) * (X_waiting - (1 : Int32))) + (2 : Int32)).toNatClampNeg) X_side X_found X_fedMany q787.2.1 q787.2.2 Xblocks_n Xblocks_f Xfed_n Xfed_f Xbest_n Xbest_f).bind (fun q788 => f_M_read_86 p1 p2 X_side X_fedMany Xblocks_n Xfed_n Xfed_f Xpile_n Xbest_n n q788.1 q788.2.1 q788.2.2.1 (X_waiting - (1 : Int32)) q788.2.2.2.1 Xpile_f q788.2.2.2.2)))))))))
def f_M_read_220 (p1 : Int32) (p2 : Int32) (X_fedMany : Int32) (X_why : Int32) (Xfed_n : Nat) (Xfed_f : Nat → Int32) : Nat → Int32 → Int32 → Option (Int32 × Int32)
  | 0, _, _ => none
  | n + 1, v3, v4 => if ((8 : Int32) * X_fedMany) ≤ v4 then (some (v3, v4)) else (if 0 ≤ X_why then (some (v3, v4)) else (if v3 = 0 then ((f_M_bitAt v4 Xfed_n Xfed_f).bind (fun q798 => if q798 = (1 : Int32) then (f_M_read_220 p1 p2 X_fedMany X_why Xfed_n Xfed_f n (1 : Int32) (v4 + 1)) else (f_M_read_220 p1 p2 X_fedMany X_why Xfed_n Xfed_f n (0 : Int32) (v4 + 1)))) else (f_M_read_220 p1 p2 X_fedMany X_why Xfed_n Xfed_f n (1 : Int32) (v4 + 1))))
def f_M_read_J213 (p1 : Int32) (p2 : Int32) (X_code : Int32) (X_many : Int32) (X_found : Int32) (X_fedMany : Int32) (X_readAt : Int32) (X_why : Int32) (X_waiting : Int32) (Xblocks_n : Nat) (Xblocks_f : Nat → Int32) (Xfed_n : Nat) (Xfed_f : Nat → Int32) (Xpile_f : Nat → Int32) (Xbest_f : Nat → Int32) (s0 : Int32) : Option (Int32 × Int32 × Int32 × Int32 × Int32 × Int32 × Int32 × Int32 × (Nat → Int32) × (Nat → Int32) × (Nat → Int32)) := (f_M_read_220 p1 p2 X_fedMany X_why Xfed_n Xfed_f FU s0 X_readAt).bind (fun q800 => if 0 ≤ X_why then (if X_why < 0 then ((f_M_takeFound X_found Xblocks_n Xblocks_f).bind (fun q803 => some (q803.1, X_code, q803.1, X_found, (0 : Int32), X_readAt, X_why, X_waiting, q803.2, Xpile_f, Xbest_f))) else (some ((((-1) : Int32) - X_why), X_code, X_many, X_found, (0 : Int32), X_readAt, X_why, X_waiting, Xblocks_f, Xpile_f, Xbest_f))) else (if q800.1 = 0 then (if X_why < 0 then ((f_M_takeFound X_found Xblocks_n Xblocks_f).bind (fun q804 => some (q804.1, X_code, q804.1, X_found, (0 : Int32), X_readAt, X_why, X_waiting, q804.2, Xpile_f, Xbest_f))) else (some ((((-1) : Int32) - X_why), X_code, X_many, X_found, (0 : Int32), X_readAt, X_why, X_waiting, Xblocks_f, Xpile_f, Xbest_f))) else (if (4 : Int32) < 0 then ((f_M_takeFound X_found Xblocks_n Xblocks_f).bind (fun q805 => some (q805.1, X_code, q805.1, X_found, (0 : Int32), X_readAt, (4 : Int32), X_waiting, q805.2, Xpile_f, Xbest_f))) else (some ((((-1) : Int32) - (4 : Int32)), X_code, X_many, X_found, (0 : Int32), X_readAt, (4 : Int32), X_waiting, Xblocks_f, Xpile_f, Xbest_f)))))
def f_M_read_J73 (p1 : Int32) (p2 : Int32) (X_code : Int32) (X_side : Int32) (X_many : Int32) (X_found : Int32) (X_fedMany : Int32) (X_readAt : Int32) (X_why : Int32) (X_waiting : Int32) (Xblocks_n : Nat) (Xblocks_f : Nat → Int32) (Xfed_n : Nat) (Xfed_f : Nat → Int32) (Xpile_n : Nat) (Xpile_f : Nat → Int32) (Xbest_n : Nat) (Xbest_f : Nat → Int32) (s0 : Int32) : Option (Int32 × Int32 × Int32 × Int32 × Int32 × Int32 × Int32 × Int32 × (Nat → Int32) × (Nat → Int32) × (Nat → Int32)) := (f_M_pileQuarters (0 : Int32) (0 : Int32) X_side X_waiting Xpile_n Xpile_f).bind (fun q785 => (f_M_read_86 p1 p2 X_side X_fedMany Xblocks_n Xfed_n Xfed_f Xpile_n Xbest_n FU X_found X_readAt s0 q785.1 Xblocks_f q785.2 Xbest_f).bind (fun q790 => if (((8 : Int32) * X_fedMany) - q790.2.1) ≤ (7 : Int32) then (f_M_read_J213 p1 p2 X_code X_many q790.1 X_fedMany q790.2.1 q790.2.2.1 q790.2.2.2.1 Xblocks_n q790.2.2.2.2.1 Xfed_n Xfed_f q790.2.2.2.2.2.1 q790.2.2.2.2.2.2 (0 : Int32)) else (f_M_read_J213 p1 p2 X_code X_many q790.1 X_fedMany q790.2.1 q790.2.2.1 q790.2.2.2.1 Xblocks_n q790.2.2.2.2.1 Xfed_n Xfed_f q790.2.2.2.2.2.1 q790.2.2.2.2.2.2 (1 : Int32))))
def f_M_read (X_side : Int32) (X_many : Int32) (X_found : Int32) (X_fedMany : Int32) (X_readAt : Int32) (X_why : Int32) (X_waiting : Int32) (Xblocks_n : Nat) (Xblocks_f : Nat → Int32) (Xfed_n : Nat) (Xfed_f : Nat → Int32) (Xpile_n : Nat) (Xpile_f : Nat → Int32) (Xbest_n : Nat) (Xbest_f : Nat → Int32) : Option (Int32 × Int32 × Int32 × Int32 × Int32 × Int32 × Int32 × Int32 × (Nat → Int32) × (Nat → Int32) × (Nat → Int32)) := (f_M_take (3 : Int32) X_fedMany (0 : Int32) ((-1) : Int32) Xfed_n Xfed_f).bind (fun q784 => if 0 ≤ q784.2.2 then (f_M_read_J73 q784.1 ((1 : Int32) <<< (q784.1 &&& 31)) (0 : Int32) X_side X_many (0 : Int32) X_fedMany q784.2.1 q784.2.2 (0 : Int32) Xblocks_n Xblocks_f Xfed_n Xfed_f Xpile_n Xpile_f Xbest_n Xbest_f q784.2.2) else ((f_M_in q784.1.toInt64 (1 : Int64) (4 : Int64)).bind (fun q833 => if q833 = 0 then (f_M_read_J73 q784.1 ((1 : Int32) <<< (q784.1 &&& 31)) (0 : Int32) X_side X_many (0 : Int32) X_fedMany q784.2.1 q784.2.2 (0 : Int32) Xblocks_n Xblocks_f Xfed_n Xfed_f Xpile_n Xpile_f Xbest_n Xbest_f (0 : Int32)) else (if ((2 : Int32) * ((1 : Int32) <<< (q784.1 &&& 31))) ≤ X_side then (f_M_read_J73 q784.1 ((1 : Int32) <<< (q784.1 &&& 31)) (0 : Int32) X_side X_many (0 : Int32) X_fedMany q784.2.1 q784.2.2 (0 : Int32) Xblocks_n Xblocks_f Xfed_n Xfed_f Xpile_n Xpile_f Xbest_n Xbest_f q784.2.2) else (f_M_read_J73 q784.1 ((1 : Int32) <<< (q784.1 &&& 31)) (0 : Int32) X_side X_many (0 : Int32) X_fedMany q784.2.1 q784.2.2 (0 : Int32) Xblocks_n Xblocks_f Xfed_n Xfed_f Xpile_n Xpile_f Xbest_n Xbest_f (0 : Int32))))))
set_option maxHeartbeats 4000000 in
set_option maxRecDepth 100000 in
theorem c_M_read (l : Launch) (dC : Nat → ClassId) (dI : Nat → Nat → Nat) (cI cL : ClassId) {ws0 : va_W} (sz : Nat) {aX aXpicture aXhalf aXblocks aXencoded aXfed aXpile aXnews aXolds aXhalves aXds aXrs aXbest : Nat} {X_code X_side X_many X_found X_encodedBits X_fedMany X_readAt X_why X_tried X_waiting X_decoded : Int32} {X_bestError : Int64} {Xblocks_n Xfed_n Xpile_n Xbest_n : Nat} {Xblocks_f Xfed_f Xpile_f Xbest_f : Nat → Int32} (hN_X : zA ws0 21 (aX, .inr (7, [.int X_code, .int X_side, .ref aXpicture, .ref aXhalf, .int X_many, .ref aXblocks, .int X_found, .int X_encodedBits, .ref aXencoded, .int X_fedMany, .ref aXfed, .int X_readAt, .int X_why, .int X_tried, .int X_waiting, .ref aXpile, .int X_decoded, .ref aXnews, .ref aXolds, .ref aXhalves, .ref aXds, .ref aXrs, .ref aXbest, .long X_bestError]))) (hN_Xblocks : zA ws0 24 (aXblocks, .inl (cI, Xblocks_n, .inl Xblocks_f))) (hN_Xfed : zA ws0 26 (aXfed, .inl (cI, Xfed_n, .inl Xfed_f))) (hN_Xpile : zA ws0 27 (aXpile, .inl (cI, Xpile_n, .inl Xpile_f))) (hN_Xbest : zA ws0 33 (aXbest, .inl (cI, Xbest_n, .inl Xbest_f))) (r : Int32 × Int32 × Int32 × Int32 × Int32 × Int32 × Int32 × Int32 × (Nat → Int32) × (Nat → Int32) × (Nat → Int32)) (hf : f_M_read X_side X_many X_found X_fedMany X_readAt X_why X_waiting Xblocks_n Xblocks_f Xfed_n Xfed_f Xpile_n Xpile_f Xbest_n Xbest_f = some r) : Met l y_M_read w_M_read rm_M_read (va_Pc [.ref aX] (zM dC dI cI cL ws0 sz)) (va_Qi (fun (v : Int32) (ws' : va_W) => v = r.1 ∧ zA ws' 21 (aX, .inr (7, [.int r.2.1, .int X_side, .ref aXpicture, .ref aXhalf, .int r.2.2.1, .ref aXblocks, .int r.2.2.2.1, .int X_encodedBits, .ref aXencoded, .int r.2.2.2.2.1, .ref aXfed, .int r.2.2.2.2.2.1, .int r.2.2.2.2.2.2.1, .int X_tried, .int r.2.2.2.2.2.2.2.1, .ref aXpile, .int X_decoded, .ref aXnews, .ref aXolds, .ref aXhalves, .ref aXds, .ref aXrs, .ref aXbest, .long X_bestError])) ∧ zA ws' 24 (aXblocks, .inl (cI, Xblocks_n, .inl r.2.2.2.2.2.2.2.2.1)) ∧ zA ws' 27 (aXpile, .inl (cI, Xpile_n, .inl r.2.2.2.2.2.2.2.2.2.1)) ∧ zA ws' 33 (aXbest, .inl (cI, Xbest_n, .inl r.2.2.2.2.2.2.2.2.2.2)) ∧ ∀ (j : Nat), j ∉ ([21, 24, 27, 33] : List Nat) → ws'[j]? = ws0[j]?) (zQ dC dI cI cL (va_A ws0 sz)) (va_A ws0 sz)) 0 0 (va_A ws0 sz) := by
  refine Met.ofW (cc := b_M_read) (maxL := 6) (ret := some .int) (by decide) rfl ?_
  intro p e s m args below meth c s₁ B hml hv
  obtain ⟨rfl, hsz, hP, hK, hZ, hD0⟩ := hv
  have hx := B.exec
  have hb := B.bytes
  have hr := B.returns
  have hlocks := B.notSynchronized
  have hts : ∀ w ∈ BIG, w.before ([.ref aX] : List Value).toArray s = true := fun w h => atoms_spec (ws := w_M_read) B.pre w (List.mem_cons_of_mem _ h)
  have hown : s.vm.findClass "FractalMapsModel" = some m.cls := findClass_of_methodNamed B.named
  subst hsz
  have hD := hD0.self (sz := s.heap.size)
  generalize hAe : va_A ws0 s.heap.size = A at hD ⊢
  have hA : ∀ q : Nat, s.heap.size ≤ q → A q := fun q h => by rw [← hAe]; exact Or.inr h
  have hS : va_S A s.heap s.heap [] := va_S.rf
  have hw : ∀ (j : Nat), j ∉ ([21, 24, 27, 33] : List Nat) → ws0[j]? = ws0[j]? := fun _ _ => rfl
  have hl := lv_entry ([.ref aX]) (n := 6) (Nat.le_of_ble_eq_true rfl)
  rw [lg_entry_eq]
  generalize (lg_sl ([.ref aX]) ++ List.replicate (6 - (lg_sl ([.ref aX])).length) Slot.unset).toArray = ls at hl ⊢
  have hl : lv_has ls 6 [(0, .ref aX)] := hl
  unfold f_M_read at hf
  refine lv_aload_n hx hb d_M_read_0 rfl (lv_at hl 0 rfl) ?_
  refine lv_iconst (v := 0) hx hb d_M_read_1 (by decide) ?_
  refine pf_M_50 (v := .int (0 : Int32)) hx hb hts hown hK hP hD hS hN_X rfl rfl (Nat.le_of_ble_eq_true rfl) d_M_read_2 (fun ws H locs hP hD hS hN_X hfr => ?_)
  have hN_X : zA ws 21 (aX, .inr (7, [.int (0 : Int32), .int X_side, .ref aXpicture, .ref aXhalf, .int X_many, .ref aXblocks, .int X_found, .int X_encodedBits, .ref aXencoded, .int X_fedMany, .ref aXfed, .int X_readAt, .int X_why, .int X_tried, .int X_waiting, .ref aXpile, .int X_decoded, .ref aXnews, .ref aXolds, .ref aXhalves, .ref aXds, .ref aXrs, .ref aXbest, .long X_bestError])) := hN_X
  have hN_Xblocks := (hfr _ (by decide)).trans hN_Xblocks
  have hN_Xfed := (hfr _ (by decide)).trans hN_Xfed
  have hN_Xpile := (hfr _ (by decide)).trans hN_Xpile
  have hN_Xbest := (hfr _ (by decide)).trans hN_Xbest
  have hw := z_fr (by decide) hw hfr
  refine lv_aload_n hx hb d_M_read_5 rfl (lv_at hl 0 rfl) ?_
  refine lv_iconst (v := 0) hx hb d_M_read_6 (by decide) ?_
  refine pf_M_169 (v := .int (0 : Int32)) hx hb hts hown hK hP hD hS hN_X rfl rfl (Nat.le_of_ble_eq_true rfl) d_M_read_7 (fun ws H locs hP hD hS hN_X hfr => ?_)
  have hN_X : zA ws 21 (aX, .inr (7, [.int (0 : Int32), .int X_side, .ref aXpicture, .ref aXhalf, .int X_many, .ref aXblocks, .int X_found, .int X_encodedBits, .ref aXencoded, .int X_fedMany, .ref aXfed, .int (0 : Int32), .int X_why, .int X_tried, .int X_waiting, .ref aXpile, .int X_decoded, .ref aXnews, .ref aXolds, .ref aXhalves, .ref aXds, .ref aXrs, .ref aXbest, .long X_bestError])) := hN_X
  have hN_Xblocks := (hfr _ (by decide)).trans hN_Xblocks
  have hN_Xfed := (hfr _ (by decide)).trans hN_Xfed
  have hN_Xpile := (hfr _ (by decide)).trans hN_Xpile
  have hN_Xbest := (hfr _ (by decide)).trans hN_Xbest
  have hw := z_fr (by decide) hw hfr
  refine lv_aload_n hx hb d_M_read_10 rfl (lv_at hl 0 rfl) ?_
  refine lv_iconst (v := (-1)) hx hb d_M_read_11 (by decide) ?_
  refine pf_M_166 (v := .int ((-1) : Int32)) hx hb hts hown hK hP hD hS hN_X rfl rfl (Nat.le_of_ble_eq_true rfl) d_M_read_12 (fun ws H locs hP hD hS hN_X hfr => ?_)
  have hN_X : zA ws 21 (aX, .inr (7, [.int (0 : Int32), .int X_side, .ref aXpicture, .ref aXhalf, .int X_many, .ref aXblocks, .int X_found, .int X_encodedBits, .ref aXencoded, .int X_fedMany, .ref aXfed, .int (0 : Int32), .int ((-1) : Int32), .int X_tried, .int X_waiting, .ref aXpile, .int X_decoded, .ref aXnews, .ref aXolds, .ref aXhalves, .ref aXds, .ref aXrs, .ref aXbest, .long X_bestError])) := hN_X
  have hN_Xblocks := (hfr _ (by decide)).trans hN_Xblocks
  have hN_Xfed := (hfr _ (by decide)).trans hN_Xfed
  have hN_Xpile := (hfr _ (by decide)).trans hN_Xpile
  have hN_Xbest := (hfr _ (by decide)).trans hN_Xbest
  have hw := z_fr (by decide) hw hfr
  refine lv_aload_n hx hb d_M_read_15 rfl (lv_at hl 0 rfl) ?_
  refine lv_iconst (v := 0) hx hb d_M_read_16 (by decide) ?_
  refine pf_M_120 (v := .int (0 : Int32)) hx hb hts hown hK hP hD hS hN_X rfl rfl (Nat.le_of_ble_eq_true rfl) d_M_read_17 (fun ws H locs hP hD hS hN_X hfr => ?_)
  have hN_X : zA ws 21 (aX, .inr (7, [.int (0 : Int32), .int X_side, .ref aXpicture, .ref aXhalf, .int X_many, .ref aXblocks, .int (0 : Int32), .int X_encodedBits, .ref aXencoded, .int X_fedMany, .ref aXfed, .int (0 : Int32), .int ((-1) : Int32), .int X_tried, .int X_waiting, .ref aXpile, .int X_decoded, .ref aXnews, .ref aXolds, .ref aXhalves, .ref aXds, .ref aXrs, .ref aXbest, .long X_bestError])) := hN_X
  have hN_Xblocks := (hfr _ (by decide)).trans hN_Xblocks
  have hN_Xfed := (hfr _ (by decide)).trans hN_Xfed
  have hN_Xpile := (hfr _ (by decide)).trans hN_Xpile
  have hN_Xbest := (hfr _ (by decide)).trans hN_Xbest
  have hw := z_fr (by decide) hw hfr
  refine lv_aload_n hx hb d_M_read_20 rfl (lv_at hl 0 rfl) ?_
  refine lv_iconst (v := 0) hx hb d_M_read_21 (by decide) ?_
  refine pf_M_114 (v := .int (0 : Int32)) hx hb hts hown hK hP hD hS hN_X rfl rfl (Nat.le_of_ble_eq_true rfl) d_M_read_22 (fun ws H locs hP hD hS hN_X hfr => ?_)
  have hN_X : zA ws 21 (aX, .inr (7, [.int (0 : Int32), .int X_side, .ref aXpicture, .ref aXhalf, .int X_many, .ref aXblocks, .int (0 : Int32), .int X_encodedBits, .ref aXencoded, .int X_fedMany, .ref aXfed, .int (0 : Int32), .int ((-1) : Int32), .int X_tried, .int (0 : Int32), .ref aXpile, .int X_decoded, .ref aXnews, .ref aXolds, .ref aXhalves, .ref aXds, .ref aXrs, .ref aXbest, .long X_bestError])) := hN_X
  have hN_Xblocks := (hfr _ (by decide)).trans hN_Xblocks
  have hN_Xfed := (hfr _ (by decide)).trans hN_Xfed
  have hN_Xpile := (hfr _ (by decide)).trans hN_Xpile
  have hN_Xbest := (hfr _ (by decide)).trans hN_Xbest
  have hw := z_fr (by decide) hw hfr
  refine lv_aload_n hx hb d_M_read_25 rfl (lv_at hl 0 rfl) ?_
  refine lv_iconst (v := 3) hx hb d_M_read_26 (by decide) ?_
  obtain ⟨q784, hc, hf⟩ := z_b hf
  have hFc := z_free hD hS hA
  refine va_calli (va_runV (As := [.int (3 : Int32)]) (rest := []) ⟨hx, hb, hml, hown, hts⟩ (c_M_take l dC dI cI cL _ (3 : Int32) hN_X hN_Xfed q784 hc) (cw_M_175 hts ⟨Nat.le_of_ble_eq_true rfl, Nat.le_of_ble_eq_true rfl⟩) ⟨zbM, va_recv hK hP (ci := 7) rfl hN_X, (zpM hP hK hZ hD)⟩ rfl rfl hl.1 rfl (lv_room (Nat.le_of_ble_eq_true rfl)) d_M_read_27 ⟨Nat.zero_le _, Nat.zero_le _⟩) hS (fun q _ h => hFc q h) hFc (fun rv ws t H locs ht hvm hu hB hz1 hk1 hS => ?_)
  obtain ⟨hv, hN_X, hfr⟩ := hu
  subst hv
  obtain ⟨hP, -, hD1⟩ := hB
  rw [ht] at hP
  have hD := hD1.weaken (fun _ _ _ h => hFc _ h)
  have hN_X : zA ws 21 (aX, .inr (7, [.int (0 : Int32), .int X_side, .ref aXpicture, .ref aXhalf, .int X_many, .ref aXblocks, .int (0 : Int32), .int X_encodedBits, .ref aXencoded, .int X_fedMany, .ref aXfed, .int q784.2.1, .int q784.2.2, .int X_tried, .int (0 : Int32), .ref aXpile, .int X_decoded, .ref aXnews, .ref aXolds, .ref aXhalves, .ref aXds, .ref aXrs, .ref aXbest, .long X_bestError])) := hN_X
  have hN_Xblocks := (hfr _ (by decide)).trans hN_Xblocks
  have hN_Xfed := (hfr _ (by decide)).trans hN_Xfed
  have hN_Xpile := (hfr _ (by decide)).trans hN_Xpile
  have hN_Xbest := (hfr _ (by decide)).trans hN_Xbest
  have hw := z_frC (by decide) hw hfr
  refine lv_istore_n (lv' := [(1, .int q784.1), (0, .ref aX)]) hx hb d_M_read_30 rfl hl (by decide) rfl (fun ls hl => ?_)
  refine lv_iconst (v := 1) hx hb d_M_read_31 (by decide) ?_
  refine lv_iload_n hx hb d_M_read_32 rfl (lv_at hl 0 rfl) ?_
  refine lv_ishl hx hb d_M_read_33 ?_
  refine lv_istore_n (lv' := [(2, .int ((1 : Int32) <<< (q784.1 &&& 31))), (1, .int q784.1), (0, .ref aX)]) hx hb d_M_read_34 rfl hl (by decide) rfl (fun ls hl => ?_)
  refine lv_aload_n hx hb d_M_read_35 rfl (lv_at hl 2 rfl) ?_
  refine lv_aload_n hx hb d_M_read_36 rfl (lv_at hl 2 rfl) ?_
  refine gf_M_166 (v := .int q784.2.2) hx hb hts hown hK hP hN_X rfl d_M_read_37 ?_
  have jp73_807 : ∀ (s0_806 : Int32) (ls : Array Slot) (hf : f_M_read_J73 q784.1 ((1 : Int32) <<< (q784.1 &&& 31)) (0 : Int32) X_side X_many (0 : Int32) X_fedMany q784.2.1 q784.2.2 (0 : Int32) Xblocks_n Xblocks_f Xfed_n Xfed_f Xpile_n Xpile_f Xbest_n Xbest_f s0_806 = some r) (hl : lv_has ls 6 [(0, .ref aX), (1, .int q784.1), (2, .int ((1 : Int32) <<< (q784.1 &&& 31)))]), W p l e (headSpec w_M_read rm_M_read).room s m ([.ref aX] : List Value).toArray below meth c H locs 0 0 (MQ below (va_Qi (fun (v : Int32) (ws' : va_W) => v = r.1 ∧ zA ws' 21 (aX, .inr (7, [.int r.2.1, .int X_side, .ref aXpicture, .ref aXhalf, .int r.2.2.1, .ref aXblocks, .int r.2.2.2.1, .int X_encodedBits, .ref aXencoded, .int r.2.2.2.2.1, .ref aXfed, .int r.2.2.2.2.2.1, .int r.2.2.2.2.2.2.1, .int X_tried, .int r.2.2.2.2.2.2.2.1, .ref aXpile, .int X_decoded, .ref aXnews, .ref aXolds, .ref aXhalves, .ref aXds, .ref aXrs, .ref aXbest, .long X_bestError])) ∧ zA ws' 24 (aXblocks, .inl (cI, Xblocks_n, .inl r.2.2.2.2.2.2.2.2.1)) ∧ zA ws' 27 (aXpile, .inl (cI, Xpile_n, .inl r.2.2.2.2.2.2.2.2.2.1)) ∧ zA ws' 33 (aXbest, .inl (cI, Xbest_n, .inl r.2.2.2.2.2.2.2.2.2.2)) ∧ ∀ (j : Nat), j ∉ ([21, 24, 27, 33] : List Nat) → ws'[j]? = ws0[j]?) (zQ dC dI cI cL A) A) ([.ref aX] : List Value).toArray s 0 0 A) (F0 m 73 ls [.int s0_806, .ref aX]) := by
    intro s0_806 ls hf hl
    unfold f_M_read_J73 at hf
    refine pf_M_166 (v := .int s0_806) hx hb hts hown hK hP hD hS hN_X rfl rfl (Nat.le_of_ble_eq_true rfl) d_M_read_73 (fun ws H locs hP hD hS hN_X hfr => ?_)
    have hN_X : zA ws 21 (aX, .inr (7, [.int (0 : Int32), .int X_side, .ref aXpicture, .ref aXhalf, .int X_many, .ref aXblocks, .int (0 : Int32), .int X_encodedBits, .ref aXencoded, .int X_fedMany, .ref aXfed, .int q784.2.1, .int s0_806, .int X_tried, .int (0 : Int32), .ref aXpile, .int X_decoded, .ref aXnews, .ref aXolds, .ref aXhalves, .ref aXds, .ref aXrs, .ref aXbest, .long X_bestError])) := hN_X
    have hN_Xblocks := (hfr _ (by decide)).trans hN_Xblocks
    have hN_Xfed := (hfr _ (by decide)).trans hN_Xfed
    have hN_Xpile := (hfr _ (by decide)).trans hN_Xpile
    have hN_Xbest := (hfr _ (by decide)).trans hN_Xbest
    have hw := z_fr (by decide) hw hfr
    refine lv_aload_n hx hb d_M_read_76 rfl (lv_at hl 0 rfl) ?_
    refine lv_iconst (v := 0) hx hb d_M_read_77 (by decide) ?_
    refine lv_iconst (v := 0) hx hb d_M_read_78 (by decide) ?_
    refine lv_aload_n hx hb d_M_read_79 rfl (lv_at hl 0 rfl) ?_
    refine gf_M_46 (v := .int X_side) hx hb hts hown hK hP hN_X rfl d_M_read_80 ?_
    obtain ⟨q808, hc, hf⟩ := z_b hf
    have hFc := z_free hD hS hA
    refine va_callv (va_runV (As := [.int (0 : Int32), .int (0 : Int32), .int X_side]) (rest := []) ⟨hx, hb, hml, hown, hts⟩ (c_M_pileQuarters l dC dI cI cL _ (0 : Int32) (0 : Int32) X_side hN_X hN_Xpile q808 hc) (cw_M_141 hts ⟨Nat.le_of_ble_eq_true rfl, Nat.le_of_ble_eq_true rfl⟩) ⟨zbM, va_recv hK hP (ci := 7) rfl hN_X, (zpM hP hK hZ hD)⟩ rfl rfl hl.1 rfl (lv_room (Nat.le_of_ble_eq_true rfl)) d_M_read_83 ⟨Nat.zero_le _, Nat.zero_le _⟩) hS (fun q _ h => hFc q h) hFc (fun ws t H locs ht hvm hu hB hz1 hk1 hS => ?_)
    obtain ⟨hN_X, hN_Xpile, hfr⟩ := hu
    obtain ⟨hP, -, hD1⟩ := hB
    rw [ht] at hP
    have hD := hD1.weaken (fun _ _ _ h => hFc _ h)
    have hN_X : zA ws 21 (aX, .inr (7, [.int (0 : Int32), .int X_side, .ref aXpicture, .ref aXhalf, .int X_many, .ref aXblocks, .int (0 : Int32), .int X_encodedBits, .ref aXencoded, .int X_fedMany, .ref aXfed, .int q784.2.1, .int s0_806, .int X_tried, .int q808.1, .ref aXpile, .int X_decoded, .ref aXnews, .ref aXolds, .ref aXhalves, .ref aXds, .ref aXrs, .ref aXbest, .long X_bestError])) := hN_X
    have hN_Xpile : zA ws 27 (aXpile, .inl (cI, Xpile_n, .inl q808.2)) := hN_Xpile
    have hN_Xblocks := (hfr _ (by decide)).trans hN_Xblocks
    have hN_Xfed := (hfr _ (by decide)).trans hN_Xfed
    have hN_Xbest := (hfr _ (by decide)).trans hN_Xbest
    have hw := z_frC (by decide) hw hfr
    have lp817 : ∀ (Qx : State → Prop) (n : Nat) (X_found_810 : Int32) (X_readAt_811 : Int32) (X_why_812 : Int32) (X_waiting_813 : Int32) (Xblocks_f_814 : Nat → Int32) (Xpile_f_815 : Nat → Int32) (Xbest_f_816 : Nat → Int32) (ws : va_W) (H : Heap) (locs : List Loc) (ls : Array Slot) (q : Int32 × Int32 × Int32 × Int32 × (Nat → Int32) × (Nat → Int32) × (Nat → Int32)) (hf : f_M_read_86 q784.1 ((1 : Int32) <<< (q784.1 &&& 31)) X_side X_fedMany Xblocks_n Xfed_n Xfed_f Xpile_n Xbest_n n X_found_810 X_readAt_811 X_why_812 X_waiting_813 Xblocks_f_814 Xpile_f_815 Xbest_f_816 = some q) (hl : lv_has ls 6 [(0, .ref aX), (1, .int q784.1), (2, .int ((1 : Int32) <<< (q784.1 &&& 31)))]) (hP : va_P (dC, dI) classes ws H) (hD : va_D A ws) (hS : va_S A s.heap H locs) (hN_X : zA ws 21 (aX, .inr (7, [.int (0 : Int32), .int X_side, .ref aXpicture, .ref aXhalf, .int X_many, .ref aXblocks, .int X_found_810, .int X_encodedBits, .ref aXencoded, .int X_fedMany, .ref aXfed, .int X_readAt_811, .int X_why_812, .int X_tried, .int X_waiting_813, .ref aXpile, .int X_decoded, .ref aXnews, .ref aXolds, .ref aXhalves, .ref aXds, .ref aXrs, .ref aXbest, .long X_bestError]))) (hN_Xblocks : zA ws 24 (aXblocks, .inl (cI, Xblocks_n, .inl Xblocks_f_814))) (hN_Xfed : zA ws 26 (aXfed, .inl (cI, Xfed_n, .inl Xfed_f))) (hN_Xpile : zA ws 27 (aXpile, .inl (cI, Xpile_n, .inl Xpile_f_815))) (hN_Xbest : zA ws 33 (aXbest, .inl (cI, Xbest_n, .inl Xbest_f_816))) (hw : ∀ (j : Nat), j ∉ ([21, 24, 27, 33] : List Nat) → ws[j]? = ws0[j]?) (kt0 : ∀ (ws : va_W) (H : Heap) (locs : List Loc) (ls : Array Slot), lv_has ls 6 [(0, .ref aX), (1, .int q784.1), (2, .int ((1 : Int32) <<< (q784.1 &&& 31)))] → (va_P (dC, dI) classes ws H) → (va_D A ws) → (va_S A s.heap H locs) → (zA ws 21 (aX, .inr (7, [.int (0 : Int32), .int X_side, .ref aXpicture, .ref aXhalf, .int X_many, .ref aXblocks, .int q.1, .int X_encodedBits, .ref aXencoded, .int X_fedMany, .ref aXfed, .int q.2.1, .int q.2.2.1, .int X_tried, .int q.2.2.2.1, .ref aXpile, .int X_decoded, .ref aXnews, .ref aXolds, .ref aXhalves, .ref aXds, .ref aXrs, .ref aXbest, .long X_bestError]))) → (zA ws 24 (aXblocks, .inl (cI, Xblocks_n, .inl q.2.2.2.2.1))) → (zA ws 26 (aXfed, .inl (cI, Xfed_n, .inl Xfed_f))) → (zA ws 27 (aXpile, .inl (cI, Xpile_n, .inl q.2.2.2.2.2.1))) → (zA ws 33 (aXbest, .inl (cI, Xbest_n, .inl q.2.2.2.2.2.2))) → (∀ (j : Nat), j ∉ ([21, 24, 27, 33] : List Nat) → ws[j]? = ws0[j]?) → W p l e (headSpec w_M_read rm_M_read).room s m ([.ref aX] : List Value).toArray below meth c H locs 0 0 Qx (F0 m 191 ls [])), W p l e (headSpec w_M_read rm_M_read).room s m ([.ref aX] : List Value).toArray below meth c H locs 0 0 Qx (F0 m 86 ls []) := by
      intro Qx n
      induction n with
      | zero => intro X_found_810 X_readAt_811 X_why_812 X_waiting_813 Xblocks_f_814 Xpile_f_815 Xbest_f_816 ws H locs ls q hf; cases hf
      | succ n ih =>
        intro X_found_810 X_readAt_811 X_why_812 X_waiting_813 Xblocks_f_814 Xpile_f_815 Xbest_f_816 ws H locs ls q hf hl hP hD hS hN_X hN_Xblocks hN_Xfed hN_Xpile hN_Xbest hw kt0
        rw [f_M_read_86] at hf
        refine lv_aload_n hx hb d_M_read_86 rfl (lv_at hl 0 rfl) ?_
        refine gf_M_114 (v := .int X_waiting_813) hx hb hts hown hK hP hN_X rfl d_M_read_87 ?_
        refine lv_if_le (tgt := 191) hx hb d_M_read_90 (by decide) (fun hc => ?_) (fun hc => ?_)
        · have hf := z_t hc hf
          obtain rfl := Option.some.inj hf
          exact kt0 _ _ _ ls (lv_sub hl [0, 1, 2] rfl) hP hD hS hN_X hN_Xblocks hN_Xfed hN_Xpile hN_Xbest hw
        · have hf := z_f hc hf
          refine lv_aload_n hx hb d_M_read_93 rfl (lv_at hl 0 rfl) ?_
          refine gf_M_166 (v := .int X_why_812) hx hb hts hown hK hP hN_X rfl d_M_read_94 ?_
          refine lv_if_ge (tgt := 191) hx hb d_M_read_97 (by decide) (fun hc => ?_) (fun hc => ?_)
          · have hf := z_t hc hf
            obtain rfl := Option.some.inj hf
            exact kt0 _ _ _ ls (lv_sub hl [0, 1, 2] rfl) hP hD hS hN_X hN_Xblocks hN_Xfed hN_Xpile hN_Xbest hw
          · have hf := z_f hc hf
            refine lv_aload_n hx hb d_M_read_100 rfl (lv_at hl 0 rfl) ?_
            refine lv_dup hx hb d_M_read_101 rfl ?_
            refine gf_M_114 (v := .int X_waiting_813) hx hb hts hown hK hP hN_X rfl d_M_read_102 ?_
            refine lv_iconst (v := 1) hx hb d_M_read_105 (by decide) ?_
            refine lv_isub hx hb d_M_read_106 ?_
            refine pf_M_114 (v := .int (X_waiting_813 - (1 : Int32))) hx hb hts hown hK hP hD hS hN_X rfl rfl (Nat.le_of_ble_eq_true rfl) d_M_read_107 (fun ws H locs hP hD hS hN_X hfr => ?_)
            have hN_X : zA ws 21 (aX, .inr (7, [.int (0 : Int32), .int X_side, .ref aXpicture, .ref aXhalf, .int X_many, .ref aXblocks, .int X_found_810, .int X_encodedBits, .ref aXencoded, .int X_fedMany, .ref aXfed, .int X_readAt_811, .int X_why_812, .int X_tried, .int (X_waiting_813 - (1 : Int32)), .ref aXpile, .int X_decoded, .ref aXnews, .ref aXolds, .ref aXhalves, .ref aXds, .ref aXrs, .ref aXbest, .long X_bestError])) := hN_X
            have hN_Xblocks := (hfr _ (by decide)).trans hN_Xblocks
            have hN_Xfed := (hfr _ (by decide)).trans hN_Xfed
            have hN_Xpile := (hfr _ (by decide)).trans hN_Xpile
            have hN_Xbest := (hfr _ (by decide)).trans hN_Xbest
            have hw := z_fr (by decide) hw hfr
            refine lv_aload_n hx hb d_M_read_110 rfl (lv_at hl 0 rfl) ?_
            refine gf_M_25 (v := .ref aXpile) hx hb hts hown hK hP hN_X rfl d_M_read_111 ?_
            refine lv_iconst (v := 3) hx hb d_M_read_114 (by decide) ?_
            refine lv_aload_n hx hb d_M_read_115 rfl (lv_at hl 0 rfl) ?_
            refine gf_M_114 (v := .int (X_waiting_813 - (1 : Int32))) hx hb hts hown hK hP hN_X rfl d_M_read_116 ?_
            refine lv_imul hx hb d_M_read_119 ?_
            obtain ⟨hin, hf⟩ := z_no hf
            refine va_iald hx hb hK hP _ 0 hN_Xpile rfl hin d_M_read_120 ?_
            refine lv_istore_n (lv' := [(3, .int (Xpile_f_815 ((3 : Int32) * (X_waiting_813 - (1 : Int32))).toNatClampNeg)), (0, .ref aX), (1, .int q784.1), (2, .int ((1 : Int32) <<< (q784.1 &&& 31)))]) hx hb d_M_read_121 rfl hl (by decide) rfl (fun ls hl => ?_)
            refine lv_aload_n hx hb d_M_read_122 rfl (lv_at hl 1 rfl) ?_
            refine gf_M_25 (v := .ref aXpile) hx hb hts hown hK hP hN_X rfl d_M_read_123 ?_
            refine lv_iconst (v := 3) hx hb d_M_read_126 (by decide) ?_
            refine lv_aload_n hx hb d_M_read_127 rfl (lv_at hl 1 rfl) ?_
            refine gf_M_114 (v := .int (X_waiting_813 - (1 : Int32))) hx hb hts hown hK hP hN_X rfl d_M_read_128 ?_
            refine lv_imul hx hb d_M_read_131 ?_
            refine lv_iconst (v := 1) hx hb d_M_read_132 (by decide) ?_
            refine lv_iadd hx hb d_M_read_133 ?_
            obtain ⟨hin, hf⟩ := z_no hf
            refine va_iald hx hb hK hP _ 0 hN_Xpile rfl hin d_M_read_134 ?_
            refine lv_istore (lv' := [(4, .int (Xpile_f_815 (((3 : Int32) * (X_waiting_813 - (1 : Int32))) + (1 : Int32)).toNatClampNeg)), (3, .int (Xpile_f_815 ((3 : Int32) * (X_waiting_813 - (1 : Int32))).toNatClampNeg)), (0, .ref aX), (1, .int q784.1), (2, .int ((1 : Int32) <<< (q784.1 &&& 31)))]) hx hb d_M_read_135 hl (by decide) rfl (fun ls hl => ?_)
            refine lv_aload_n hx hb d_M_read_137 rfl (lv_at hl 2 rfl) ?_
            refine gf_M_25 (v := .ref aXpile) hx hb hts hown hK hP hN_X rfl d_M_read_138 ?_
            refine lv_iconst (v := 3) hx hb d_M_read_141 (by decide) ?_
            refine lv_aload_n hx hb d_M_read_142 rfl (lv_at hl 2 rfl) ?_
            refine gf_M_114 (v := .int (X_waiting_813 - (1 : Int32))) hx hb hts hown hK hP hN_X rfl d_M_read_143 ?_
            refine lv_imul hx hb d_M_read_146 ?_
            refine lv_iconst (v := 2) hx hb d_M_read_147 (by decide) ?_
            refine lv_iadd hx hb d_M_read_148 ?_
            obtain ⟨hin, hf⟩ := z_no hf
            refine va_iald hx hb hK hP _ 0 hN_Xpile rfl hin d_M_read_149 ?_
            refine lv_istore (lv' := [(5, .int (Xpile_f_815 (((3 : Int32) * (X_waiting_813 - (1 : Int32))) + (2 : Int32)).toNatClampNeg)), (4, .int (Xpile_f_815 (((3 : Int32) * (X_waiting_813 - (1 : Int32))) + (1 : Int32)).toNatClampNeg)), (3, .int (Xpile_f_815 ((3 : Int32) * (X_waiting_813 - (1 : Int32))).toNatClampNeg)), (0, .ref aX), (1, .int q784.1), (2, .int ((1 : Int32) <<< (q784.1 &&& 31)))]) hx hb d_M_read_150 hl (by decide) rfl (fun ls hl => ?_)
            refine lv_iload hx hb d_M_read_152 (lv_at hl 0 rfl) ?_
            refine lv_iload_n hx hb d_M_read_154 rfl (lv_at hl 5 rfl) ?_
            refine lv_icmp_le (tgt := 179) hx hb d_M_read_155 (by decide) (fun hc => ?_) (fun hc => ?_)
            · have hf := z_t hc hf
              refine lv_aload_n hx hb d_M_read_179 rfl (lv_at hl 3 rfl) ?_
              refine lv_iload_n hx hb d_M_read_180 rfl (lv_at hl 2 rfl) ?_
              refine lv_iload hx hb d_M_read_181 (lv_at hl 1 rfl) ?_
              refine lv_iload hx hb d_M_read_183 (lv_at hl 0 rfl) ?_
              obtain ⟨q818, hc, hf⟩ := z_b hf
              have hFc := z_free hD hS hA
              refine va_callv (va_runV (As := [.int (Xpile_f_815 ((3 : Int32) * (X_waiting_813 - (1 : Int32))).toNatClampNeg), .int (Xpile_f_815 (((3 : Int32) * (X_waiting_813 - (1 : Int32))) + (1 : Int32)).toNatClampNeg), .int (Xpile_f_815 (((3 : Int32) * (X_waiting_813 - (1 : Int32))) + (2 : Int32)).toNatClampNeg)]) (rest := []) ⟨hx, hb, hml, hown, hts⟩ (c_M_readBlock l dC dI cI cL _ (Xpile_f_815 ((3 : Int32) * (X_waiting_813 - (1 : Int32))).toNatClampNeg) (Xpile_f_815 (((3 : Int32) * (X_waiting_813 - (1 : Int32))) + (1 : Int32)).toNatClampNeg) (Xpile_f_815 (((3 : Int32) * (X_waiting_813 - (1 : Int32))) + (2 : Int32)).toNatClampNeg) hN_X hN_Xblocks hN_Xfed hN_Xbest q818 hc) (cw_M_180 hts ⟨Nat.le_of_ble_eq_true rfl, Nat.le_of_ble_eq_true rfl⟩) ⟨zbM, va_recv hK hP (ci := 7) rfl hN_X, (zpM hP hK hZ hD)⟩ rfl rfl hl.1 rfl (lv_room (Nat.le_of_ble_eq_true rfl)) d_M_read_185 ⟨Nat.zero_le _, Nat.zero_le _⟩) hS (fun q _ h => hFc q h) hFc (fun ws t H locs ht hvm hu hB hz1 hk1 hS => ?_)
              obtain ⟨hN_X, hN_Xblocks, hN_Xbest, hfr⟩ := hu
              obtain ⟨hP, -, hD1⟩ := hB
              rw [ht] at hP
              have hD := hD1.weaken (fun _ _ _ h => hFc _ h)
              have hN_X : zA ws 21 (aX, .inr (7, [.int (0 : Int32), .int X_side, .ref aXpicture, .ref aXhalf, .int X_many, .ref aXblocks, .int q818.1, .int X_encodedBits, .ref aXencoded, .int X_fedMany, .ref aXfed, .int q818.2.1, .int q818.2.2.1, .int X_tried, .int (X_waiting_813 - (1 : Int32)), .ref aXpile, .int X_decoded, .ref aXnews, .ref aXolds, .ref aXhalves, .ref aXds, .ref aXrs, .ref aXbest, .long X_bestError])) := hN_X
              have hN_Xblocks : zA ws 24 (aXblocks, .inl (cI, Xblocks_n, .inl q818.2.2.2.1)) := hN_Xblocks
              have hN_Xbest : zA ws 33 (aXbest, .inl (cI, Xbest_n, .inl q818.2.2.2.2)) := hN_Xbest
              have hN_Xfed := (hfr _ (by decide)).trans hN_Xfed
              have hN_Xpile := (hfr _ (by decide)).trans hN_Xpile
              have hw := z_frC (by decide) hw hfr
              refine lv_goto (tgt := 86) hx hb d_M_read_188 (by decide) ?_
              exact ih q818.1 q818.2.1 q818.2.2.1 (X_waiting_813 - (1 : Int32)) q818.2.2.2.1 Xpile_f_815 q818.2.2.2.2 _ _ _ ls _ hf (lv_sub hl [3, 4, 5] rfl) hP hD hS hN_X hN_Xblocks hN_Xfed hN_Xpile hN_Xbest hw kt0
            · have hf := z_f hc hf
              refine lv_aload_n hx hb d_M_read_158 rfl (lv_at hl 3 rfl) ?_
              refine lv_iconst (v := 1) hx hb d_M_read_159 (by decide) ?_
              obtain ⟨q819, hc, hf⟩ := z_b hf
              have hFc := z_free hD hS hA
              refine va_calli (va_runV (As := [.int (1 : Int32)]) (rest := []) ⟨hx, hb, hml, hown, hts⟩ (c_M_take l dC dI cI cL _ (1 : Int32) hN_X hN_Xfed q819 hc) (cw_M_175 hts ⟨Nat.le_of_ble_eq_true rfl, Nat.le_of_ble_eq_true rfl⟩) ⟨zbM, va_recv hK hP (ci := 7) rfl hN_X, (zpM hP hK hZ hD)⟩ rfl rfl hl.1 rfl (lv_room (Nat.le_of_ble_eq_true rfl)) d_M_read_160 ⟨Nat.zero_le _, Nat.zero_le _⟩) hS (fun q _ h => hFc q h) hFc (fun rv ws t H locs ht hvm hu hB hz1 hk1 hS => ?_)
              obtain ⟨hv, hN_X, hfr⟩ := hu
              subst hv
              obtain ⟨hP, -, hD1⟩ := hB
              rw [ht] at hP
              have hD := hD1.weaken (fun _ _ _ h => hFc _ h)
              have hN_X : zA ws 21 (aX, .inr (7, [.int (0 : Int32), .int X_side, .ref aXpicture, .ref aXhalf, .int X_many, .ref aXblocks, .int X_found_810, .int X_encodedBits, .ref aXencoded, .int X_fedMany, .ref aXfed, .int q819.2.1, .int q819.2.2, .int X_tried, .int (X_waiting_813 - (1 : Int32)), .ref aXpile, .int X_decoded, .ref aXnews, .ref aXolds, .ref aXhalves, .ref aXds, .ref aXrs, .ref aXbest, .long X_bestError])) := hN_X
              have hN_Xblocks := (hfr _ (by decide)).trans hN_Xblocks
              have hN_Xfed := (hfr _ (by decide)).trans hN_Xfed
              have hN_Xpile := (hfr _ (by decide)).trans hN_Xpile
              have hN_Xbest := (hfr _ (by decide)).trans hN_Xbest
              have hw := z_frC (by decide) hw hfr
              refine lv_iconst (v := 1) hx hb d_M_read_163 (by decide) ?_
              refine lv_icmp_ne (tgt := 179) hx hb d_M_read_164 (by decide) (fun hc => ?_) (fun hc => ?_)
              · have hf := z_f hc hf
                refine lv_aload_n hx hb d_M_read_179 rfl (lv_at hl 3 rfl) ?_
                refine lv_iload_n hx hb d_M_read_180 rfl (lv_at hl 2 rfl) ?_
                refine lv_iload hx hb d_M_read_181 (lv_at hl 1 rfl) ?_
                refine lv_iload hx hb d_M_read_183 (lv_at hl 0 rfl) ?_
                obtain ⟨q820, hc, hf⟩ := z_b hf
                have hFc := z_free hD hS hA
                refine va_callv (va_runV (As := [.int (Xpile_f_815 ((3 : Int32) * (X_waiting_813 - (1 : Int32))).toNatClampNeg), .int (Xpile_f_815 (((3 : Int32) * (X_waiting_813 - (1 : Int32))) + (1 : Int32)).toNatClampNeg), .int (Xpile_f_815 (((3 : Int32) * (X_waiting_813 - (1 : Int32))) + (2 : Int32)).toNatClampNeg)]) (rest := []) ⟨hx, hb, hml, hown, hts⟩ (c_M_readBlock l dC dI cI cL _ (Xpile_f_815 ((3 : Int32) * (X_waiting_813 - (1 : Int32))).toNatClampNeg) (Xpile_f_815 (((3 : Int32) * (X_waiting_813 - (1 : Int32))) + (1 : Int32)).toNatClampNeg) (Xpile_f_815 (((3 : Int32) * (X_waiting_813 - (1 : Int32))) + (2 : Int32)).toNatClampNeg) hN_X hN_Xblocks hN_Xfed hN_Xbest q820 hc) (cw_M_180 hts ⟨Nat.le_of_ble_eq_true rfl, Nat.le_of_ble_eq_true rfl⟩) ⟨zbM, va_recv hK hP (ci := 7) rfl hN_X, (zpM hP hK hZ hD)⟩ rfl rfl hl.1 rfl (lv_room (Nat.le_of_ble_eq_true rfl)) d_M_read_185 ⟨Nat.zero_le _, Nat.zero_le _⟩) hS (fun q _ h => hFc q h) hFc (fun ws t H locs ht hvm hu hB hz1 hk1 hS => ?_)
                obtain ⟨hN_X, hN_Xblocks, hN_Xbest, hfr⟩ := hu
                obtain ⟨hP, -, hD1⟩ := hB
                rw [ht] at hP
                have hD := hD1.weaken (fun _ _ _ h => hFc _ h)
                have hN_X : zA ws 21 (aX, .inr (7, [.int (0 : Int32), .int X_side, .ref aXpicture, .ref aXhalf, .int X_many, .ref aXblocks, .int q820.1, .int X_encodedBits, .ref aXencoded, .int X_fedMany, .ref aXfed, .int q820.2.1, .int q820.2.2.1, .int X_tried, .int (X_waiting_813 - (1 : Int32)), .ref aXpile, .int X_decoded, .ref aXnews, .ref aXolds, .ref aXhalves, .ref aXds, .ref aXrs, .ref aXbest, .long X_bestError])) := hN_X
                have hN_Xblocks : zA ws 24 (aXblocks, .inl (cI, Xblocks_n, .inl q820.2.2.2.1)) := hN_Xblocks
                have hN_Xbest : zA ws 33 (aXbest, .inl (cI, Xbest_n, .inl q820.2.2.2.2)) := hN_Xbest
                have hN_Xfed := (hfr _ (by decide)).trans hN_Xfed
                have hN_Xpile := (hfr _ (by decide)).trans hN_Xpile
                have hw := z_frC (by decide) hw hfr
                refine lv_goto (tgt := 86) hx hb d_M_read_188 (by decide) ?_
                exact ih q820.1 q820.2.1 q820.2.2.1 (X_waiting_813 - (1 : Int32)) q820.2.2.2.1 Xpile_f_815 q820.2.2.2.2 _ _ _ ls _ hf (lv_sub hl [3, 4, 5] rfl) hP hD hS hN_X hN_Xblocks hN_Xfed hN_Xpile hN_Xbest hw kt0
              · have hf := z_t hc hf
                refine lv_aload_n hx hb d_M_read_167 rfl (lv_at hl 3 rfl) ?_
                refine lv_iload_n hx hb d_M_read_168 rfl (lv_at hl 2 rfl) ?_
                refine lv_iload hx hb d_M_read_169 (lv_at hl 1 rfl) ?_
                refine lv_iload hx hb d_M_read_171 (lv_at hl 0 rfl) ?_
                obtain ⟨q821, hc, hf⟩ := z_b hf
                have hFc := z_free hD hS hA
                refine va_callv (va_runV (As := [.int (Xpile_f_815 ((3 : Int32) * (X_waiting_813 - (1 : Int32))).toNatClampNeg), .int (Xpile_f_815 (((3 : Int32) * (X_waiting_813 - (1 : Int32))) + (1 : Int32)).toNatClampNeg), .int (Xpile_f_815 (((3 : Int32) * (X_waiting_813 - (1 : Int32))) + (2 : Int32)).toNatClampNeg)]) (rest := []) ⟨hx, hb, hml, hown, hts⟩ (c_M_pileQuarters l dC dI cI cL _ (Xpile_f_815 ((3 : Int32) * (X_waiting_813 - (1 : Int32))).toNatClampNeg) (Xpile_f_815 (((3 : Int32) * (X_waiting_813 - (1 : Int32))) + (1 : Int32)).toNatClampNeg) (Xpile_f_815 (((3 : Int32) * (X_waiting_813 - (1 : Int32))) + (2 : Int32)).toNatClampNeg) hN_X hN_Xpile q821 hc) (cw_M_141 hts ⟨Nat.le_of_ble_eq_true rfl, Nat.le_of_ble_eq_true rfl⟩) ⟨zbM, va_recv hK hP (ci := 7) rfl hN_X, (zpM hP hK hZ hD)⟩ rfl rfl hl.1 rfl (lv_room (Nat.le_of_ble_eq_true rfl)) d_M_read_173 ⟨Nat.zero_le _, Nat.zero_le _⟩) hS (fun q _ h => hFc q h) hFc (fun ws t H locs ht hvm hu hB hz1 hk1 hS => ?_)
                obtain ⟨hN_X, hN_Xpile, hfr⟩ := hu
                obtain ⟨hP, -, hD1⟩ := hB
                rw [ht] at hP
                have hD := hD1.weaken (fun _ _ _ h => hFc _ h)
                have hN_X : zA ws 21 (aX, .inr (7, [.int (0 : Int32), .int X_side, .ref aXpicture, .ref aXhalf, .int X_many, .ref aXblocks, .int X_found_810, .int X_encodedBits, .ref aXencoded, .int X_fedMany, .ref aXfed, .int q819.2.1, .int q819.2.2, .int X_tried, .int q821.1, .ref aXpile, .int X_decoded, .ref aXnews, .ref aXolds, .ref aXhalves, .ref aXds, .ref aXrs, .ref aXbest, .long X_bestError])) := hN_X
                have hN_Xpile : zA ws 27 (aXpile, .inl (cI, Xpile_n, .inl q821.2)) := hN_Xpile
                have hN_Xblocks := (hfr _ (by decide)).trans hN_Xblocks
                have hN_Xfed := (hfr _ (by decide)).trans hN_Xfed
                have hN_Xbest := (hfr _ (by decide)).trans hN_Xbest
                have hw := z_frC (by decide) hw hfr
                refine lv_goto (tgt := 188) hx hb d_M_read_176 (by decide) ?_
                refine lv_goto (tgt := 86) hx hb d_M_read_188 (by decide) ?_
                exact ih X_found_810 q819.2.1 q819.2.2 q821.1 Xblocks_f_814 q821.2 Xbest_f_816 _ _ _ ls _ hf (lv_sub hl [3, 4, 5] rfl) hP hD hS hN_X hN_Xblocks hN_Xfed hN_Xpile hN_Xbest hw kt0
    obtain ⟨q809, hc, hf⟩ := z_b hf
    refine lp817 _ FU (0 : Int32) q784.2.1 s0_806 q808.1 Xblocks_f q808.2 Xbest_f _ _ _ ls q809 hc (lv_sub hl [0, 1, 2] rfl) hP hD hS hN_X hN_Xblocks hN_Xfed hN_Xpile hN_Xbest hw (fun ws H locs ls hl hP hD hS hN_X hN_Xblocks hN_Xfed hN_Xpile hN_Xbest hw => ?_)
    refine lv_bipush (v := 8) hx hb d_M_read_191 (by decide) ?_
    refine lv_aload_n hx hb d_M_read_193 rfl (lv_at hl 0 rfl) ?_
    refine gf_M_163 (v := .int X_fedMany) hx hb hts hown hK hP hN_X rfl d_M_read_194 ?_
    refine lv_imul hx hb d_M_read_197 ?_
    refine lv_aload_n hx hb d_M_read_198 rfl (lv_at hl 0 rfl) ?_
    refine gf_M_169 (v := .int q809.2.1) hx hb hts hown hK hP hN_X rfl d_M_read_199 ?_
    refine lv_isub hx hb d_M_read_202 ?_
    refine lv_bipush (v := 7) hx hb d_M_read_203 (by decide) ?_
    have jp213_823 : ∀ (s0_822 : Int32) (ls : Array Slot) (hf : f_M_read_J213 q784.1 ((1 : Int32) <<< (q784.1 &&& 31)) (0 : Int32) X_many q809.1 X_fedMany q809.2.1 q809.2.2.1 q809.2.2.2.1 Xblocks_n q809.2.2.2.2.1 Xfed_n Xfed_f q809.2.2.2.2.2.1 q809.2.2.2.2.2.2 s0_822 = some r) (hl : lv_has ls 6 [(0, .ref aX), (1, .int q784.1), (2, .int ((1 : Int32) <<< (q784.1 &&& 31)))]), W p l e (headSpec w_M_read rm_M_read).room s m ([.ref aX] : List Value).toArray below meth c H locs 0 0 (MQ below (va_Qi (fun (v : Int32) (ws' : va_W) => v = r.1 ∧ zA ws' 21 (aX, .inr (7, [.int r.2.1, .int X_side, .ref aXpicture, .ref aXhalf, .int r.2.2.1, .ref aXblocks, .int r.2.2.2.1, .int X_encodedBits, .ref aXencoded, .int r.2.2.2.2.1, .ref aXfed, .int r.2.2.2.2.2.1, .int r.2.2.2.2.2.2.1, .int X_tried, .int r.2.2.2.2.2.2.2.1, .ref aXpile, .int X_decoded, .ref aXnews, .ref aXolds, .ref aXhalves, .ref aXds, .ref aXrs, .ref aXbest, .long X_bestError])) ∧ zA ws' 24 (aXblocks, .inl (cI, Xblocks_n, .inl r.2.2.2.2.2.2.2.2.1)) ∧ zA ws' 27 (aXpile, .inl (cI, Xpile_n, .inl r.2.2.2.2.2.2.2.2.2.1)) ∧ zA ws' 33 (aXbest, .inl (cI, Xbest_n, .inl r.2.2.2.2.2.2.2.2.2.2)) ∧ ∀ (j : Nat), j ∉ ([21, 24, 27, 33] : List Nat) → ws'[j]? = ws0[j]?) (zQ dC dI cI cL A) A) ([.ref aX] : List Value).toArray s 0 0 A) (F0 m 213 ls [.int s0_822]) := by
      intro s0_822 ls hf hl
      unfold f_M_read_J213 at hf
      refine lv_istore_n (lv' := [(3, .int s0_822), (0, .ref aX), (1, .int q784.1), (2, .int ((1 : Int32) <<< (q784.1 &&& 31)))]) hx hb d_M_read_213 rfl hl (by decide) rfl (fun ls hl => ?_)
      refine lv_aload_n hx hb d_M_read_214 rfl (lv_at hl 1 rfl) ?_
      refine gf_M_169 (v := .int q809.2.1) hx hb hts hown hK hP hN_X rfl d_M_read_215 ?_
      refine lv_istore (lv' := [(4, .int q809.2.1), (3, .int s0_822), (0, .ref aX), (1, .int q784.1), (2, .int ((1 : Int32) <<< (q784.1 &&& 31)))]) hx hb d_M_read_218 hl (by decide) rfl (fun ls hl => ?_)
      have lp827 : ∀ (Qx : State → Prop) (n : Nat) (v3_825 : Int32) (v4_826 : Int32) (ls : Array Slot) (q : Int32 × Int32) (hf : f_M_read_220 q784.1 ((1 : Int32) <<< (q784.1 &&& 31)) X_fedMany q809.2.2.1 Xfed_n Xfed_f n v3_825 v4_826 = some q) (hl : lv_has ls 6 [(0, .ref aX), (1, .int q784.1), (2, .int ((1 : Int32) <<< (q784.1 &&& 31))), (3, .int v3_825), (4, .int v4_826)]) (kt0 : ∀ (ls : Array Slot), lv_has ls 6 [(0, .ref aX), (1, .int q784.1), (2, .int ((1 : Int32) <<< (q784.1 &&& 31))), (3, .int q.1), (4, .int q.2)] → W p l e (headSpec w_M_read rm_M_read).room s m ([.ref aX] : List Value).toArray below meth c H locs 0 0 Qx (F0 m 265 ls [])), W p l e (headSpec w_M_read rm_M_read).room s m ([.ref aX] : List Value).toArray below meth c H locs 0 0 Qx (F0 m 220 ls []) := by
        intro Qx n
        induction n with
        | zero => intro v3_825 v4_826 ls q hf; cases hf
        | succ n ih =>
          intro v3_825 v4_826 ls q hf hl kt0
          rw [f_M_read_220] at hf
          refine lv_iload hx hb d_M_read_220 (lv_at hl 4 rfl) ?_
          refine lv_bipush (v := 8) hx hb d_M_read_222 (by decide) ?_
          refine lv_aload_n hx hb d_M_read_224 rfl (lv_at hl 0 rfl) ?_
          refine gf_M_163 (v := .int X_fedMany) hx hb hts hown hK hP hN_X rfl d_M_read_225 ?_
          refine lv_imul hx hb d_M_read_228 ?_
          refine lv_icmp_ge (tgt := 265) hx hb d_M_read_229 (by decide) (fun hc => ?_) (fun hc => ?_)
          · have hf := z_t hc hf
            obtain rfl := Option.some.inj hf
            exact kt0 ls (lv_sub hl [0, 1, 2, 3, 4] rfl)
          · have hf := z_f hc hf
            refine lv_aload_n hx hb d_M_read_232 rfl (lv_at hl 0 rfl) ?_
            refine gf_M_166 (v := .int q809.2.2.1) hx hb hts hown hK hP hN_X rfl d_M_read_233 ?_
            refine lv_if_ge (tgt := 265) hx hb d_M_read_236 (by decide) (fun hc => ?_) (fun hc => ?_)
            · have hf := z_t hc hf
              obtain rfl := Option.some.inj hf
              exact kt0 ls (lv_sub hl [0, 1, 2, 3, 4] rfl)
            · have hf := z_f hc hf
              refine lv_iload_n hx hb d_M_read_239 rfl (lv_at hl 3 rfl) ?_
              refine lv_if_ne (tgt := 253) hx hb d_M_read_240 (by decide) (fun hc => ?_) (fun hc => ?_)
              · have hf := z_f hc hf
                refine lv_iconst (v := 1) hx hb d_M_read_253 (by decide) ?_
                refine lv_goto (tgt := 258) hx hb d_M_read_254 (by decide) ?_
                refine lv_istore_n (lv' := [(3, .int (1 : Int32)), (0, .ref aX), (1, .int q784.1), (2, .int ((1 : Int32) <<< (q784.1 &&& 31))), (4, .int v4_826)]) hx hb d_M_read_258 rfl hl (by decide) rfl (fun ls hl => ?_)
                refine lv_iinc (v := (v4_826 + 1)) (lv' := [(4, .int (v4_826 + 1)), (3, .int (1 : Int32)), (0, .ref aX), (1, .int q784.1), (2, .int ((1 : Int32) <<< (q784.1 &&& 31)))]) hx hb d_M_read_259 hl (k := 4) rfl rfl (by decide) rfl (fun ls hl => ?_)
                refine lv_goto (tgt := 220) hx hb d_M_read_262 (by decide) ?_
                exact ih (1 : Int32) (v4_826 + 1) ls _ hf (lv_sub hl [2, 3, 4, 1, 0] rfl) kt0
              · have hf := z_t hc hf
                refine lv_aload_n hx hb d_M_read_243 rfl (lv_at hl 0 rfl) ?_
                refine lv_iload hx hb d_M_read_244 (lv_at hl 4 rfl) ?_
                obtain ⟨q828, hc, hf⟩ := z_b hf
                refine vp_callSi (z_cr (va_runV (As := [.int v4_826]) (rest := []) ⟨hx, hb, hml, hown, hts⟩ (c_M_bitAt l dC dI cI cL v4_826 hN_X hN_Xfed q828 hc) (cw_M_172 hts ⟨Nat.le_of_ble_eq_true rfl, Nat.le_of_ble_eq_true rfl⟩) ⟨zbR, va_recv hK hP (ci := 7) rfl hN_X, (zpR hP hK hZ)⟩ rfl rfl hl.1 rfl (lv_room (Nat.le_of_ble_eq_true rfl)) d_M_read_246 ⟨Nat.zero_le _, Nat.zero_le _⟩)) (fun r829 hv => ?_)
                have hv := hv.symm
                subst hv
                refine lv_iconst (v := 1) hx hb d_M_read_249 (by decide) ?_
                refine lv_icmp_ne (tgt := 257) hx hb d_M_read_250 (by decide) (fun hc => ?_) (fun hc => ?_)
                · have hf := z_f hc hf
                  refine lv_iconst (v := 0) hx hb d_M_read_257 (by decide) ?_
                  refine lv_istore_n (lv' := [(3, .int (0 : Int32)), (0, .ref aX), (1, .int q784.1), (2, .int ((1 : Int32) <<< (q784.1 &&& 31))), (4, .int v4_826)]) hx hb d_M_read_258 rfl hl (by decide) rfl (fun ls hl => ?_)
                  refine lv_iinc (v := (v4_826 + 1)) (lv' := [(4, .int (v4_826 + 1)), (3, .int (0 : Int32)), (0, .ref aX), (1, .int q784.1), (2, .int ((1 : Int32) <<< (q784.1 &&& 31)))]) hx hb d_M_read_259 hl (k := 4) rfl rfl (by decide) rfl (fun ls hl => ?_)
                  refine lv_goto (tgt := 220) hx hb d_M_read_262 (by decide) ?_
                  exact ih (0 : Int32) (v4_826 + 1) ls _ hf (lv_sub hl [2, 3, 4, 1, 0] rfl) kt0
                · have hf := z_t hc hf
                  refine lv_iconst (v := 1) hx hb d_M_read_253 (by decide) ?_
                  refine lv_goto (tgt := 258) hx hb d_M_read_254 (by decide) ?_
                  refine lv_istore_n (lv' := [(3, .int (1 : Int32)), (0, .ref aX), (1, .int q784.1), (2, .int ((1 : Int32) <<< (q784.1 &&& 31))), (4, .int v4_826)]) hx hb d_M_read_258 rfl hl (by decide) rfl (fun ls hl => ?_)
                  refine lv_iinc (v := (v4_826 + 1)) (lv' := [(4, .int (v4_826 + 1)), (3, .int (1 : Int32)), (0, .ref aX), (1, .int q784.1), (2, .int ((1 : Int32) <<< (q784.1 &&& 31)))]) hx hb d_M_read_259 hl (k := 4) rfl rfl (by decide) rfl (fun ls hl => ?_)
                  refine lv_goto (tgt := 220) hx hb d_M_read_262 (by decide) ?_
                  exact ih (1 : Int32) (v4_826 + 1) ls _ hf (lv_sub hl [2, 3, 4, 1, 0] rfl) kt0
      obtain ⟨q824, hc, hf⟩ := z_b hf
      refine lp827 _ FU s0_822 q809.2.1 ls q824 hc (lv_sub hl [2, 3, 4, 1, 0] rfl) (fun ls hl => ?_)
      refine lv_aload_n hx hb d_M_read_265 rfl (lv_at hl 0 rfl) ?_
      refine lv_aload_n hx hb d_M_read_266 rfl (lv_at hl 0 rfl) ?_
      refine gf_M_166 (v := .int q809.2.2.1) hx hb hts hown hK hP hN_X rfl d_M_read_267 ?_
      refine lv_if_ge (tgt := 281) hx hb d_M_read_270 (by decide) (fun hc => ?_) (fun hc => ?_)
      · have hf := z_t hc hf
        refine lv_aload_n hx hb d_M_read_281 rfl (lv_at hl 0 rfl) ?_
        refine gf_M_166 (v := .int q809.2.2.1) hx hb hts hown hK hP hN_X rfl d_M_read_282 ?_
        refine pf_M_166 (v := .int q809.2.2.1) hx hb hts hown hK hP hD hS hN_X rfl rfl (Nat.le_of_ble_eq_true rfl) d_M_read_285 (fun ws H locs hP hD hS hN_X hfr => ?_)
        have hN_X : zA ws 21 (aX, .inr (7, [.int (0 : Int32), .int X_side, .ref aXpicture, .ref aXhalf, .int X_many, .ref aXblocks, .int q809.1, .int X_encodedBits, .ref aXencoded, .int X_fedMany, .ref aXfed, .int q809.2.1, .int q809.2.2.1, .int X_tried, .int q809.2.2.2.1, .ref aXpile, .int X_decoded, .ref aXnews, .ref aXolds, .ref aXhalves, .ref aXds, .ref aXrs, .ref aXbest, .long X_bestError])) := hN_X
        have hN_Xblocks := (hfr _ (by decide)).trans hN_Xblocks
        have hN_Xfed := (hfr _ (by decide)).trans hN_Xfed
        have hN_Xpile := (hfr _ (by decide)).trans hN_Xpile
        have hN_Xbest := (hfr _ (by decide)).trans hN_Xbest
        have hw := z_fr (by decide) hw hfr
        refine lv_aload_n hx hb d_M_read_288 rfl (lv_at hl 0 rfl) ?_
        refine lv_iconst (v := 0) hx hb d_M_read_289 (by decide) ?_
        refine pf_M_163 (v := .int (0 : Int32)) hx hb hts hown hK hP hD hS hN_X rfl rfl (Nat.le_of_ble_eq_true rfl) d_M_read_290 (fun ws H locs hP hD hS hN_X hfr => ?_)
        have hN_X : zA ws 21 (aX, .inr (7, [.int (0 : Int32), .int X_side, .ref aXpicture, .ref aXhalf, .int X_many, .ref aXblocks, .int q809.1, .int X_encodedBits, .ref aXencoded, .int (0 : Int32), .ref aXfed, .int q809.2.1, .int q809.2.2.1, .int X_tried, .int q809.2.2.2.1, .ref aXpile, .int X_decoded, .ref aXnews, .ref aXolds, .ref aXhalves, .ref aXds, .ref aXrs, .ref aXbest, .long X_bestError])) := hN_X
        have hN_Xblocks := (hfr _ (by decide)).trans hN_Xblocks
        have hN_Xfed := (hfr _ (by decide)).trans hN_Xfed
        have hN_Xpile := (hfr _ (by decide)).trans hN_Xpile
        have hN_Xbest := (hfr _ (by decide)).trans hN_Xbest
        have hw := z_fr (by decide) hw hfr
        refine lv_aload_n hx hb d_M_read_293 rfl (lv_at hl 0 rfl) ?_
        refine gf_M_166 (v := .int q809.2.2.1) hx hb hts hown hK hP hN_X rfl d_M_read_294 ?_
        refine lv_if_lt (tgt := 307) hx hb d_M_read_297 (by decide) (fun hc => ?_) (fun hc => ?_)
        · have hf := z_t hc hf
          refine lv_aload_n hx hb d_M_read_307 rfl (lv_at hl 0 rfl) ?_
          obtain ⟨q830, hc, hf⟩ := z_b hf
          have hFc := z_free hD hS hA
          refine va_callv (va_runV (As := []) (rest := []) ⟨hx, hb, hml, hown, hts⟩ (c_M_takeFound l dC dI cI cL _ hN_X hN_Xblocks q830 hc) (cw_M_154 hts ⟨Nat.le_of_ble_eq_true rfl, Nat.le_of_ble_eq_true rfl⟩) ⟨zbM, va_recv hK hP (ci := 7) rfl hN_X, (zpM hP hK hZ hD)⟩ rfl rfl hl.1 rfl (lv_room (Nat.le_of_ble_eq_true rfl)) d_M_read_308 ⟨Nat.zero_le _, Nat.zero_le _⟩) hS (fun q _ h => hFc q h) hFc (fun ws t H locs ht hvm hu hB hz1 hk1 hS => ?_)
          obtain ⟨hN_X, hN_Xblocks, hfr⟩ := hu
          obtain ⟨hP, -, hD1⟩ := hB
          rw [ht] at hP
          have hD := hD1.weaken (fun _ _ _ h => hFc _ h)
          have hN_X : zA ws 21 (aX, .inr (7, [.int (0 : Int32), .int X_side, .ref aXpicture, .ref aXhalf, .int q830.1, .ref aXblocks, .int q809.1, .int X_encodedBits, .ref aXencoded, .int (0 : Int32), .ref aXfed, .int q809.2.1, .int q809.2.2.1, .int X_tried, .int q809.2.2.2.1, .ref aXpile, .int X_decoded, .ref aXnews, .ref aXolds, .ref aXhalves, .ref aXds, .ref aXrs, .ref aXbest, .long X_bestError])) := hN_X
          have hN_Xblocks : zA ws 24 (aXblocks, .inl (cI, Xblocks_n, .inl q830.2)) := hN_Xblocks
          have hN_Xfed := (hfr _ (by decide)).trans hN_Xfed
          have hN_Xpile := (hfr _ (by decide)).trans hN_Xpile
          have hN_Xbest := (hfr _ (by decide)).trans hN_Xbest
          have hw := z_frC (by decide) hw hfr
          refine lv_aload_n hx hb d_M_read_311 rfl (lv_at hl 0 rfl) ?_
          refine gf_M_123 (v := .int q830.1) hx hb hts hown hK hP hN_X rfl d_M_read_312 ?_
          obtain rfl := Option.some.inj hf
          exact W.iret hx hb hr (fun t ht hW => ⟨⟨_, ws, rfl, (by dsimp only; exact ⟨rfl, hN_X, hN_Xblocks, hN_Xpile, hN_Xbest, hw⟩), by rw [ht]; exact hP, va_K.moved hW.alike hK, hD⟩, hS.F ht⟩) hS.2.2 d_M_read_315
        · have hf := z_f hc hf
          refine lv_iconst (v := (-1)) hx hb d_M_read_300 (by decide) ?_
          refine lv_aload_n hx hb d_M_read_301 rfl (lv_at hl 0 rfl) ?_
          refine gf_M_166 (v := .int q809.2.2.1) hx hb hts hown hK hP hN_X rfl d_M_read_302 ?_
          refine lv_isub hx hb d_M_read_305 ?_
          obtain rfl := Option.some.inj hf
          exact W.iret hx hb hr (fun t ht hW => ⟨⟨_, ws, rfl, (by dsimp only; exact ⟨rfl, hN_X, hN_Xblocks, hN_Xpile, hN_Xbest, hw⟩), by rw [ht]; exact hP, va_K.moved hW.alike hK, hD⟩, hS.F ht⟩) hS.2.2 d_M_read_306
      · have hf := z_f hc hf
        refine lv_iload_n hx hb d_M_read_273 rfl (lv_at hl 3 rfl) ?_
        refine lv_if_eq (tgt := 281) hx hb d_M_read_274 (by decide) (fun hc => ?_) (fun hc => ?_)
        · have hf := z_t hc hf
          refine lv_aload_n hx hb d_M_read_281 rfl (lv_at hl 0 rfl) ?_
          refine gf_M_166 (v := .int q809.2.2.1) hx hb hts hown hK hP hN_X rfl d_M_read_282 ?_
          refine pf_M_166 (v := .int q809.2.2.1) hx hb hts hown hK hP hD hS hN_X rfl rfl (Nat.le_of_ble_eq_true rfl) d_M_read_285 (fun ws H locs hP hD hS hN_X hfr => ?_)
          have hN_X : zA ws 21 (aX, .inr (7, [.int (0 : Int32), .int X_side, .ref aXpicture, .ref aXhalf, .int X_many, .ref aXblocks, .int q809.1, .int X_encodedBits, .ref aXencoded, .int X_fedMany, .ref aXfed, .int q809.2.1, .int q809.2.2.1, .int X_tried, .int q809.2.2.2.1, .ref aXpile, .int X_decoded, .ref aXnews, .ref aXolds, .ref aXhalves, .ref aXds, .ref aXrs, .ref aXbest, .long X_bestError])) := hN_X
          have hN_Xblocks := (hfr _ (by decide)).trans hN_Xblocks
          have hN_Xfed := (hfr _ (by decide)).trans hN_Xfed
          have hN_Xpile := (hfr _ (by decide)).trans hN_Xpile
          have hN_Xbest := (hfr _ (by decide)).trans hN_Xbest
          have hw := z_fr (by decide) hw hfr
          refine lv_aload_n hx hb d_M_read_288 rfl (lv_at hl 0 rfl) ?_
          refine lv_iconst (v := 0) hx hb d_M_read_289 (by decide) ?_
          refine pf_M_163 (v := .int (0 : Int32)) hx hb hts hown hK hP hD hS hN_X rfl rfl (Nat.le_of_ble_eq_true rfl) d_M_read_290 (fun ws H locs hP hD hS hN_X hfr => ?_)
          have hN_X : zA ws 21 (aX, .inr (7, [.int (0 : Int32), .int X_side, .ref aXpicture, .ref aXhalf, .int X_many, .ref aXblocks, .int q809.1, .int X_encodedBits, .ref aXencoded, .int (0 : Int32), .ref aXfed, .int q809.2.1, .int q809.2.2.1, .int X_tried, .int q809.2.2.2.1, .ref aXpile, .int X_decoded, .ref aXnews, .ref aXolds, .ref aXhalves, .ref aXds, .ref aXrs, .ref aXbest, .long X_bestError])) := hN_X
          have hN_Xblocks := (hfr _ (by decide)).trans hN_Xblocks
          have hN_Xfed := (hfr _ (by decide)).trans hN_Xfed
          have hN_Xpile := (hfr _ (by decide)).trans hN_Xpile
          have hN_Xbest := (hfr _ (by decide)).trans hN_Xbest
          have hw := z_fr (by decide) hw hfr
          refine lv_aload_n hx hb d_M_read_293 rfl (lv_at hl 0 rfl) ?_
          refine gf_M_166 (v := .int q809.2.2.1) hx hb hts hown hK hP hN_X rfl d_M_read_294 ?_
          refine lv_if_lt (tgt := 307) hx hb d_M_read_297 (by decide) (fun hc => ?_) (fun hc => ?_)
          · have hf := z_t hc hf
            refine lv_aload_n hx hb d_M_read_307 rfl (lv_at hl 0 rfl) ?_
            obtain ⟨q831, hc, hf⟩ := z_b hf
            have hFc := z_free hD hS hA
            refine va_callv (va_runV (As := []) (rest := []) ⟨hx, hb, hml, hown, hts⟩ (c_M_takeFound l dC dI cI cL _ hN_X hN_Xblocks q831 hc) (cw_M_154 hts ⟨Nat.le_of_ble_eq_true rfl, Nat.le_of_ble_eq_true rfl⟩) ⟨zbM, va_recv hK hP (ci := 7) rfl hN_X, (zpM hP hK hZ hD)⟩ rfl rfl hl.1 rfl (lv_room (Nat.le_of_ble_eq_true rfl)) d_M_read_308 ⟨Nat.zero_le _, Nat.zero_le _⟩) hS (fun q _ h => hFc q h) hFc (fun ws t H locs ht hvm hu hB hz1 hk1 hS => ?_)
            obtain ⟨hN_X, hN_Xblocks, hfr⟩ := hu
            obtain ⟨hP, -, hD1⟩ := hB
            rw [ht] at hP
            have hD := hD1.weaken (fun _ _ _ h => hFc _ h)
            have hN_X : zA ws 21 (aX, .inr (7, [.int (0 : Int32), .int X_side, .ref aXpicture, .ref aXhalf, .int q831.1, .ref aXblocks, .int q809.1, .int X_encodedBits, .ref aXencoded, .int (0 : Int32), .ref aXfed, .int q809.2.1, .int q809.2.2.1, .int X_tried, .int q809.2.2.2.1, .ref aXpile, .int X_decoded, .ref aXnews, .ref aXolds, .ref aXhalves, .ref aXds, .ref aXrs, .ref aXbest, .long X_bestError])) := hN_X
            have hN_Xblocks : zA ws 24 (aXblocks, .inl (cI, Xblocks_n, .inl q831.2)) := hN_Xblocks
            have hN_Xfed := (hfr _ (by decide)).trans hN_Xfed
            have hN_Xpile := (hfr _ (by decide)).trans hN_Xpile
            have hN_Xbest := (hfr _ (by decide)).trans hN_Xbest
            have hw := z_frC (by decide) hw hfr
            refine lv_aload_n hx hb d_M_read_311 rfl (lv_at hl 0 rfl) ?_
            refine gf_M_123 (v := .int q831.1) hx hb hts hown hK hP hN_X rfl d_M_read_312 ?_
            obtain rfl := Option.some.inj hf
            exact W.iret hx hb hr (fun t ht hW => ⟨⟨_, ws, rfl, (by dsimp only; exact ⟨rfl, hN_X, hN_Xblocks, hN_Xpile, hN_Xbest, hw⟩), by rw [ht]; exact hP, va_K.moved hW.alike hK, hD⟩, hS.F ht⟩) hS.2.2 d_M_read_315
          · have hf := z_f hc hf
            refine lv_iconst (v := (-1)) hx hb d_M_read_300 (by decide) ?_
            refine lv_aload_n hx hb d_M_read_301 rfl (lv_at hl 0 rfl) ?_
            refine gf_M_166 (v := .int q809.2.2.1) hx hb hts hown hK hP hN_X rfl d_M_read_302 ?_
            refine lv_isub hx hb d_M_read_305 ?_
            obtain rfl := Option.some.inj hf
            exact W.iret hx hb hr (fun t ht hW => ⟨⟨_, ws, rfl, (by dsimp only; exact ⟨rfl, hN_X, hN_Xblocks, hN_Xpile, hN_Xbest, hw⟩), by rw [ht]; exact hP, va_K.moved hW.alike hK, hD⟩, hS.F ht⟩) hS.2.2 d_M_read_306
        · have hf := z_f hc hf
          refine lv_iconst (v := 4) hx hb d_M_read_277 (by decide) ?_
          refine lv_goto (tgt := 285) hx hb d_M_read_278 (by decide) ?_
          refine pf_M_166 (v := .int (4 : Int32)) hx hb hts hown hK hP hD hS hN_X rfl rfl (Nat.le_of_ble_eq_true rfl) d_M_read_285 (fun ws H locs hP hD hS hN_X hfr => ?_)
          have hN_X : zA ws 21 (aX, .inr (7, [.int (0 : Int32), .int X_side, .ref aXpicture, .ref aXhalf, .int X_many, .ref aXblocks, .int q809.1, .int X_encodedBits, .ref aXencoded, .int X_fedMany, .ref aXfed, .int q809.2.1, .int (4 : Int32), .int X_tried, .int q809.2.2.2.1, .ref aXpile, .int X_decoded, .ref aXnews, .ref aXolds, .ref aXhalves, .ref aXds, .ref aXrs, .ref aXbest, .long X_bestError])) := hN_X
          have hN_Xblocks := (hfr _ (by decide)).trans hN_Xblocks
          have hN_Xfed := (hfr _ (by decide)).trans hN_Xfed
          have hN_Xpile := (hfr _ (by decide)).trans hN_Xpile
          have hN_Xbest := (hfr _ (by decide)).trans hN_Xbest
          have hw := z_fr (by decide) hw hfr
          refine lv_aload_n hx hb d_M_read_288 rfl (lv_at hl 0 rfl) ?_
          refine lv_iconst (v := 0) hx hb d_M_read_289 (by decide) ?_
          refine pf_M_163 (v := .int (0 : Int32)) hx hb hts hown hK hP hD hS hN_X rfl rfl (Nat.le_of_ble_eq_true rfl) d_M_read_290 (fun ws H locs hP hD hS hN_X hfr => ?_)
          have hN_X : zA ws 21 (aX, .inr (7, [.int (0 : Int32), .int X_side, .ref aXpicture, .ref aXhalf, .int X_many, .ref aXblocks, .int q809.1, .int X_encodedBits, .ref aXencoded, .int (0 : Int32), .ref aXfed, .int q809.2.1, .int (4 : Int32), .int X_tried, .int q809.2.2.2.1, .ref aXpile, .int X_decoded, .ref aXnews, .ref aXolds, .ref aXhalves, .ref aXds, .ref aXrs, .ref aXbest, .long X_bestError])) := hN_X
          have hN_Xblocks := (hfr _ (by decide)).trans hN_Xblocks
          have hN_Xfed := (hfr _ (by decide)).trans hN_Xfed
          have hN_Xpile := (hfr _ (by decide)).trans hN_Xpile
          have hN_Xbest := (hfr _ (by decide)).trans hN_Xbest
          have hw := z_fr (by decide) hw hfr
          refine lv_aload_n hx hb d_M_read_293 rfl (lv_at hl 0 rfl) ?_
          refine gf_M_166 (v := .int (4 : Int32)) hx hb hts hown hK hP hN_X rfl d_M_read_294 ?_
          refine lv_if_lt (tgt := 307) hx hb d_M_read_297 (by decide) (fun hc => ?_) (fun hc => ?_)
          · have hf := z_t hc hf
            refine lv_aload_n hx hb d_M_read_307 rfl (lv_at hl 0 rfl) ?_
            obtain ⟨q832, hc, hf⟩ := z_b hf
            have hFc := z_free hD hS hA
            refine va_callv (va_runV (As := []) (rest := []) ⟨hx, hb, hml, hown, hts⟩ (c_M_takeFound l dC dI cI cL _ hN_X hN_Xblocks q832 hc) (cw_M_154 hts ⟨Nat.le_of_ble_eq_true rfl, Nat.le_of_ble_eq_true rfl⟩) ⟨zbM, va_recv hK hP (ci := 7) rfl hN_X, (zpM hP hK hZ hD)⟩ rfl rfl hl.1 rfl (lv_room (Nat.le_of_ble_eq_true rfl)) d_M_read_308 ⟨Nat.zero_le _, Nat.zero_le _⟩) hS (fun q _ h => hFc q h) hFc (fun ws t H locs ht hvm hu hB hz1 hk1 hS => ?_)
            obtain ⟨hN_X, hN_Xblocks, hfr⟩ := hu
            obtain ⟨hP, -, hD1⟩ := hB
            rw [ht] at hP
            have hD := hD1.weaken (fun _ _ _ h => hFc _ h)
            have hN_X : zA ws 21 (aX, .inr (7, [.int (0 : Int32), .int X_side, .ref aXpicture, .ref aXhalf, .int q832.1, .ref aXblocks, .int q809.1, .int X_encodedBits, .ref aXencoded, .int (0 : Int32), .ref aXfed, .int q809.2.1, .int (4 : Int32), .int X_tried, .int q809.2.2.2.1, .ref aXpile, .int X_decoded, .ref aXnews, .ref aXolds, .ref aXhalves, .ref aXds, .ref aXrs, .ref aXbest, .long X_bestError])) := hN_X
            have hN_Xblocks : zA ws 24 (aXblocks, .inl (cI, Xblocks_n, .inl q832.2)) := hN_Xblocks
            have hN_Xfed := (hfr _ (by decide)).trans hN_Xfed
            have hN_Xpile := (hfr _ (by decide)).trans hN_Xpile
            have hN_Xbest := (hfr _ (by decide)).trans hN_Xbest
            have hw := z_frC (by decide) hw hfr
            refine lv_aload_n hx hb d_M_read_311 rfl (lv_at hl 0 rfl) ?_
            refine gf_M_123 (v := .int q832.1) hx hb hts hown hK hP hN_X rfl d_M_read_312 ?_
            obtain rfl := Option.some.inj hf
            exact W.iret hx hb hr (fun t ht hW => ⟨⟨_, ws, rfl, (by dsimp only; exact ⟨rfl, hN_X, hN_Xblocks, hN_Xpile, hN_Xbest, hw⟩), by rw [ht]; exact hP, va_K.moved hW.alike hK, hD⟩, hS.F ht⟩) hS.2.2 d_M_read_315
          · have hf := z_f hc hf
            refine lv_iconst (v := (-1)) hx hb d_M_read_300 (by decide) ?_
            refine lv_aload_n hx hb d_M_read_301 rfl (lv_at hl 0 rfl) ?_
            refine gf_M_166 (v := .int (4 : Int32)) hx hb hts hown hK hP hN_X rfl d_M_read_302 ?_
            refine lv_isub hx hb d_M_read_305 ?_
            obtain rfl := Option.some.inj hf
            exact W.iret hx hb hr (fun t ht hW => ⟨⟨_, ws, rfl, (by dsimp only; exact ⟨rfl, hN_X, hN_Xblocks, hN_Xpile, hN_Xbest, hw⟩), by rw [ht]; exact hP, va_K.moved hW.alike hK, hD⟩, hS.F ht⟩) hS.2.2 d_M_read_306
    refine lv_icmp_le (tgt := 212) hx hb d_M_read_205 (by decide) (fun hc => ?_) (fun hc => ?_)
    · have hf := z_t hc hf
      refine lv_iconst (v := 0) hx hb d_M_read_212 (by decide) ?_
      exact jp213_823 (0 : Int32) ls hf (lv_sub hl [0, 1, 2] rfl)
    · have hf := z_f hc hf
      refine lv_iconst (v := 1) hx hb d_M_read_208 (by decide) ?_
      refine lv_goto (tgt := 213) hx hb d_M_read_209 (by decide) ?_
      exact jp213_823 (1 : Int32) ls hf (lv_sub hl [0, 1, 2] rfl)
  refine lv_if_ge (tgt := 69) hx hb d_M_read_40 (by decide) (fun hc => ?_) (fun hc => ?_)
  · have hf := z_t hc hf
    refine lv_aload_n hx hb d_M_read_69 rfl (lv_at hl 2 rfl) ?_
    refine gf_M_166 (v := .int q784.2.2) hx hb hts hown hK hP hN_X rfl d_M_read_70 ?_
    exact jp73_807 q784.2.2 ls hf (lv_sub hl [2, 1, 0] rfl)
  · have hf := z_f hc hf
    refine lv_iload_n hx hb d_M_read_43 rfl (lv_at hl 1 rfl) ?_
    refine lv_i2l hx hb d_M_read_44 rfl ?_
    refine lv_lconst (v := 1) hx hb d_M_read_45 (by decide) ?_
    refine lv_ldc2 (v := 4) hx hb hown (hts _ lk_M_178) d_M_read_46 ?_
    obtain ⟨q833, hc, hf⟩ := z_b hf
    refine vp_callSi (z_cr (va_runS (As := [.long q784.1.toInt64, .long (1 : Int64), .long (4 : Int64)]) (rest := [.ref aX]) ⟨hx, hb, hml, hown, hts⟩ (c_M_in l q784.1.toInt64 (1 : Int64) (4 : Int64) q833 hc) (cw_M_55 hts ⟨Nat.le_of_ble_eq_true rfl, Nat.le_of_ble_eq_true rfl⟩) ⟨zb0, zp0⟩ rfl rfl hl.1 rfl (lv_room (Nat.le_of_ble_eq_true rfl)) d_M_read_49 ⟨Nat.zero_le _, Nat.zero_le _⟩)) (fun r834 hv => ?_)
    have hv := hv.symm
    subst hv
    refine lv_if_eq (tgt := 65) hx hb d_M_read_52 (by decide) (fun hc => ?_) (fun hc => ?_)
    · have hf := z_t hc hf
      refine lv_iconst (v := 0) hx hb d_M_read_65 (by decide) ?_
      refine lv_goto (tgt := 73) hx hb d_M_read_66 (by decide) ?_
      exact jp73_807 (0 : Int32) ls hf (lv_sub hl [2, 1, 0] rfl)
    · have hf := z_f hc hf
      refine lv_iconst (v := 2) hx hb d_M_read_55 (by decide) ?_
      refine lv_iload_n hx hb d_M_read_56 rfl (lv_at hl 0 rfl) ?_
      refine lv_imul hx hb d_M_read_57 ?_
      refine lv_aload_n hx hb d_M_read_58 rfl (lv_at hl 2 rfl) ?_
      refine gf_M_46 (v := .int X_side) hx hb hts hown hK hP hN_X rfl d_M_read_59 ?_
      refine lv_icmp_le (tgt := 69) hx hb d_M_read_62 (by decide) (fun hc => ?_) (fun hc => ?_)
      · have hf := z_t hc hf
        refine lv_aload_n hx hb d_M_read_69 rfl (lv_at hl 2 rfl) ?_
        refine gf_M_166 (v := .int q784.2.2) hx hb hts hown hK hP hN_X rfl d_M_read_70 ?_
        exact jp73_807 q784.2.2 ls hf (lv_sub hl [2, 1, 0] rfl)
      · have hf := z_f hc hf
        refine lv_iconst (v := 0) hx hb d_M_read_65 (by decide) ?_
        refine lv_goto (tgt := 73) hx hb d_M_read_66 (by decide) ?_
        exact jp73_807 (0 : Int32) ls hf (lv_sub hl [2, 1, 0] rfl)
