def f_M_readBlock (x1 : Int32) (x2 : Int32) (x3 : Int32) (X_side : Int32) (X_found : Int32) (X_fedMany : Int32) (X_readAt : Int32) (X_why : Int32) (Xblocks_n : Nat) (Xblocks_f : Nat → Int32) (Xfed_n : Nat) (Xfed_f : Nat → Int32) (Xbest_n : Nat) (Xbest_f : Nat → Int32) : Option (Int32 × Int32 × Int32 × (Nat → Int32) × (Nat → Int32)) := (f_M_bitsFor x3 X_side).bind (fun q240 => (f_M_take q240 X_fedMany X_readAt X_why Xfed_n Xfed_f).bind (fun q242 => if (0 : Int32) < 0 ∨ Xbest_n ≤ (0 : Int32).toNatClampNeg then none else (if 0 ≤ q242.2.2 then ((f_M_take (3 : Int32) X_fedMany q242.2.1 q242.2.2 Xfed_n Xfed_f).bind (fun q243 => if (1 : Int32) < 0 ∨ Xbest_n ≤ (1 : Int32).toNatClampNeg then none else ((f_M_take (4 : Int32) X_fedMany q243.2.1 q243.2.2 Xfed_n Xfed_f).bind (fun q244 => if (2 : Int32) < 0 ∨ Xbest_n ≤ (2 : Int32).toNatClampNeg then none else (if 0 ≤ q244.2.2 then ((f_M_take (10 : Int32) X_fedMany q244.2.1 q244.2.2 Xfed_n Xfed_f).bind (fun q245 => if (3 : Int32) < 0 ∨ Xbest_n ≤ (3 : Int32).toNatClampNeg then none else (if 0 ≤ q245.2.2 then (some (X_found, q245.2.1, q245.2.2, Xblocks_f, (upd (upd (upd (upd Xbest_f (0 : Int32).toNatClampNeg q242.1) (1 : Int32).toNatClampNeg q243.1) (2 : Int32).toNatClampNeg (q244.1 - (7 : Int32))) (3 : Int32).toNatClampNeg (q245.1 - (256 : Int32))))) else ((f_M_note x1 x2 x3 ((-1) : Int32) X_found Xblocks_n Xblocks_f Xbest_n (upd (upd (upd (upd Xbest_f (0 : Int32).toNatClampNeg q242.1) (1 : Int32).toNatClampNeg q243.1) (2 : Int32).toNatClampNeg (q244.1 - (7 : Int32))) (3 : Int32).toNatClampNeg (q245.1 - (256 : Int32)))).bind (fun q246 => some (q246.1, q245.2.1, q245.2.2, q246.2, (upd (upd (upd (upd Xbest_f (0 : Int32).toNatClampNeg q242.1) (1 : Int32).toNatClampNeg q243.1) (2 : Int32).toNatClampNeg (q244.1 - (7 : Int32))) (3 : Int32).toNatClampNeg (q245.1 - (256 : Int32))))))))) else (if (2 : Int32) < 0 ∨ Xbest_n ≤ (2 : Int32).toNatClampNeg then none else (if ((upd (upd (upd Xbest_f (0 : Int32).toNatClampNeg q242.1) (1 : Int32).toNatClampNeg q243.1) (2 : Int32).toNatClampNeg (q244.1 - (7 : Int32))) (2 : Int32).toNatClampNeg) ≤ (7 : Int32) then ((f_M_take (10 : Int32) X_fedMany q244.2.1 q244.2.2 Xfed_n Xfed_f).bind (fun q247 => if (3 : Int32) < 0 ∨ Xbest_n ≤ (3 : Int32).toNatClampNeg then none else (if 0 ≤ q247.2.2 then (some (X_found, q247.2.1, q247.2.2, Xblocks_f, (upd (upd (upd (upd Xbest_f (0 : Int32).toNatClampNeg q242.1) (1 : Int32).toNatClampNeg q243.1) (2 : Int32).toNatClampNeg (q244.1 - (7 : Int32))) (3 : Int32).toNatClampNeg (q247.1 - (256 : Int32))))) else ((f_M_note x1 x2 x3 ((-1) : Int32) X_found Xblocks_n Xblocks_f Xbest_n (upd (upd (upd (upd Xbest_f (0 : Int32).toNatClampNeg q242.1) (1 : Int32).toNatClampNeg q243.1) (2 : Int32).toNatClampNeg (q244.1 - (7 : Int32))) (3 : Int32).toNatClampNeg (q247.1 - (256 : Int32)))).bind (fun q248 => some (q248.1, q247.2.1, q247.2.2, q248.2, (upd (upd (upd (upd Xbest_f (0 : Int32).toNatClampNeg q242.1) (1 : Int32).toNatClampNeg q243.1) (2 : Int32).toNatClampNeg (q244.1 - (7 : Int32))) (3 : Int32).toNatClampNeg (q247.1 - (256 : Int32))))))))) else ((f_M_take (10 : Int32) X_fedMany q244.2.1 (2 : Int32) Xfed_n Xfed_f).bind (fun q249 => if (3 : Int32) < 0 ∨ Xbest_n ≤ (3 : Int32).toNatClampNeg then none else (if 0 ≤ q249.2.2 then (some (X_found, q249.2.1, q249.2.2, Xblocks_f, (upd (upd (upd (upd Xbest_f (0 : Int32).toNatClampNeg q242.1) (1 : Int32).toNatClampNeg q243.1) (2 : Int32).toNatClampNeg (q244.1 - (7 : Int32))) (3 : Int32).toNatClampNeg (q249.1 - (256 : Int32))))) else ((f_M_note x1 x2 x3 ((-1) : Int32) X_found Xblocks_n Xblocks_f Xbest_n (upd (upd (upd (upd Xbest_f (0 : Int32).toNatClampNeg q242.1) (1 : Int32).toNatClampNeg q243.1) (2 : Int32).toNatClampNeg (q244.1 - (7 : Int32))) (3 : Int32).toNatClampNeg (q249.1 - (256 : Int32)))).bind (fun q250 => some (q250.1, q249.2.1, q249.2.2, q250.2, (upd (upd (upd (upd Xbest_f (0 : Int32).toNatClampNeg q242.1) (1 : Int32).toNatClampNeg q243.1) (2 : Int32).toNatClampNeg (q244.1 - (7 : Int32))) (3 : Int32).toNatClampNeg (q249.1 - (256 : Int32)))))))))))))))) else (if (0 : Int32) < 0 ∨ Xbest_n ≤ (0 : Int32).toNatClampNeg then none else ((f_M_domains x3 X_side).bind (fun q251 => (f_M_domains x3 X_side).bind (fun q253 => if ((upd Xbest_f (0 : Int32).toNatClampNeg q242.1) (0 : Int32).toNatClampNeg) < (q251 * q253) then ((f_M_take (3 : Int32) X_fedMany q242.2.1 q242.2.2 Xfed_n Xfed_f).bind (fun q255 => if (1 : Int32) < 0 ∨ Xbest_n ≤ (1 : Int32).toNatClampNeg then none else ((f_M_take (4 : Int32) X_fedMany q255.2.1 q255.2.2 Xfed_n Xfed_f).bind (fun q256 => if (2 : Int32) < 0 ∨ Xbest_n ≤ (2 : Int32).toNatClampNeg then none else (if 0 ≤ q256.2.2 then ((f_M_take (10 : Int32) X_fedMany q256.2.1 q256.2.2 Xfed_n Xfed_f).bind (fun q257 => if (3 : Int32) < 0 ∨ Xbest_n ≤ (3 : Int32).toNatClampNeg then none else (if 0 ≤ q257.2.2 then (some (X_found, q257.2.1, q257.2.2, Xblocks_f, (upd (upd (upd (upd Xbest_f (0 : Int32).toNatClampNeg q242.1) (1 : Int32).toNatClampNeg q255.1) (2 : Int32).toNatClampNeg (q256.1 - (7 : Int32))) (3 : Int32).toNatClampNeg (q257.1 - (256 : Int32))))) else ((f_M_note x1 x2 x3 ((-1) : Int32) X_found Xblocks_n Xblocks_f Xbest_n (upd (upd (upd (upd Xbest_f (0 : Int32).toNatClampNeg q242.1) (1 : Int32).toNatClampNeg q255.1) (2 : Int32).toNatClampNeg (q256.1 - (7 : Int32))) (3 : Int32).toNatClampNeg (q257.1 - (256 : Int32)))).bind (fun q258 => some (q258.1, q257.2.1, q257.2.2, q258.2, (upd (upd (upd (upd Xbest_f (0 : Int32).toNatClampNeg q242.1) (1 : Int32).toNatClampNeg q255.1) (2 : Int32).toNatClampNeg (q256.1 - (7 : Int32))) (3 : Int32).toNatClampNeg (q257.1 - (256 : Int32))))))))) else (if (2 : Int32) < 0 ∨ Xbest_n ≤ (2 : Int32).toNatClampNeg then none else (if ((upd (upd (upd Xbest_f (0 : Int32).toNatClampNeg q242.1) (1 : Int32).toNatClampNeg q255.1) (2 : Int32).toNatClampNeg (q256.1 - (7 : Int32))) (2 : Int32).toNatClampNeg) ≤ (7 : Int32) then ((f_M_take (10 : Int32) X_fedMany q256.2.1 q256.2.2 Xfed_n Xfed_f).bind (fun q259 => if (3 : Int32) < 0 ∨ Xbest_n ≤ (3 : Int32).toNatClampNeg then none else (if 0 ≤ q259.2.2 then (some (X_found, q259.2.1, q259.2.2, Xblocks_f, (upd (upd (upd (upd Xbest_f (0 : Int32).toNatClampNeg q242.1) (1 : Int32).toNatClampNeg q255.1) (2 : Int32).toNatClampNeg (q256.1 - (7 : Int32))) (3 : Int32).toNatClampNeg (q259.1 - (256 : Int32))))) else ((f_M_note x1 x2 x3 ((-1) : Int32) X_found Xblocks_n Xblocks_f Xbest_n (upd (upd (upd (upd Xbest_f (0 : Int32).toNatClampNeg q242.1) (1 : Int32).toNatClampNeg q255.1) (2 : Int32).toNatClampNeg (q256.1 - (7 : Int32))) (3 : Int32).toNatClampNeg (q259.1 - (256 : Int32)))).bind (fun q260 => some (q260.1, q259.2.1, q259.2.2, q260.2, (upd (upd (upd (upd Xbest_f (0 : Int32).toNatClampNeg q242.1) (1 : Int32).toNatClampNeg q255.1) (2 : Int32).toNatClampNeg (q256.1 - (7 : Int32))) (3 : Int32).toNatClampNeg (q259.1 - (256 : Int32))))))))) else ((f_M_take (10 : Int32) X_fedMany q256.2.1 (2 : Int32) Xfed_n Xfed_f).bind (fun q261 => if (3 : Int32) < 0 ∨ Xbest_n ≤ (3 : Int32).toNatClampNeg then none else (if 0 ≤ q261.2.2 then (some (X_found, q261.2.1, q261.2.2, Xblocks_f, (upd (upd (upd (upd Xbest_f (0 : Int32).toNatClampNeg q242.1) (1 : Int32).toNatClampNeg q255.1) (2 : Int32).toNatClampNeg (q256.1 - (7 : Int32))) (3 : Int32).toNatClampNeg (q261.1 - (256 : Int32))))) else ((f_M_note x1 x2 x3 ((-1) : Int32) X_found Xblocks_n Xblocks_f Xbest_n (upd (upd (upd (upd Xbest_f (0 : Int32).toNatClampNeg q242.1) (1 : Int32).toNatClampNeg q255.1) (2 : Int32).toNatClampNeg (q256.1 - (7 : Int32))) (3 : Int32).toNatClampNeg (q261.1 - (256 : Int32)))).bind (fun q262 => some (q262.1, q261.2.1, q261.2.2, q262.2, (upd (upd (upd (upd Xbest_f (0 : Int32).toNatClampNeg q242.1) (1 : Int32).toNatClampNeg q255.1) (2 : Int32).toNatClampNeg (q256.1 - (7 : Int32))) (3 : Int32).toNatClampNeg (q261.1 - (256 : Int32)))))))))))))))) else ((f_M_take (3 : Int32) X_fedMany q242.2.1 (1 : Int32) Xfed_n Xfed_f).bind (fun q263 => if (1 : Int32) < 0 ∨ Xbest_n ≤ (1 : Int32).toNatClampNeg then none else ((f_M_take (4 : Int32) X_fedMany q263.2.1 q263.2.2 Xfed_n Xfed_f).bind (fun q264 => if (2 : Int32) < 0 ∨ Xbest_n ≤ (2 : Int32).toNatClampNeg then none else (if 0 ≤ q264.2.2 then ((f_M_take (10 : Int32) X_fedMany q264.2.1 q264.2.2 Xfed_n Xfed_f).bind (fun q265 => if (3 : Int32) < 0 ∨ Xbest_n ≤ (3 : Int32).toNatClampNeg then none else (if 0 ≤ q265.2.2 then (some (X_found, q265.2.1, q265.2.2, Xblocks_f, (upd (upd (upd (upd Xbest_f (0 : Int32).toNatClampNeg q242.1) (1 : Int32).toNatClampNeg q263.1) (2 : Int32).toNatClampNeg (q264.1 - (7 : Int32))) (3 : Int32).toNatClampNeg (q265.1 - (256 : Int32))))) else ((f_M_note x1 x2 x3 ((-1) : Int32) X_found Xblocks_n Xblocks_f Xbest_n (upd (upd (upd (upd Xbest_f (0 : Int32).toNatClampNeg q242.1) (1 : Int32).toNatClampNeg q263.1) (2 : Int32).toNatClampNeg (q264.1 - (7 : Int32))) (3 : Int32).toNatClampNeg (q265.1 - (256 : Int32)))).bind (fun q266 => some (q266.1, q265.2.1, q265.2.2, q266.2, (upd (upd (upd (upd Xbest_f (0 : Int32).toNatClampNeg q242.1) (1 : Int32).toNatClampNeg q263.1) (2 : Int32).toNatClampNeg (q264.1 - (7 : Int32))) (3 : Int32).toNatClampNeg (q265.1 - (256 : Int32))))))))) else (if (2 : Int32) < 0 ∨ Xbest_n ≤ (2 : Int32).toNatClampNeg then none else (if ((upd (upd (upd Xbest_f (0 : Int32).toNatClampNeg q242.1) (1 : Int32).toNatClampNeg q263.1) (2 : Int32).toNatClampNeg (q264.1 - (7 : Int32))) (2 : Int32).toNatClampNeg) ≤ (7 : Int32) then ((f_M_take (10 : Int32) X_fedMany q264.2.1 q264.2.2 Xfed_n Xfed_f).bind (fun q267 => if (3 : Int32) < 0 ∨ Xbest_n ≤ (3 : Int32).toNatClampNeg then none else (if 0 ≤ q267.2.2 then (some (X_found, q267.2.1, q267.2.2, Xblocks_f, (upd (upd (upd (upd Xbest_f (0 : Int32).toNatClampNeg q242.1) (1 : Int32).toNatClampNeg q263.1) (2 : Int32).toNatClampNeg (q264.1 - (7 : Int32))) (3 : Int32).toNatClampNeg (q267.1 - (256 : Int32))))) else ((f_M_note x1 x2 x3 ((-1) : Int32) X_found Xblocks_n Xblocks_f Xbest_n (upd (upd (upd (upd Xbest_f (0 : Int32).toNatClampNeg q242.1) (1 : Int32).toNatClampNeg q263.1) (2 : Int32).toNatClampNeg (q264.1 - (7 : Int32))) (3 : Int32).toNatClampNeg (q267.1 - (256 : Int32)))).bind (fun q268 => some (q268.1, q267.2.1, q267.2.2, q268.2, (upd (upd (upd (upd Xbest_f (0 : Int32).toNatClampNeg q242.1) (1 : Int32).toNatClampNeg q263.1) (2 : Int32).toNatClampNeg (q264.1 - (7 : Int32))) (3 : Int32).toNatClampNeg (q267.1 - (256 : Int32))))))))) else ((f_M_take (10 : Int32) X_fedMany q264.2.1 (2 : Int32) Xfed_n Xfed_f).bind (fun q269 => if (3 : Int32) < 0 ∨ Xbest_n ≤ (3 : Int32).toNatClampNeg then none else (if 0 ≤ q269.2.2 then (some (X_found, q269.2.1, q269.2.2, Xblocks_f, (upd (upd (upd (upd Xbest_f (0 : Int32).toNatClampNeg q242.1) (1 : Int32).toNatClampNeg q263.1) (2 : Int32).toNatClampNeg (q264.1 - (7 : Int32))) (3 : Int32).toNatClampNeg (q269.1 - (256 : Int32))))) else ((f_M_note x1 x2 x3 ((-1) : Int32) X_found Xblocks_n Xblocks_f Xbest_n (upd (upd (upd (upd Xbest_f (0 : Int32).toNatClampNeg q242.1) (1 : Int32).toNatClampNeg q263.1) (2 : Int32).toNatClampNeg (q264.1 - (7 : Int32))) (3 : Int32).toNatClampNeg (q269.1 - (256 : Int32)))).bind (fun q270 => some (q270.1, q269.2.1, q269.2.2, q270.2, (upd (upd (upd (upd Xbest_f (0 : Int32).toNatClampNeg q242.1) (1 : Int32).toNatClampNeg q263.1) (2 : Int32).toNatClampNeg (q264.1 - (7 : Int32))) (3 : Int32).toNatClampNeg (q269.1 - (256 : Int32)))))))))))))))))))))))
set_option maxHeartbeats 4000000 in
set_option maxRecDepth 100000 in
theorem c_M_readBlock (l : Launch) (dC : Nat → ClassId) (dI : Nat → Nat → Nat) (cI cL : ClassId) {ws0 : va_W} (sz : Nat) {aX aXpicture aXhalf aXblocks aXencoded aXfed aXpile aXnews aXolds aXhalves aXds aXrs aXbest : Nat} {X_code X_side X_many X_found X_encodedBits X_fedMany X_readAt X_why X_tried X_waiting X_decoded : Int32} {X_bestError : Int64} {Xblocks_n Xfed_n Xbest_n : Nat} {Xblocks_f Xfed_f Xbest_f : Nat → Int32} (x1 : Int32) (x2 : Int32) (x3 : Int32) (hN_X : ws0[21]? = some (aX, .inr (7, [.int X_code, .int X_side, .ref aXpicture, .ref aXhalf, .int X_many, .ref aXblocks, .int X_found, .int X_encodedBits, .ref aXencoded, .int X_fedMany, .ref aXfed, .int X_readAt, .int X_why, .int X_tried, .int X_waiting, .ref aXpile, .int X_decoded, .ref aXnews, .ref aXolds, .ref aXhalves, .ref aXds, .ref aXrs, .ref aXbest, .long X_bestError]))) (hN_Xblocks : ws0[24]? = some (aXblocks, .inl (cI, Xblocks_n, .inl Xblocks_f))) (hN_Xfed : ws0[26]? = some (aXfed, .inl (cI, Xfed_n, .inl Xfed_f))) (hN_Xbest : ws0[33]? = some (aXbest, .inl (cI, Xbest_n, .inl Xbest_f))) (r : Int32 × Int32 × Int32 × (Nat → Int32) × (Nat → Int32)) (hf : f_M_readBlock x1 x2 x3 X_side X_found X_fedMany X_readAt X_why Xblocks_n Xblocks_f Xfed_n Xfed_f Xbest_n Xbest_f = some r) : Met l y_M_readBlock w_M_readBlock rm_M_readBlock (va_Pc [.ref aX, .int x1, .int x2, .int x3] (zM dC dI cI cL ws0 sz)) (va_Qv (fun ws' : va_W => ws'[21]? = some (aX, .inr (7, [.int X_code, .int X_side, .ref aXpicture, .ref aXhalf, .int X_many, .ref aXblocks, .int r.1, .int X_encodedBits, .ref aXencoded, .int X_fedMany, .ref aXfed, .int r.2.1, .int r.2.2.1, .int X_tried, .int X_waiting, .ref aXpile, .int X_decoded, .ref aXnews, .ref aXolds, .ref aXhalves, .ref aXds, .ref aXrs, .ref aXbest, .long X_bestError])) ∧ ws'[24]? = some (aXblocks, .inl (cI, Xblocks_n, .inl r.2.2.2.1)) ∧ ws'[33]? = some (aXbest, .inl (cI, Xbest_n, .inl r.2.2.2.2)) ∧ ∀ j, j ∉ [21, 24, 33] → ws'[j]? = ws0[j]?) (zQ dC dI cI cL (va_A ws0 sz)) (va_A ws0 sz)) 0 0 (va_A ws0 sz) := by
  refine Met.ofW (cc := b_M_readBlock) (maxL := 4) (ret := none) (by decide) rfl ?_
  intro p e s m args below meth c s₁ B hml hv
  obtain ⟨rfl, hsz, hP, hK, hZ, hD0⟩ := hv
  have hx := B.exec
  have hb := B.bytes
  have hr := B.returns
  have hlocks := B.notSynchronized
  have hts : ∀ w ∈ BIG, w.before ([.ref aX, .int x1, .int x2, .int x3] : List Value).toArray s = true := fun w h => atoms_spec (ws := w_M_readBlock) B.pre w (List.mem_cons_of_mem _ h)
  have hown : s.vm.findClass "FractalMapsModel" = some m.cls := findClass_of_methodNamed B.named
  subst hsz
  have hD := hD0.self (sz := s.heap.size)
  generalize hAe : va_A ws0 s.heap.size = A at hD ⊢
  have hA : ∀ q : Nat, s.heap.size ≤ q → A q := fun q h => by rw [← hAe]; exact Or.inr h
  have hS : va_S A s.heap s.heap [] := va_S.rf
  have hw : ∀ j, j ∉ [21, 24, 33] → ws0[j]? = ws0[j]? := fun _ _ => rfl
  have hl := lv_entry ([.ref aX, .int x1, .int x2, .int x3]) (n := 4) (Nat.le_of_ble_eq_true rfl)
  rw [lg_entry_eq]
  generalize (lg_sl ([.ref aX, .int x1, .int x2, .int x3]) ++ List.replicate (4 - (lg_sl ([.ref aX, .int x1, .int x2, .int x3])).length) Slot.unset).toArray = ls at hl ⊢
  have hl : lv_has ls 4 [(0, .ref aX), (1, .int x1), (2, .int x2), (3, .int x3)] := hl
  unfold f_M_readBlock at hf
  refine lv_aload_n hx hb d_M_readBlock_0 rfl (lv_at hl 0 rfl) ?_
  refine gf_M_43 (v := .ref aXbest) hx hb hts hown hK hP hN_X rfl d_M_readBlock_1 ?_
  refine lv_iconst (v := 0) hx hb d_M_readBlock_4 (by decide) ?_
  refine lv_aload_n hx hb d_M_readBlock_5 rfl (lv_at hl 0 rfl) ?_
  refine lv_aload_n hx hb d_M_readBlock_6 rfl (lv_at hl 0 rfl) ?_
  refine lv_iload_n hx hb d_M_readBlock_7 rfl (lv_at hl 3 rfl) ?_
  obtain ⟨q240, hc, hf⟩ := z_b hf
  refine vp_callSi (z_cr (va_runV (As := [.int x3]) (rest := [.ref aX, .int (0 : Int32), .ref aXbest]) ⟨hx, hb, hml, hown, hts⟩ (c_M_bitsFor l dC dI cI cL x3 hN_X q240 hc) (cw_M_151 hts ⟨Nat.le_of_ble_eq_true rfl, Nat.le_of_ble_eq_true rfl⟩) ⟨zbR, va_recv hK hP (ci := 7) rfl hN_X, (zpR hP hK hZ)⟩ rfl rfl hl.1 rfl (lv_room (Nat.le_of_ble_eq_true rfl)) d_M_readBlock_8 ⟨Nat.zero_le _, Nat.zero_le _⟩)) (fun r241 hv => ?_)
  have hv := hv.symm
  subst hv
  obtain ⟨q242, hc, hf⟩ := z_b hf
  have hFc := z_free hD hS hA
  refine va_calli (va_runV (As := [.int q240]) (rest := [.int (0 : Int32), .ref aXbest]) ⟨hx, hb, hml, hown, hts⟩ (c_M_take l dC dI cI cL _ q240 hN_X hN_Xfed q242 hc) (cw_M_175 hts ⟨Nat.le_of_ble_eq_true rfl, Nat.le_of_ble_eq_true rfl⟩) ⟨zbM, va_recv hK hP (ci := 7) rfl hN_X, (zpM hP hK hZ hD)⟩ rfl rfl hl.1 rfl (lv_room (Nat.le_of_ble_eq_true rfl)) d_M_readBlock_11 ⟨Nat.zero_le _, Nat.zero_le _⟩) hS (fun q _ h => hFc q h) hFc (fun rv ws t H locs ht hvm hu hB hz1 hk1 hS => ?_)
  obtain ⟨hv, hN_X, hfr⟩ := hu
  subst hv
  obtain ⟨hP, -, hD1⟩ := hB
  rw [ht] at hP
  have hD := hD1.weaken (fun _ _ _ h => hFc _ h)
  have hN_X : ws[21]? = some (aX, .inr (7, [.int X_code, .int X_side, .ref aXpicture, .ref aXhalf, .int X_many, .ref aXblocks, .int X_found, .int X_encodedBits, .ref aXencoded, .int X_fedMany, .ref aXfed, .int q242.2.1, .int q242.2.2, .int X_tried, .int X_waiting, .ref aXpile, .int X_decoded, .ref aXnews, .ref aXolds, .ref aXhalves, .ref aXds, .ref aXrs, .ref aXbest, .long X_bestError])) := hN_X
  have hN_Xblocks := (hfr _ (by decide)).trans hN_Xblocks
  have hN_Xfed := (hfr _ (by decide)).trans hN_Xfed
  have hN_Xbest := (hfr _ (by decide)).trans hN_Xbest
  have hw := z_frC (by decide) hw hfr
  obtain ⟨hin, hf⟩ := z_no hf
  refine z_iast hx hb hK hP hD hS hN_Xbest rfl hin d_M_readBlock_14 (fun ws H locs hP hD hS hN_Xbest hfr => ?_)
  have hN_Xbest : ws[33]? = some (aXbest, .inl (cI, Xbest_n, .inl (upd Xbest_f (0 : Int32).toNatClampNeg q242.1))) := hN_Xbest
  have hN_X := (hfr _ (by decide)).trans hN_X
  have hN_Xblocks := (hfr _ (by decide)).trans hN_Xblocks
  have hN_Xfed := (hfr _ (by decide)).trans hN_Xfed
  have hw := z_fr (by decide) hw hfr
  refine lv_aload_n hx hb d_M_readBlock_15 rfl (lv_at hl 0 rfl) ?_
  refine lv_aload_n hx hb d_M_readBlock_16 rfl (lv_at hl 0 rfl) ?_
  refine gf_M_166 (v := .int q242.2.2) hx hb hts hown hK hP hN_X rfl d_M_readBlock_17 ?_
  refine lv_if_ge (tgt := 47) hx hb d_M_readBlock_20 (by decide) (fun hc => ?_) (fun hc => ?_)
  · have hf := z_t hc hf
    refine lv_aload_n hx hb d_M_readBlock_47 rfl (lv_at hl 0 rfl) ?_
    refine gf_M_166 (v := .int q242.2.2) hx hb hts hown hK hP hN_X rfl d_M_readBlock_48 ?_
    refine pf_M_166 (v := .int q242.2.2) hx hb hts hown hK hP hD hS hN_X rfl rfl (Nat.le_of_ble_eq_true rfl) d_M_readBlock_51 (fun ws H locs hP hD hS hN_X hfr => ?_)
    have hN_X : ws[21]? = some (aX, .inr (7, [.int X_code, .int X_side, .ref aXpicture, .ref aXhalf, .int X_many, .ref aXblocks, .int X_found, .int X_encodedBits, .ref aXencoded, .int X_fedMany, .ref aXfed, .int q242.2.1, .int q242.2.2, .int X_tried, .int X_waiting, .ref aXpile, .int X_decoded, .ref aXnews, .ref aXolds, .ref aXhalves, .ref aXds, .ref aXrs, .ref aXbest, .long X_bestError])) := hN_X
    have hN_Xblocks := (hfr _ (by decide)).trans hN_Xblocks
    have hN_Xfed := (hfr _ (by decide)).trans hN_Xfed
    have hN_Xbest := (hfr _ (by decide)).trans hN_Xbest
    have hw := z_fr (by decide) hw hfr
    refine lv_aload_n hx hb d_M_readBlock_54 rfl (lv_at hl 0 rfl) ?_
    refine gf_M_43 (v := .ref aXbest) hx hb hts hown hK hP hN_X rfl d_M_readBlock_55 ?_
    refine lv_iconst (v := 1) hx hb d_M_readBlock_58 (by decide) ?_
    refine lv_aload_n hx hb d_M_readBlock_59 rfl (lv_at hl 0 rfl) ?_
    refine lv_iconst (v := 3) hx hb d_M_readBlock_60 (by decide) ?_
    obtain ⟨q243, hc, hf⟩ := z_b hf
    have hFc := z_free hD hS hA
    refine va_calli (va_runV (As := [.int (3 : Int32)]) (rest := [.int (1 : Int32), .ref aXbest]) ⟨hx, hb, hml, hown, hts⟩ (c_M_take l dC dI cI cL _ (3 : Int32) hN_X hN_Xfed q243 hc) (cw_M_175 hts ⟨Nat.le_of_ble_eq_true rfl, Nat.le_of_ble_eq_true rfl⟩) ⟨zbM, va_recv hK hP (ci := 7) rfl hN_X, (zpM hP hK hZ hD)⟩ rfl rfl hl.1 rfl (lv_room (Nat.le_of_ble_eq_true rfl)) d_M_readBlock_61 ⟨Nat.zero_le _, Nat.zero_le _⟩) hS (fun q _ h => hFc q h) hFc (fun rv ws t H locs ht hvm hu hB hz1 hk1 hS => ?_)
    obtain ⟨hv, hN_X, hfr⟩ := hu
    subst hv
    obtain ⟨hP, -, hD1⟩ := hB
    rw [ht] at hP
    have hD := hD1.weaken (fun _ _ _ h => hFc _ h)
    have hN_X : ws[21]? = some (aX, .inr (7, [.int X_code, .int X_side, .ref aXpicture, .ref aXhalf, .int X_many, .ref aXblocks, .int X_found, .int X_encodedBits, .ref aXencoded, .int X_fedMany, .ref aXfed, .int q243.2.1, .int q243.2.2, .int X_tried, .int X_waiting, .ref aXpile, .int X_decoded, .ref aXnews, .ref aXolds, .ref aXhalves, .ref aXds, .ref aXrs, .ref aXbest, .long X_bestError])) := hN_X
    have hN_Xblocks := (hfr _ (by decide)).trans hN_Xblocks
    have hN_Xfed := (hfr _ (by decide)).trans hN_Xfed
    have hN_Xbest := (hfr _ (by decide)).trans hN_Xbest
    have hw := z_frC (by decide) hw hfr
    obtain ⟨hin, hf⟩ := z_no hf
    refine z_iast hx hb hK hP hD hS hN_Xbest rfl hin d_M_readBlock_64 (fun ws H locs hP hD hS hN_Xbest hfr => ?_)
    have hN_Xbest : ws[33]? = some (aXbest, .inl (cI, Xbest_n, .inl (upd (upd Xbest_f (0 : Int32).toNatClampNeg q242.1) (1 : Int32).toNatClampNeg q243.1))) := hN_Xbest
    have hN_X := (hfr _ (by decide)).trans hN_X
    have hN_Xblocks := (hfr _ (by decide)).trans hN_Xblocks
    have hN_Xfed := (hfr _ (by decide)).trans hN_Xfed
    have hw := z_fr (by decide) hw hfr
    refine lv_aload_n hx hb d_M_readBlock_65 rfl (lv_at hl 0 rfl) ?_
    refine gf_M_43 (v := .ref aXbest) hx hb hts hown hK hP hN_X rfl d_M_readBlock_66 ?_
    refine lv_iconst (v := 2) hx hb d_M_readBlock_69 (by decide) ?_
    refine lv_aload_n hx hb d_M_readBlock_70 rfl (lv_at hl 0 rfl) ?_
    refine lv_iconst (v := 4) hx hb d_M_readBlock_71 (by decide) ?_
    obtain ⟨q244, hc, hf⟩ := z_b hf
    have hFc := z_free hD hS hA
    refine va_calli (va_runV (As := [.int (4 : Int32)]) (rest := [.int (2 : Int32), .ref aXbest]) ⟨hx, hb, hml, hown, hts⟩ (c_M_take l dC dI cI cL _ (4 : Int32) hN_X hN_Xfed q244 hc) (cw_M_175 hts ⟨Nat.le_of_ble_eq_true rfl, Nat.le_of_ble_eq_true rfl⟩) ⟨zbM, va_recv hK hP (ci := 7) rfl hN_X, (zpM hP hK hZ hD)⟩ rfl rfl hl.1 rfl (lv_room (Nat.le_of_ble_eq_true rfl)) d_M_readBlock_72 ⟨Nat.zero_le _, Nat.zero_le _⟩) hS (fun q _ h => hFc q h) hFc (fun rv ws t H locs ht hvm hu hB hz1 hk1 hS => ?_)
    obtain ⟨hv, hN_X, hfr⟩ := hu
    subst hv
    obtain ⟨hP, -, hD1⟩ := hB
    rw [ht] at hP
    have hD := hD1.weaken (fun _ _ _ h => hFc _ h)
    have hN_X : ws[21]? = some (aX, .inr (7, [.int X_code, .int X_side, .ref aXpicture, .ref aXhalf, .int X_many, .ref aXblocks, .int X_found, .int X_encodedBits, .ref aXencoded, .int X_fedMany, .ref aXfed, .int q244.2.1, .int q244.2.2, .int X_tried, .int X_waiting, .ref aXpile, .int X_decoded, .ref aXnews, .ref aXolds, .ref aXhalves, .ref aXds, .ref aXrs, .ref aXbest, .long X_bestError])) := hN_X
    have hN_Xblocks := (hfr _ (by decide)).trans hN_Xblocks
    have hN_Xfed := (hfr _ (by decide)).trans hN_Xfed
    have hN_Xbest := (hfr _ (by decide)).trans hN_Xbest
    have hw := z_frC (by decide) hw hfr
    refine lv_bipush (v := 7) hx hb d_M_readBlock_75 (by decide) ?_
    refine lv_isub hx hb d_M_readBlock_77 ?_
    obtain ⟨hin, hf⟩ := z_no hf
    refine z_iast hx hb hK hP hD hS hN_Xbest rfl hin d_M_readBlock_78 (fun ws H locs hP hD hS hN_Xbest hfr => ?_)
    have hN_Xbest : ws[33]? = some (aXbest, .inl (cI, Xbest_n, .inl (upd (upd (upd Xbest_f (0 : Int32).toNatClampNeg q242.1) (1 : Int32).toNatClampNeg q243.1) (2 : Int32).toNatClampNeg (q244.1 - (7 : Int32))))) := hN_Xbest
    have hN_X := (hfr _ (by decide)).trans hN_X
    have hN_Xblocks := (hfr _ (by decide)).trans hN_Xblocks
    have hN_Xfed := (hfr _ (by decide)).trans hN_Xfed
    have hw := z_fr (by decide) hw hfr
    refine lv_aload_n hx hb d_M_readBlock_79 rfl (lv_at hl 0 rfl) ?_
    refine lv_aload_n hx hb d_M_readBlock_80 rfl (lv_at hl 0 rfl) ?_
    refine gf_M_166 (v := .int q244.2.2) hx hb hts hown hK hP hN_X rfl d_M_readBlock_81 ?_
    refine lv_if_ge (tgt := 102) hx hb d_M_readBlock_84 (by decide) (fun hc => ?_) (fun hc => ?_)
    · have hf := z_t hc hf
      refine lv_aload_n hx hb d_M_readBlock_102 rfl (lv_at hl 0 rfl) ?_
      refine gf_M_166 (v := .int q244.2.2) hx hb hts hown hK hP hN_X rfl d_M_readBlock_103 ?_
      refine pf_M_166 (v := .int q244.2.2) hx hb hts hown hK hP hD hS hN_X rfl rfl (Nat.le_of_ble_eq_true rfl) d_M_readBlock_106 (fun ws H locs hP hD hS hN_X hfr => ?_)
      have hN_X : ws[21]? = some (aX, .inr (7, [.int X_code, .int X_side, .ref aXpicture, .ref aXhalf, .int X_many, .ref aXblocks, .int X_found, .int X_encodedBits, .ref aXencoded, .int X_fedMany, .ref aXfed, .int q244.2.1, .int q244.2.2, .int X_tried, .int X_waiting, .ref aXpile, .int X_decoded, .ref aXnews, .ref aXolds, .ref aXhalves, .ref aXds, .ref aXrs, .ref aXbest, .long X_bestError])) := hN_X
      have hN_Xblocks := (hfr _ (by decide)).trans hN_Xblocks
      have hN_Xfed := (hfr _ (by decide)).trans hN_Xfed
      have hN_Xbest := (hfr _ (by decide)).trans hN_Xbest
      have hw := z_fr (by decide) hw hfr
      refine lv_aload_n hx hb d_M_readBlock_109 rfl (lv_at hl 0 rfl) ?_
      refine gf_M_43 (v := .ref aXbest) hx hb hts hown hK hP hN_X rfl d_M_readBlock_110 ?_
      refine lv_iconst (v := 3) hx hb d_M_readBlock_113 (by decide) ?_
      refine lv_aload_n hx hb d_M_readBlock_114 rfl (lv_at hl 0 rfl) ?_
      refine lv_bipush (v := 10) hx hb d_M_readBlock_115 (by decide) ?_
      obtain ⟨q245, hc, hf⟩ := z_b hf
      have hFc := z_free hD hS hA
      refine va_calli (va_runV (As := [.int (10 : Int32)]) (rest := [.int (3 : Int32), .ref aXbest]) ⟨hx, hb, hml, hown, hts⟩ (c_M_take l dC dI cI cL _ (10 : Int32) hN_X hN_Xfed q245 hc) (cw_M_175 hts ⟨Nat.le_of_ble_eq_true rfl, Nat.le_of_ble_eq_true rfl⟩) ⟨zbM, va_recv hK hP (ci := 7) rfl hN_X, (zpM hP hK hZ hD)⟩ rfl rfl hl.1 rfl (lv_room (Nat.le_of_ble_eq_true rfl)) d_M_readBlock_117 ⟨Nat.zero_le _, Nat.zero_le _⟩) hS (fun q _ h => hFc q h) hFc (fun rv ws t H locs ht hvm hu hB hz1 hk1 hS => ?_)
      obtain ⟨hv, hN_X, hfr⟩ := hu
      subst hv
      obtain ⟨hP, -, hD1⟩ := hB
      rw [ht] at hP
      have hD := hD1.weaken (fun _ _ _ h => hFc _ h)
      have hN_X : ws[21]? = some (aX, .inr (7, [.int X_code, .int X_side, .ref aXpicture, .ref aXhalf, .int X_many, .ref aXblocks, .int X_found, .int X_encodedBits, .ref aXencoded, .int X_fedMany, .ref aXfed, .int q245.2.1, .int q245.2.2, .int X_tried, .int X_waiting, .ref aXpile, .int X_decoded, .ref aXnews, .ref aXolds, .ref aXhalves, .ref aXds, .ref aXrs, .ref aXbest, .long X_bestError])) := hN_X
      have hN_Xblocks := (hfr _ (by decide)).trans hN_Xblocks
      have hN_Xfed := (hfr _ (by decide)).trans hN_Xfed
      have hN_Xbest := (hfr _ (by decide)).trans hN_Xbest
      have hw := z_frC (by decide) hw hfr
      refine lv_sipush (v := 256) hx hb d_M_readBlock_120 (by decide) ?_
      refine lv_isub hx hb d_M_readBlock_123 ?_
      obtain ⟨hin, hf⟩ := z_no hf
      refine z_iast hx hb hK hP hD hS hN_Xbest rfl hin d_M_readBlock_124 (fun ws H locs hP hD hS hN_Xbest hfr => ?_)
      have hN_Xbest : ws[33]? = some (aXbest, .inl (cI, Xbest_n, .inl (upd (upd (upd (upd Xbest_f (0 : Int32).toNatClampNeg q242.1) (1 : Int32).toNatClampNeg q243.1) (2 : Int32).toNatClampNeg (q244.1 - (7 : Int32))) (3 : Int32).toNatClampNeg (q245.1 - (256 : Int32))))) := hN_Xbest
      have hN_X := (hfr _ (by decide)).trans hN_X
      have hN_Xblocks := (hfr _ (by decide)).trans hN_Xblocks
      have hN_Xfed := (hfr _ (by decide)).trans hN_Xfed
      have hw := z_fr (by decide) hw hfr
      refine lv_aload_n hx hb d_M_readBlock_125 rfl (lv_at hl 0 rfl) ?_
      refine gf_M_166 (v := .int q245.2.2) hx hb hts hown hK hP hN_X rfl d_M_readBlock_126 ?_
      refine lv_if_ge (tgt := 140) hx hb d_M_readBlock_129 (by decide) (fun hc => ?_) (fun hc => ?_)
      · have hf := z_t hc hf
        obtain rfl := Option.some.inj hf
        exact W.vret hx hb hr (fun t ht hW => ⟨⟨ws, rfl, ⟨hN_X, hN_Xblocks, hN_Xbest, hw⟩, by rw [ht]; exact hP, va_K.moved hW.alike hK, hD⟩, hS.F ht⟩) hS.2.2 d_M_readBlock_140
      · have hf := z_f hc hf
        refine lv_aload_n hx hb d_M_readBlock_132 rfl (lv_at hl 0 rfl) ?_
        refine lv_iload_n hx hb d_M_readBlock_133 rfl (lv_at hl 1 rfl) ?_
        refine lv_iload_n hx hb d_M_readBlock_134 rfl (lv_at hl 2 rfl) ?_
        refine lv_iload_n hx hb d_M_readBlock_135 rfl (lv_at hl 3 rfl) ?_
        refine lv_iconst (v := (-1)) hx hb d_M_readBlock_136 (by decide) ?_
        obtain ⟨q246, hc, hf⟩ := z_b hf
        have hFc := z_free hD hS hA
        refine va_callv (va_runV (As := [.int x1, .int x2, .int x3, .int ((-1) : Int32)]) (rest := []) ⟨hx, hb, hml, hown, hts⟩ (c_M_note l dC dI cI cL _ x1 x2 x3 ((-1) : Int32) hN_X hN_Xblocks hN_Xbest q246 hc) (cw_M_147 hts ⟨Nat.le_of_ble_eq_true rfl, Nat.le_of_ble_eq_true rfl⟩) ⟨zbM, va_recv hK hP (ci := 7) rfl hN_X, (zpM hP hK hZ hD)⟩ rfl rfl hl.1 rfl (lv_room (Nat.le_of_ble_eq_true rfl)) d_M_readBlock_137 ⟨Nat.zero_le _, Nat.zero_le _⟩) hS (fun q _ h => hFc q h) hFc (fun ws t H locs ht hvm hu hB hz1 hk1 hS => ?_)
        obtain ⟨hN_X, hN_Xblocks, hfr⟩ := hu
        obtain ⟨hP, -, hD1⟩ := hB
        rw [ht] at hP
        have hD := hD1.weaken (fun _ _ _ h => hFc _ h)
        have hN_X : ws[21]? = some (aX, .inr (7, [.int X_code, .int X_side, .ref aXpicture, .ref aXhalf, .int X_many, .ref aXblocks, .int q246.1, .int X_encodedBits, .ref aXencoded, .int X_fedMany, .ref aXfed, .int q245.2.1, .int q245.2.2, .int X_tried, .int X_waiting, .ref aXpile, .int X_decoded, .ref aXnews, .ref aXolds, .ref aXhalves, .ref aXds, .ref aXrs, .ref aXbest, .long X_bestError])) := hN_X
        have hN_Xblocks : ws[24]? = some (aXblocks, .inl (cI, Xblocks_n, .inl q246.2)) := hN_Xblocks
        have hN_Xfed := (hfr _ (by decide)).trans hN_Xfed
        have hN_Xbest := (hfr _ (by decide)).trans hN_Xbest
        have hw := z_frC (by decide) hw hfr
        obtain rfl := Option.some.inj hf
        exact W.vret hx hb hr (fun t ht hW => ⟨⟨ws, rfl, ⟨hN_X, hN_Xblocks, hN_Xbest, hw⟩, by rw [ht]; exact hP, va_K.moved hW.alike hK, hD⟩, hS.F ht⟩) hS.2.2 d_M_readBlock_140
    · have hf := z_f hc hf
      refine lv_aload_n hx hb d_M_readBlock_87 rfl (lv_at hl 0 rfl) ?_
      refine gf_M_43 (v := .ref aXbest) hx hb hts hown hK hP hN_X rfl d_M_readBlock_88 ?_
      refine lv_iconst (v := 2) hx hb d_M_readBlock_91 (by decide) ?_
      obtain ⟨hin, hf⟩ := z_no hf
      refine va_iald hx hb hK hP _ 0 hN_Xbest rfl hin d_M_readBlock_92 ?_
      refine lv_bipush (v := 7) hx hb d_M_readBlock_93 (by decide) ?_
      refine lv_icmp_le (tgt := 102) hx hb d_M_readBlock_95 (by decide) (fun hc => ?_) (fun hc => ?_)
      · have hf := z_t hc hf
        refine lv_aload_n hx hb d_M_readBlock_102 rfl (lv_at hl 0 rfl) ?_
        refine gf_M_166 (v := .int q244.2.2) hx hb hts hown hK hP hN_X rfl d_M_readBlock_103 ?_
        refine pf_M_166 (v := .int q244.2.2) hx hb hts hown hK hP hD hS hN_X rfl rfl (Nat.le_of_ble_eq_true rfl) d_M_readBlock_106 (fun ws H locs hP hD hS hN_X hfr => ?_)
        have hN_X : ws[21]? = some (aX, .inr (7, [.int X_code, .int X_side, .ref aXpicture, .ref aXhalf, .int X_many, .ref aXblocks, .int X_found, .int X_encodedBits, .ref aXencoded, .int X_fedMany, .ref aXfed, .int q244.2.1, .int q244.2.2, .int X_tried, .int X_waiting, .ref aXpile, .int X_decoded, .ref aXnews, .ref aXolds, .ref aXhalves, .ref aXds, .ref aXrs, .ref aXbest, .long X_bestError])) := hN_X
        have hN_Xblocks := (hfr _ (by decide)).trans hN_Xblocks
        have hN_Xfed := (hfr _ (by decide)).trans hN_Xfed
        have hN_Xbest := (hfr _ (by decide)).trans hN_Xbest
        have hw := z_fr (by decide) hw hfr
        refine lv_aload_n hx hb d_M_readBlock_109 rfl (lv_at hl 0 rfl) ?_
        refine gf_M_43 (v := .ref aXbest) hx hb hts hown hK hP hN_X rfl d_M_readBlock_110 ?_
        refine lv_iconst (v := 3) hx hb d_M_readBlock_113 (by decide) ?_
        refine lv_aload_n hx hb d_M_readBlock_114 rfl (lv_at hl 0 rfl) ?_
        refine lv_bipush (v := 10) hx hb d_M_readBlock_115 (by decide) ?_
        obtain ⟨q247, hc, hf⟩ := z_b hf
        have hFc := z_free hD hS hA
        refine va_calli (va_runV (As := [.int (10 : Int32)]) (rest := [.int (3 : Int32), .ref aXbest]) ⟨hx, hb, hml, hown, hts⟩ (c_M_take l dC dI cI cL _ (10 : Int32) hN_X hN_Xfed q247 hc) (cw_M_175 hts ⟨Nat.le_of_ble_eq_true rfl, Nat.le_of_ble_eq_true rfl⟩) ⟨zbM, va_recv hK hP (ci := 7) rfl hN_X, (zpM hP hK hZ hD)⟩ rfl rfl hl.1 rfl (lv_room (Nat.le_of_ble_eq_true rfl)) d_M_readBlock_117 ⟨Nat.zero_le _, Nat.zero_le _⟩) hS (fun q _ h => hFc q h) hFc (fun rv ws t H locs ht hvm hu hB hz1 hk1 hS => ?_)
        obtain ⟨hv, hN_X, hfr⟩ := hu
        subst hv
        obtain ⟨hP, -, hD1⟩ := hB
        rw [ht] at hP
        have hD := hD1.weaken (fun _ _ _ h => hFc _ h)
        have hN_X : ws[21]? = some (aX, .inr (7, [.int X_code, .int X_side, .ref aXpicture, .ref aXhalf, .int X_many, .ref aXblocks, .int X_found, .int X_encodedBits, .ref aXencoded, .int X_fedMany, .ref aXfed, .int q247.2.1, .int q247.2.2, .int X_tried, .int X_waiting, .ref aXpile, .int X_decoded, .ref aXnews, .ref aXolds, .ref aXhalves, .ref aXds, .ref aXrs, .ref aXbest, .long X_bestError])) := hN_X
        have hN_Xblocks := (hfr _ (by decide)).trans hN_Xblocks
        have hN_Xfed := (hfr _ (by decide)).trans hN_Xfed
        have hN_Xbest := (hfr _ (by decide)).trans hN_Xbest
        have hw := z_frC (by decide) hw hfr
        refine lv_sipush (v := 256) hx hb d_M_readBlock_120 (by decide) ?_
        refine lv_isub hx hb d_M_readBlock_123 ?_
        obtain ⟨hin, hf⟩ := z_no hf
        refine z_iast hx hb hK hP hD hS hN_Xbest rfl hin d_M_readBlock_124 (fun ws H locs hP hD hS hN_Xbest hfr => ?_)
        have hN_Xbest : ws[33]? = some (aXbest, .inl (cI, Xbest_n, .inl (upd (upd (upd (upd Xbest_f (0 : Int32).toNatClampNeg q242.1) (1 : Int32).toNatClampNeg q243.1) (2 : Int32).toNatClampNeg (q244.1 - (7 : Int32))) (3 : Int32).toNatClampNeg (q247.1 - (256 : Int32))))) := hN_Xbest
        have hN_X := (hfr _ (by decide)).trans hN_X
        have hN_Xblocks := (hfr _ (by decide)).trans hN_Xblocks
        have hN_Xfed := (hfr _ (by decide)).trans hN_Xfed
        have hw := z_fr (by decide) hw hfr
        refine lv_aload_n hx hb d_M_readBlock_125 rfl (lv_at hl 0 rfl) ?_
        refine gf_M_166 (v := .int q247.2.2) hx hb hts hown hK hP hN_X rfl d_M_readBlock_126 ?_
        refine lv_if_ge (tgt := 140) hx hb d_M_readBlock_129 (by decide) (fun hc => ?_) (fun hc => ?_)
        · have hf := z_t hc hf
          obtain rfl := Option.some.inj hf
          exact W.vret hx hb hr (fun t ht hW => ⟨⟨ws, rfl, ⟨hN_X, hN_Xblocks, hN_Xbest, hw⟩, by rw [ht]; exact hP, va_K.moved hW.alike hK, hD⟩, hS.F ht⟩) hS.2.2 d_M_readBlock_140
        · have hf := z_f hc hf
          refine lv_aload_n hx hb d_M_readBlock_132 rfl (lv_at hl 0 rfl) ?_
          refine lv_iload_n hx hb d_M_readBlock_133 rfl (lv_at hl 1 rfl) ?_
          refine lv_iload_n hx hb d_M_readBlock_134 rfl (lv_at hl 2 rfl) ?_
          refine lv_iload_n hx hb d_M_readBlock_135 rfl (lv_at hl 3 rfl) ?_
          refine lv_iconst (v := (-1)) hx hb d_M_readBlock_136 (by decide) ?_
          obtain ⟨q248, hc, hf⟩ := z_b hf
          have hFc := z_free hD hS hA
          refine va_callv (va_runV (As := [.int x1, .int x2, .int x3, .int ((-1) : Int32)]) (rest := []) ⟨hx, hb, hml, hown, hts⟩ (c_M_note l dC dI cI cL _ x1 x2 x3 ((-1) : Int32) hN_X hN_Xblocks hN_Xbest q248 hc) (cw_M_147 hts ⟨Nat.le_of_ble_eq_true rfl, Nat.le_of_ble_eq_true rfl⟩) ⟨zbM, va_recv hK hP (ci := 7) rfl hN_X, (zpM hP hK hZ hD)⟩ rfl rfl hl.1 rfl (lv_room (Nat.le_of_ble_eq_true rfl)) d_M_readBlock_137 ⟨Nat.zero_le _, Nat.zero_le _⟩) hS (fun q _ h => hFc q h) hFc (fun ws t H locs ht hvm hu hB hz1 hk1 hS => ?_)
          obtain ⟨hN_X, hN_Xblocks, hfr⟩ := hu
          obtain ⟨hP, -, hD1⟩ := hB
          rw [ht] at hP
          have hD := hD1.weaken (fun _ _ _ h => hFc _ h)
          have hN_X : ws[21]? = some (aX, .inr (7, [.int X_code, .int X_side, .ref aXpicture, .ref aXhalf, .int X_many, .ref aXblocks, .int q248.1, .int X_encodedBits, .ref aXencoded, .int X_fedMany, .ref aXfed, .int q247.2.1, .int q247.2.2, .int X_tried, .int X_waiting, .ref aXpile, .int X_decoded, .ref aXnews, .ref aXolds, .ref aXhalves, .ref aXds, .ref aXrs, .ref aXbest, .long X_bestError])) := hN_X
          have hN_Xblocks : ws[24]? = some (aXblocks, .inl (cI, Xblocks_n, .inl q248.2)) := hN_Xblocks
          have hN_Xfed := (hfr _ (by decide)).trans hN_Xfed
          have hN_Xbest := (hfr _ (by decide)).trans hN_Xbest
          have hw := z_frC (by decide) hw hfr
          obtain rfl := Option.some.inj hf
          exact W.vret hx hb hr (fun t ht hW => ⟨⟨ws, rfl, ⟨hN_X, hN_Xblocks, hN_Xbest, hw⟩, by rw [ht]; exact hP, va_K.moved hW.alike hK, hD⟩, hS.F ht⟩) hS.2.2 d_M_readBlock_140
      · have hf := z_f hc hf
        refine lv_iconst (v := 2) hx hb d_M_readBlock_98 (by decide) ?_
        refine lv_goto (tgt := 106) hx hb d_M_readBlock_99 (by decide) ?_
        refine pf_M_166 (v := .int (2 : Int32)) hx hb hts hown hK hP hD hS hN_X rfl rfl (Nat.le_of_ble_eq_true rfl) d_M_readBlock_106 (fun ws H locs hP hD hS hN_X hfr => ?_)
        have hN_X : ws[21]? = some (aX, .inr (7, [.int X_code, .int X_side, .ref aXpicture, .ref aXhalf, .int X_many, .ref aXblocks, .int X_found, .int X_encodedBits, .ref aXencoded, .int X_fedMany, .ref aXfed, .int q244.2.1, .int (2 : Int32), .int X_tried, .int X_waiting, .ref aXpile, .int X_decoded, .ref aXnews, .ref aXolds, .ref aXhalves, .ref aXds, .ref aXrs, .ref aXbest, .long X_bestError])) := hN_X
        have hN_Xblocks := (hfr _ (by decide)).trans hN_Xblocks
        have hN_Xfed := (hfr _ (by decide)).trans hN_Xfed
        have hN_Xbest := (hfr _ (by decide)).trans hN_Xbest
        have hw := z_fr (by decide) hw hfr
        refine lv_aload_n hx hb d_M_readBlock_109 rfl (lv_at hl 0 rfl) ?_
        refine gf_M_43 (v := .ref aXbest) hx hb hts hown hK hP hN_X rfl d_M_readBlock_110 ?_
        refine lv_iconst (v := 3) hx hb d_M_readBlock_113 (by decide) ?_
        refine lv_aload_n hx hb d_M_readBlock_114 rfl (lv_at hl 0 rfl) ?_
        refine lv_bipush (v := 10) hx hb d_M_readBlock_115 (by decide) ?_
        obtain ⟨q249, hc, hf⟩ := z_b hf
        have hFc := z_free hD hS hA
        refine va_calli (va_runV (As := [.int (10 : Int32)]) (rest := [.int (3 : Int32), .ref aXbest]) ⟨hx, hb, hml, hown, hts⟩ (c_M_take l dC dI cI cL _ (10 : Int32) hN_X hN_Xfed q249 hc) (cw_M_175 hts ⟨Nat.le_of_ble_eq_true rfl, Nat.le_of_ble_eq_true rfl⟩) ⟨zbM, va_recv hK hP (ci := 7) rfl hN_X, (zpM hP hK hZ hD)⟩ rfl rfl hl.1 rfl (lv_room (Nat.le_of_ble_eq_true rfl)) d_M_readBlock_117 ⟨Nat.zero_le _, Nat.zero_le _⟩) hS (fun q _ h => hFc q h) hFc (fun rv ws t H locs ht hvm hu hB hz1 hk1 hS => ?_)
        obtain ⟨hv, hN_X, hfr⟩ := hu
        subst hv
        obtain ⟨hP, -, hD1⟩ := hB
        rw [ht] at hP
        have hD := hD1.weaken (fun _ _ _ h => hFc _ h)
        have hN_X : ws[21]? = some (aX, .inr (7, [.int X_code, .int X_side, .ref aXpicture, .ref aXhalf, .int X_many, .ref aXblocks, .int X_found, .int X_encodedBits, .ref aXencoded, .int X_fedMany, .ref aXfed, .int q249.2.1, .int q249.2.2, .int X_tried, .int X_waiting, .ref aXpile, .int X_decoded, .ref aXnews, .ref aXolds, .ref aXhalves, .ref aXds, .ref aXrs, .ref aXbest, .long X_bestError])) := hN_X
        have hN_Xblocks := (hfr _ (by decide)).trans hN_Xblocks
        have hN_Xfed := (hfr _ (by decide)).trans hN_Xfed
        have hN_Xbest := (hfr _ (by decide)).trans hN_Xbest
        have hw := z_frC (by decide) hw hfr
        refine lv_sipush (v := 256) hx hb d_M_readBlock_120 (by decide) ?_
        refine lv_isub hx hb d_M_readBlock_123 ?_
        obtain ⟨hin, hf⟩ := z_no hf
        refine z_iast hx hb hK hP hD hS hN_Xbest rfl hin d_M_readBlock_124 (fun ws H locs hP hD hS hN_Xbest hfr => ?_)
        have hN_Xbest : ws[33]? = some (aXbest, .inl (cI, Xbest_n, .inl (upd (upd (upd (upd Xbest_f (0 : Int32).toNatClampNeg q242.1) (1 : Int32).toNatClampNeg q243.1) (2 : Int32).toNatClampNeg (q244.1 - (7 : Int32))) (3 : Int32).toNatClampNeg (q249.1 - (256 : Int32))))) := hN_Xbest
        have hN_X := (hfr _ (by decide)).trans hN_X
        have hN_Xblocks := (hfr _ (by decide)).trans hN_Xblocks
        have hN_Xfed := (hfr _ (by decide)).trans hN_Xfed
        have hw := z_fr (by decide) hw hfr
        refine lv_aload_n hx hb d_M_readBlock_125 rfl (lv_at hl 0 rfl) ?_
        refine gf_M_166 (v := .int q249.2.2) hx hb hts hown hK hP hN_X rfl d_M_readBlock_126 ?_
        refine lv_if_ge (tgt := 140) hx hb d_M_readBlock_129 (by decide) (fun hc => ?_) (fun hc => ?_)
        · have hf := z_t hc hf
          obtain rfl := Option.some.inj hf
          exact W.vret hx hb hr (fun t ht hW => ⟨⟨ws, rfl, ⟨hN_X, hN_Xblocks, hN_Xbest, hw⟩, by rw [ht]; exact hP, va_K.moved hW.alike hK, hD⟩, hS.F ht⟩) hS.2.2 d_M_readBlock_140
        · have hf := z_f hc hf
          refine lv_aload_n hx hb d_M_readBlock_132 rfl (lv_at hl 0 rfl) ?_
          refine lv_iload_n hx hb d_M_readBlock_133 rfl (lv_at hl 1 rfl) ?_
          refine lv_iload_n hx hb d_M_readBlock_134 rfl (lv_at hl 2 rfl) ?_
          refine lv_iload_n hx hb d_M_readBlock_135 rfl (lv_at hl 3 rfl) ?_
          refine lv_iconst (v := (-1)) hx hb d_M_readBlock_136 (by decide) ?_
          obtain ⟨q250, hc, hf⟩ := z_b hf
          have hFc := z_free hD hS hA
          refine va_callv (va_runV (As := [.int x1, .int x2, .int x3, .int ((-1) : Int32)]) (rest := []) ⟨hx, hb, hml, hown, hts⟩ (c_M_note l dC dI cI cL _ x1 x2 x3 ((-1) : Int32) hN_X hN_Xblocks hN_Xbest q250 hc) (cw_M_147 hts ⟨Nat.le_of_ble_eq_true rfl, Nat.le_of_ble_eq_true rfl⟩) ⟨zbM, va_recv hK hP (ci := 7) rfl hN_X, (zpM hP hK hZ hD)⟩ rfl rfl hl.1 rfl (lv_room (Nat.le_of_ble_eq_true rfl)) d_M_readBlock_137 ⟨Nat.zero_le _, Nat.zero_le _⟩) hS (fun q _ h => hFc q h) hFc (fun ws t H locs ht hvm hu hB hz1 hk1 hS => ?_)
          obtain ⟨hN_X, hN_Xblocks, hfr⟩ := hu
          obtain ⟨hP, -, hD1⟩ := hB
          rw [ht] at hP
          have hD := hD1.weaken (fun _ _ _ h => hFc _ h)
          have hN_X : ws[21]? = some (aX, .inr (7, [.int X_code, .int X_side, .ref aXpicture, .ref aXhalf, .int X_many, .ref aXblocks, .int q250.1, .int X_encodedBits, .ref aXencoded, .int X_fedMany, .ref aXfed, .int q249.2.1, .int q249.2.2, .int X_tried, .int X_waiting, .ref aXpile, .int X_decoded, .ref aXnews, .ref aXolds, .ref aXhalves, .ref aXds, .ref aXrs, .ref aXbest, .long X_bestError])) := hN_X
          have hN_Xblocks : ws[24]? = some (aXblocks, .inl (cI, Xblocks_n, .inl q250.2)) := hN_Xblocks
          have hN_Xfed := (hfr _ (by decide)).trans hN_Xfed
          have hN_Xbest := (hfr _ (by decide)).trans hN_Xbest
          have hw := z_frC (by decide) hw hfr
          obtain rfl := Option.some.inj hf
          exact W.vret hx hb hr (fun t ht hW => ⟨⟨ws, rfl, ⟨hN_X, hN_Xblocks, hN_Xbest, hw⟩, by rw [ht]; exact hP, va_K.moved hW.alike hK, hD⟩, hS.F ht⟩) hS.2.2 d_M_readBlock_140
  · have hf := z_f hc hf
    refine lv_aload_n hx hb d_M_readBlock_23 rfl (lv_at hl 0 rfl) ?_
    refine gf_M_43 (v := .ref aXbest) hx hb hts hown hK hP hN_X rfl d_M_readBlock_24 ?_
    refine lv_iconst (v := 0) hx hb d_M_readBlock_27 (by decide) ?_
    obtain ⟨hin, hf⟩ := z_no hf
    refine va_iald hx hb hK hP _ 0 hN_Xbest rfl hin d_M_readBlock_28 ?_
    refine lv_aload_n hx hb d_M_readBlock_29 rfl (lv_at hl 0 rfl) ?_
    refine lv_iload_n hx hb d_M_readBlock_30 rfl (lv_at hl 3 rfl) ?_
    obtain ⟨q251, hc, hf⟩ := z_b hf
    refine vp_callSi (z_cr (va_runV (As := [.int x3]) (rest := [.int ((upd Xbest_f (0 : Int32).toNatClampNeg q242.1) (0 : Int32).toNatClampNeg), .ref aX]) ⟨hx, hb, hml, hown, hts⟩ (c_M_domains l dC dI cI cL x3 hN_X q251 hc) (cw_M_69 hts ⟨Nat.le_of_ble_eq_true rfl, Nat.le_of_ble_eq_true rfl⟩) ⟨zbR, va_recv hK hP (ci := 7) rfl hN_X, (zpR hP hK hZ)⟩ rfl rfl hl.1 rfl (lv_room (Nat.le_of_ble_eq_true rfl)) d_M_readBlock_31 ⟨Nat.zero_le _, Nat.zero_le _⟩)) (fun r252 hv => ?_)
    have hv := hv.symm
    subst hv
    refine lv_aload_n hx hb d_M_readBlock_34 rfl (lv_at hl 0 rfl) ?_
    refine lv_iload_n hx hb d_M_readBlock_35 rfl (lv_at hl 3 rfl) ?_
    obtain ⟨q253, hc, hf⟩ := z_b hf
    refine vp_callSi (z_cr (va_runV (As := [.int x3]) (rest := [.int q251, .int ((upd Xbest_f (0 : Int32).toNatClampNeg q242.1) (0 : Int32).toNatClampNeg), .ref aX]) ⟨hx, hb, hml, hown, hts⟩ (c_M_domains l dC dI cI cL x3 hN_X q253 hc) (cw_M_69 hts ⟨Nat.le_of_ble_eq_true rfl, Nat.le_of_ble_eq_true rfl⟩) ⟨zbR, va_recv hK hP (ci := 7) rfl hN_X, (zpR hP hK hZ)⟩ rfl rfl hl.1 rfl (lv_room (Nat.le_of_ble_eq_true rfl)) d_M_readBlock_36 ⟨Nat.zero_le _, Nat.zero_le _⟩)) (fun r254 hv => ?_)
    have hv := hv.symm
    subst hv
    refine lv_imul hx hb d_M_readBlock_39 ?_
    refine lv_icmp_lt (tgt := 47) hx hb d_M_readBlock_40 (by decide) (fun hc => ?_) (fun hc => ?_)
    · have hf := z_t hc hf
      refine lv_aload_n hx hb d_M_readBlock_47 rfl (lv_at hl 0 rfl) ?_
      refine gf_M_166 (v := .int q242.2.2) hx hb hts hown hK hP hN_X rfl d_M_readBlock_48 ?_
      refine pf_M_166 (v := .int q242.2.2) hx hb hts hown hK hP hD hS hN_X rfl rfl (Nat.le_of_ble_eq_true rfl) d_M_readBlock_51 (fun ws H locs hP hD hS hN_X hfr => ?_)
      have hN_X : ws[21]? = some (aX, .inr (7, [.int X_code, .int X_side, .ref aXpicture, .ref aXhalf, .int X_many, .ref aXblocks, .int X_found, .int X_encodedBits, .ref aXencoded, .int X_fedMany, .ref aXfed, .int q242.2.1, .int q242.2.2, .int X_tried, .int X_waiting, .ref aXpile, .int X_decoded, .ref aXnews, .ref aXolds, .ref aXhalves, .ref aXds, .ref aXrs, .ref aXbest, .long X_bestError])) := hN_X
      have hN_Xblocks := (hfr _ (by decide)).trans hN_Xblocks
      have hN_Xfed := (hfr _ (by decide)).trans hN_Xfed
      have hN_Xbest := (hfr _ (by decide)).trans hN_Xbest
      have hw := z_fr (by decide) hw hfr
      refine lv_aload_n hx hb d_M_readBlock_54 rfl (lv_at hl 0 rfl) ?_
      refine gf_M_43 (v := .ref aXbest) hx hb hts hown hK hP hN_X rfl d_M_readBlock_55 ?_
      refine lv_iconst (v := 1) hx hb d_M_readBlock_58 (by decide) ?_
      refine lv_aload_n hx hb d_M_readBlock_59 rfl (lv_at hl 0 rfl) ?_
      refine lv_iconst (v := 3) hx hb d_M_readBlock_60 (by decide) ?_
      obtain ⟨q255, hc, hf⟩ := z_b hf
      have hFc := z_free hD hS hA
      refine va_calli (va_runV (As := [.int (3 : Int32)]) (rest := [.int (1 : Int32), .ref aXbest]) ⟨hx, hb, hml, hown, hts⟩ (c_M_take l dC dI cI cL _ (3 : Int32) hN_X hN_Xfed q255 hc) (cw_M_175 hts ⟨Nat.le_of_ble_eq_true rfl, Nat.le_of_ble_eq_true rfl⟩) ⟨zbM, va_recv hK hP (ci := 7) rfl hN_X, (zpM hP hK hZ hD)⟩ rfl rfl hl.1 rfl (lv_room (Nat.le_of_ble_eq_true rfl)) d_M_readBlock_61 ⟨Nat.zero_le _, Nat.zero_le _⟩) hS (fun q _ h => hFc q h) hFc (fun rv ws t H locs ht hvm hu hB hz1 hk1 hS => ?_)
      obtain ⟨hv, hN_X, hfr⟩ := hu
      subst hv
      obtain ⟨hP, -, hD1⟩ := hB
      rw [ht] at hP
      have hD := hD1.weaken (fun _ _ _ h => hFc _ h)
      have hN_X : ws[21]? = some (aX, .inr (7, [.int X_code, .int X_side, .ref aXpicture, .ref aXhalf, .int X_many, .ref aXblocks, .int X_found, .int X_encodedBits, .ref aXencoded, .int X_fedMany, .ref aXfed, .int q255.2.1, .int q255.2.2, .int X_tried, .int X_waiting, .ref aXpile, .int X_decoded, .ref aXnews, .ref aXolds, .ref aXhalves, .ref aXds, .ref aXrs, .ref aXbest, .long X_bestError])) := hN_X
      have hN_Xblocks := (hfr _ (by decide)).trans hN_Xblocks
      have hN_Xfed := (hfr _ (by decide)).trans hN_Xfed
      have hN_Xbest := (hfr _ (by decide)).trans hN_Xbest
      have hw := z_frC (by decide) hw hfr
      obtain ⟨hin, hf⟩ := z_no hf
      refine z_iast hx hb hK hP hD hS hN_Xbest rfl hin d_M_readBlock_64 (fun ws H locs hP hD hS hN_Xbest hfr => ?_)
      have hN_Xbest : ws[33]? = some (aXbest, .inl (cI, Xbest_n, .inl (upd (upd Xbest_f (0 : Int32).toNatClampNeg q242.1) (1 : Int32).toNatClampNeg q255.1))) := hN_Xbest
      have hN_X := (hfr _ (by decide)).trans hN_X
      have hN_Xblocks := (hfr _ (by decide)).trans hN_Xblocks
      have hN_Xfed := (hfr _ (by decide)).trans hN_Xfed
      have hw := z_fr (by decide) hw hfr
      refine lv_aload_n hx hb d_M_readBlock_65 rfl (lv_at hl 0 rfl) ?_
      refine gf_M_43 (v := .ref aXbest) hx hb hts hown hK hP hN_X rfl d_M_readBlock_66 ?_
      refine lv_iconst (v := 2) hx hb d_M_readBlock_69 (by decide) ?_
      refine lv_aload_n hx hb d_M_readBlock_70 rfl (lv_at hl 0 rfl) ?_
      refine lv_iconst (v := 4) hx hb d_M_readBlock_71 (by decide) ?_
      obtain ⟨q256, hc, hf⟩ := z_b hf
      have hFc := z_free hD hS hA
      refine va_calli (va_runV (As := [.int (4 : Int32)]) (rest := [.int (2 : Int32), .ref aXbest]) ⟨hx, hb, hml, hown, hts⟩ (c_M_take l dC dI cI cL _ (4 : Int32) hN_X hN_Xfed q256 hc) (cw_M_175 hts ⟨Nat.le_of_ble_eq_true rfl, Nat.le_of_ble_eq_true rfl⟩) ⟨zbM, va_recv hK hP (ci := 7) rfl hN_X, (zpM hP hK hZ hD)⟩ rfl rfl hl.1 rfl (lv_room (Nat.le_of_ble_eq_true rfl)) d_M_readBlock_72 ⟨Nat.zero_le _, Nat.zero_le _⟩) hS (fun q _ h => hFc q h) hFc (fun rv ws t H locs ht hvm hu hB hz1 hk1 hS => ?_)
      obtain ⟨hv, hN_X, hfr⟩ := hu
      subst hv
      obtain ⟨hP, -, hD1⟩ := hB
      rw [ht] at hP
      have hD := hD1.weaken (fun _ _ _ h => hFc _ h)
      have hN_X : ws[21]? = some (aX, .inr (7, [.int X_code, .int X_side, .ref aXpicture, .ref aXhalf, .int X_many, .ref aXblocks, .int X_found, .int X_encodedBits, .ref aXencoded, .int X_fedMany, .ref aXfed, .int q256.2.1, .int q256.2.2, .int X_tried, .int X_waiting, .ref aXpile, .int X_decoded, .ref aXnews, .ref aXolds, .ref aXhalves, .ref aXds, .ref aXrs, .ref aXbest, .long X_bestError])) := hN_X
      have hN_Xblocks := (hfr _ (by decide)).trans hN_Xblocks
      have hN_Xfed := (hfr _ (by decide)).trans hN_Xfed
      have hN_Xbest := (hfr _ (by decide)).trans hN_Xbest
      have hw := z_frC (by decide) hw hfr
      refine lv_bipush (v := 7) hx hb d_M_readBlock_75 (by decide) ?_
      refine lv_isub hx hb d_M_readBlock_77 ?_
      obtain ⟨hin, hf⟩ := z_no hf
      refine z_iast hx hb hK hP hD hS hN_Xbest rfl hin d_M_readBlock_78 (fun ws H locs hP hD hS hN_Xbest hfr => ?_)
      have hN_Xbest : ws[33]? = some (aXbest, .inl (cI, Xbest_n, .inl (upd (upd (upd Xbest_f (0 : Int32).toNatClampNeg q242.1) (1 : Int32).toNatClampNeg q255.1) (2 : Int32).toNatClampNeg (q256.1 - (7 : Int32))))) := hN_Xbest
      have hN_X := (hfr _ (by decide)).trans hN_X
      have hN_Xblocks := (hfr _ (by decide)).trans hN_Xblocks
      have hN_Xfed := (hfr _ (by decide)).trans hN_Xfed
      have hw := z_fr (by decide) hw hfr
      refine lv_aload_n hx hb d_M_readBlock_79 rfl (lv_at hl 0 rfl) ?_
      refine lv_aload_n hx hb d_M_readBlock_80 rfl (lv_at hl 0 rfl) ?_
      refine gf_M_166 (v := .int q256.2.2) hx hb hts hown hK hP hN_X rfl d_M_readBlock_81 ?_
      refine lv_if_ge (tgt := 102) hx hb d_M_readBlock_84 (by decide) (fun hc => ?_) (fun hc => ?_)
      · have hf := z_t hc hf
        refine lv_aload_n hx hb d_M_readBlock_102 rfl (lv_at hl 0 rfl) ?_
        refine gf_M_166 (v := .int q256.2.2) hx hb hts hown hK hP hN_X rfl d_M_readBlock_103 ?_
        refine pf_M_166 (v := .int q256.2.2) hx hb hts hown hK hP hD hS hN_X rfl rfl (Nat.le_of_ble_eq_true rfl) d_M_readBlock_106 (fun ws H locs hP hD hS hN_X hfr => ?_)
        have hN_X : ws[21]? = some (aX, .inr (7, [.int X_code, .int X_side, .ref aXpicture, .ref aXhalf, .int X_many, .ref aXblocks, .int X_found, .int X_encodedBits, .ref aXencoded, .int X_fedMany, .ref aXfed, .int q256.2.1, .int q256.2.2, .int X_tried, .int X_waiting, .ref aXpile, .int X_decoded, .ref aXnews, .ref aXolds, .ref aXhalves, .ref aXds, .ref aXrs, .ref aXbest, .long X_bestError])) := hN_X
        have hN_Xblocks := (hfr _ (by decide)).trans hN_Xblocks
        have hN_Xfed := (hfr _ (by decide)).trans hN_Xfed
        have hN_Xbest := (hfr _ (by decide)).trans hN_Xbest
        have hw := z_fr (by decide) hw hfr
        refine lv_aload_n hx hb d_M_readBlock_109 rfl (lv_at hl 0 rfl) ?_
        refine gf_M_43 (v := .ref aXbest) hx hb hts hown hK hP hN_X rfl d_M_readBlock_110 ?_
        refine lv_iconst (v := 3) hx hb d_M_readBlock_113 (by decide) ?_
        refine lv_aload_n hx hb d_M_readBlock_114 rfl (lv_at hl 0 rfl) ?_
        refine lv_bipush (v := 10) hx hb d_M_readBlock_115 (by decide) ?_
        obtain ⟨q257, hc, hf⟩ := z_b hf
        have hFc := z_free hD hS hA
        refine va_calli (va_runV (As := [.int (10 : Int32)]) (rest := [.int (3 : Int32), .ref aXbest]) ⟨hx, hb, hml, hown, hts⟩ (c_M_take l dC dI cI cL _ (10 : Int32) hN_X hN_Xfed q257 hc) (cw_M_175 hts ⟨Nat.le_of_ble_eq_true rfl, Nat.le_of_ble_eq_true rfl⟩) ⟨zbM, va_recv hK hP (ci := 7) rfl hN_X, (zpM hP hK hZ hD)⟩ rfl rfl hl.1 rfl (lv_room (Nat.le_of_ble_eq_true rfl)) d_M_readBlock_117 ⟨Nat.zero_le _, Nat.zero_le _⟩) hS (fun q _ h => hFc q h) hFc (fun rv ws t H locs ht hvm hu hB hz1 hk1 hS => ?_)
        obtain ⟨hv, hN_X, hfr⟩ := hu
        subst hv
        obtain ⟨hP, -, hD1⟩ := hB
        rw [ht] at hP
        have hD := hD1.weaken (fun _ _ _ h => hFc _ h)
        have hN_X : ws[21]? = some (aX, .inr (7, [.int X_code, .int X_side, .ref aXpicture, .ref aXhalf, .int X_many, .ref aXblocks, .int X_found, .int X_encodedBits, .ref aXencoded, .int X_fedMany, .ref aXfed, .int q257.2.1, .int q257.2.2, .int X_tried, .int X_waiting, .ref aXpile, .int X_decoded, .ref aXnews, .ref aXolds, .ref aXhalves, .ref aXds, .ref aXrs, .ref aXbest, .long X_bestError])) := hN_X
        have hN_Xblocks := (hfr _ (by decide)).trans hN_Xblocks
        have hN_Xfed := (hfr _ (by decide)).trans hN_Xfed
        have hN_Xbest := (hfr _ (by decide)).trans hN_Xbest
        have hw := z_frC (by decide) hw hfr
        refine lv_sipush (v := 256) hx hb d_M_readBlock_120 (by decide) ?_
        refine lv_isub hx hb d_M_readBlock_123 ?_
        obtain ⟨hin, hf⟩ := z_no hf
        refine z_iast hx hb hK hP hD hS hN_Xbest rfl hin d_M_readBlock_124 (fun ws H locs hP hD hS hN_Xbest hfr => ?_)
        have hN_Xbest : ws[33]? = some (aXbest, .inl (cI, Xbest_n, .inl (upd (upd (upd (upd Xbest_f (0 : Int32).toNatClampNeg q242.1) (1 : Int32).toNatClampNeg q255.1) (2 : Int32).toNatClampNeg (q256.1 - (7 : Int32))) (3 : Int32).toNatClampNeg (q257.1 - (256 : Int32))))) := hN_Xbest
        have hN_X := (hfr _ (by decide)).trans hN_X
        have hN_Xblocks := (hfr _ (by decide)).trans hN_Xblocks
        have hN_Xfed := (hfr _ (by decide)).trans hN_Xfed
        have hw := z_fr (by decide) hw hfr
        refine lv_aload_n hx hb d_M_readBlock_125 rfl (lv_at hl 0 rfl) ?_
        refine gf_M_166 (v := .int q257.2.2) hx hb hts hown hK hP hN_X rfl d_M_readBlock_126 ?_
        refine lv_if_ge (tgt := 140) hx hb d_M_readBlock_129 (by decide) (fun hc => ?_) (fun hc => ?_)
        · have hf := z_t hc hf
          obtain rfl := Option.some.inj hf
          exact W.vret hx hb hr (fun t ht hW => ⟨⟨ws, rfl, ⟨hN_X, hN_Xblocks, hN_Xbest, hw⟩, by rw [ht]; exact hP, va_K.moved hW.alike hK, hD⟩, hS.F ht⟩) hS.2.2 d_M_readBlock_140
        · have hf := z_f hc hf
          refine lv_aload_n hx hb d_M_readBlock_132 rfl (lv_at hl 0 rfl) ?_
          refine lv_iload_n hx hb d_M_readBlock_133 rfl (lv_at hl 1 rfl) ?_
          refine lv_iload_n hx hb d_M_readBlock_134 rfl (lv_at hl 2 rfl) ?_
          refine lv_iload_n hx hb d_M_readBlock_135 rfl (lv_at hl 3 rfl) ?_
          refine lv_iconst (v := (-1)) hx hb d_M_readBlock_136 (by decide) ?_
          obtain ⟨q258, hc, hf⟩ := z_b hf
          have hFc := z_free hD hS hA
          refine va_callv (va_runV (As := [.int x1, .int x2, .int x3, .int ((-1) : Int32)]) (rest := []) ⟨hx, hb, hml, hown, hts⟩ (c_M_note l dC dI cI cL _ x1 x2 x3 ((-1) : Int32) hN_X hN_Xblocks hN_Xbest q258 hc) (cw_M_147 hts ⟨Nat.le_of_ble_eq_true rfl, Nat.le_of_ble_eq_true rfl⟩) ⟨zbM, va_recv hK hP (ci := 7) rfl hN_X, (zpM hP hK hZ hD)⟩ rfl rfl hl.1 rfl (lv_room (Nat.le_of_ble_eq_true rfl)) d_M_readBlock_137 ⟨Nat.zero_le _, Nat.zero_le _⟩) hS (fun q _ h => hFc q h) hFc (fun ws t H locs ht hvm hu hB hz1 hk1 hS => ?_)
          obtain ⟨hN_X, hN_Xblocks, hfr⟩ := hu
          obtain ⟨hP, -, hD1⟩ := hB
          rw [ht] at hP
          have hD := hD1.weaken (fun _ _ _ h => hFc _ h)
          have hN_X : ws[21]? = some (aX, .inr (7, [.int X_code, .int X_side, .ref aXpicture, .ref aXhalf, .int X_many, .ref aXblocks, .int q258.1, .int X_encodedBits, .ref aXencoded, .int X_fedMany, .ref aXfed, .int q257.2.1, .int q257.2.2, .int X_tried, .int X_waiting, .ref aXpile, .int X_decoded, .ref aXnews, .ref aXolds, .ref aXhalves, .ref aXds, .ref aXrs, .ref aXbest, .long X_bestError])) := hN_X
          have hN_Xblocks : ws[24]? = some (aXblocks, .inl (cI, Xblocks_n, .inl q258.2)) := hN_Xblocks
          have hN_Xfed := (hfr _ (by decide)).trans hN_Xfed
          have hN_Xbest := (hfr _ (by decide)).trans hN_Xbest
          have hw := z_frC (by decide) hw hfr
          obtain rfl := Option.some.inj hf
          exact W.vret hx hb hr (fun t ht hW => ⟨⟨ws, rfl, ⟨hN_X, hN_Xblocks, hN_Xbest, hw⟩, by rw [ht]; exact hP, va_K.moved hW.alike hK, hD⟩, hS.F ht⟩) hS.2.2 d_M_readBlock_140
      · have hf := z_f hc hf
        refine lv_aload_n hx hb d_M_readBlock_87 rfl (lv_at hl 0 rfl) ?_
        refine gf_M_43 (v := .ref aXbest) hx hb hts hown hK hP hN_X rfl d_M_readBlock_88 ?_
        refine lv_iconst (v := 2) hx hb d_M_readBlock_91 (by decide) ?_
        obtain ⟨hin, hf⟩ := z_no hf
        refine va_iald hx hb hK hP _ 0 hN_Xbest rfl hin d_M_readBlock_92 ?_
        refine lv_bipush (v := 7) hx hb d_M_readBlock_93 (by decide) ?_
        refine lv_icmp_le (tgt := 102) hx hb d_M_readBlock_95 (by decide) (fun hc => ?_) (fun hc => ?_)
        · have hf := z_t hc hf
          refine lv_aload_n hx hb d_M_readBlock_102 rfl (lv_at hl 0 rfl) ?_
          refine gf_M_166 (v := .int q256.2.2) hx hb hts hown hK hP hN_X rfl d_M_readBlock_103 ?_
          refine pf_M_166 (v := .int q256.2.2) hx hb hts hown hK hP hD hS hN_X rfl rfl (Nat.le_of_ble_eq_true rfl) d_M_readBlock_106 (fun ws H locs hP hD hS hN_X hfr => ?_)
          have hN_X : ws[21]? = some (aX, .inr (7, [.int X_code, .int X_side, .ref aXpicture, .ref aXhalf, .int X_many, .ref aXblocks, .int X_found, .int X_encodedBits, .ref aXencoded, .int X_fedMany, .ref aXfed, .int q256.2.1, .int q256.2.2, .int X_tried, .int X_waiting, .ref aXpile, .int X_decoded, .ref aXnews, .ref aXolds, .ref aXhalves, .ref aXds, .ref aXrs, .ref aXbest, .long X_bestError])) := hN_X
          have hN_Xblocks := (hfr _ (by decide)).trans hN_Xblocks
          have hN_Xfed := (hfr _ (by decide)).trans hN_Xfed
          have hN_Xbest := (hfr _ (by decide)).trans hN_Xbest
          have hw := z_fr (by decide) hw hfr
          refine lv_aload_n hx hb d_M_readBlock_109 rfl (lv_at hl 0 rfl) ?_
          refine gf_M_43 (v := .ref aXbest) hx hb hts hown hK hP hN_X rfl d_M_readBlock_110 ?_
          refine lv_iconst (v := 3) hx hb d_M_readBlock_113 (by decide) ?_
          refine lv_aload_n hx hb d_M_readBlock_114 rfl (lv_at hl 0 rfl) ?_
          refine lv_bipush (v := 10) hx hb d_M_readBlock_115 (by decide) ?_
          obtain ⟨q259, hc, hf⟩ := z_b hf
          have hFc := z_free hD hS hA
          refine va_calli (va_runV (As := [.int (10 : Int32)]) (rest := [.int (3 : Int32), .ref aXbest]) ⟨hx, hb, hml, hown, hts⟩ (c_M_take l dC dI cI cL _ (10 : Int32) hN_X hN_Xfed q259 hc) (cw_M_175 hts ⟨Nat.le_of_ble_eq_true rfl, Nat.le_of_ble_eq_true rfl⟩) ⟨zbM, va_recv hK hP (ci := 7) rfl hN_X, (zpM hP hK hZ hD)⟩ rfl rfl hl.1 rfl (lv_room (Nat.le_of_ble_eq_true rfl)) d_M_readBlock_117 ⟨Nat.zero_le _, Nat.zero_le _⟩) hS (fun q _ h => hFc q h) hFc (fun rv ws t H locs ht hvm hu hB hz1 hk1 hS => ?_)
          obtain ⟨hv, hN_X, hfr⟩ := hu
          subst hv
          obtain ⟨hP, -, hD1⟩ := hB
          rw [ht] at hP
          have hD := hD1.weaken (fun _ _ _ h => hFc _ h)
          have hN_X : ws[21]? = some (aX, .inr (7, [.int X_code, .int X_side, .ref aXpicture, .ref aXhalf, .int X_many, .ref aXblocks, .int X_found, .int X_encodedBits, .ref aXencoded, .int X_fedMany, .ref aXfed, .int q259.2.1, .int q259.2.2, .int X_tried, .int X_waiting, .ref aXpile, .int X_decoded, .ref aXnews, .ref aXolds, .ref aXhalves, .ref aXds, .ref aXrs, .ref aXbest, .long X_bestError])) := hN_X
          have hN_Xblocks := (hfr _ (by decide)).trans hN_Xblocks
          have hN_Xfed := (hfr _ (by decide)).trans hN_Xfed
          have hN_Xbest := (hfr _ (by decide)).trans hN_Xbest
          have hw := z_frC (by decide) hw hfr
          refine lv_sipush (v := 256) hx hb d_M_readBlock_120 (by decide) ?_
          refine lv_isub hx hb d_M_readBlock_123 ?_
          obtain ⟨hin, hf⟩ := z_no hf
          refine z_iast hx hb hK hP hD hS hN_Xbest rfl hin d_M_readBlock_124 (fun ws H locs hP hD hS hN_Xbest hfr => ?_)
          have hN_Xbest : ws[33]? = some (aXbest, .inl (cI, Xbest_n, .inl (upd (upd (upd (upd Xbest_f (0 : Int32).toNatClampNeg q242.1) (1 : Int32).toNatClampNeg q255.1) (2 : Int32).toNatClampNeg (q256.1 - (7 : Int32))) (3 : Int32).toNatClampNeg (q259.1 - (256 : Int32))))) := hN_Xbest
          have hN_X := (hfr _ (by decide)).trans hN_X
          have hN_Xblocks := (hfr _ (by decide)).trans hN_Xblocks
          have hN_Xfed := (hfr _ (by decide)).trans hN_Xfed
          have hw := z_fr (by decide) hw hfr
          refine lv_aload_n hx hb d_M_readBlock_125 rfl (lv_at hl 0 rfl) ?_
          refine gf_M_166 (v := .int q259.2.2) hx hb hts hown hK hP hN_X rfl d_M_readBlock_126 ?_
          refine lv_if_ge (tgt := 140) hx hb d_M_readBlock_129 (by decide) (fun hc => ?_) (fun hc => ?_)
          · have hf := z_t hc hf
            obtain rfl := Option.some.inj hf
            exact W.vret hx hb hr (fun t ht hW => ⟨⟨ws, rfl, ⟨hN_X, hN_Xblocks, hN_Xbest, hw⟩, by rw [ht]; exact hP, va_K.moved hW.alike hK, hD⟩, hS.F ht⟩) hS.2.2 d_M_readBlock_140
          · have hf := z_f hc hf
            refine lv_aload_n hx hb d_M_readBlock_132 rfl (lv_at hl 0 rfl) ?_
            refine lv_iload_n hx hb d_M_readBlock_133 rfl (lv_at hl 1 rfl) ?_
            refine lv_iload_n hx hb d_M_readBlock_134 rfl (lv_at hl 2 rfl) ?_
            refine lv_iload_n hx hb d_M_readBlock_135 rfl (lv_at hl 3 rfl) ?_
            refine lv_iconst (v := (-1)) hx hb d_M_readBlock_136 (by decide) ?_
            obtain ⟨q260, hc, hf⟩ := z_b hf
            have hFc := z_free hD hS hA
            refine va_callv (va_runV (As := [.int x1, .int x2, .int x3, .int ((-1) : Int32)]) (rest := []) ⟨hx, hb, hml, hown, hts⟩ (c_M_note l dC dI cI cL _ x1 x2 x3 ((-1) : Int32) hN_X hN_Xblocks hN_Xbest q260 hc) (cw_M_147 hts ⟨Nat.le_of_ble_eq_true rfl, Nat.le_of_ble_eq_true rfl⟩) ⟨zbM, va_recv hK hP (ci := 7) rfl hN_X, (zpM hP hK hZ hD)⟩ rfl rfl hl.1 rfl (lv_room (Nat.le_of_ble_eq_true rfl)) d_M_readBlock_137 ⟨Nat.zero_le _, Nat.zero_le _⟩) hS (fun q _ h => hFc q h) hFc (fun ws t H locs ht hvm hu hB hz1 hk1 hS => ?_)
            obtain ⟨hN_X, hN_Xblocks, hfr⟩ := hu
            obtain ⟨hP, -, hD1⟩ := hB
            rw [ht] at hP
            have hD := hD1.weaken (fun _ _ _ h => hFc _ h)
            have hN_X : ws[21]? = some (aX, .inr (7, [.int X_code, .int X_side, .ref aXpicture, .ref aXhalf, .int X_many, .ref aXblocks, .int q260.1, .int X_encodedBits, .ref aXencoded, .int X_fedMany, .ref aXfed, .int q259.2.1, .int q259.2.2, .int X_tried, .int X_waiting, .ref aXpile, .int X_decoded, .ref aXnews, .ref aXolds, .ref aXhalves, .ref aXds, .ref aXrs, .ref aXbest, .long X_bestError])) := hN_X
            have hN_Xblocks : ws[24]? = some (aXblocks, .inl (cI, Xblocks_n, .inl q260.2)) := hN_Xblocks
            have hN_Xfed := (hfr _ (by decide)).trans hN_Xfed
            have hN_Xbest := (hfr _ (by decide)).trans hN_Xbest
            have hw := z_frC (by decide) hw hfr
            obtain rfl := Option.some.inj hf
            exact W.vret hx hb hr (fun t ht hW => ⟨⟨ws, rfl, ⟨hN_X, hN_Xblocks, hN_Xbest, hw⟩, by rw [ht]; exact hP, va_K.moved hW.alike hK, hD⟩, hS.F ht⟩) hS.2.2 d_M_readBlock_140
        · have hf := z_f hc hf
          refine lv_iconst (v := 2) hx hb d_M_readBlock_98 (by decide) ?_
          refine lv_goto (tgt := 106) hx hb d_M_readBlock_99 (by decide) ?_
          refine pf_M_166 (v := .int (2 : Int32)) hx hb hts hown hK hP hD hS hN_X rfl rfl (Nat.le_of_ble_eq_true rfl) d_M_readBlock_106 (fun ws H locs hP hD hS hN_X hfr => ?_)
          have hN_X : ws[21]? = some (aX, .inr (7, [.int X_code, .int X_side, .ref aXpicture, .ref aXhalf, .int X_many, .ref aXblocks, .int X_found, .int X_encodedBits, .ref aXencoded, .int X_fedMany, .ref aXfed, .int q256.2.1, .int (2 : Int32), .int X_tried, .int X_waiting, .ref aXpile, .int X_decoded, .ref aXnews, .ref aXolds, .ref aXhalves, .ref aXds, .ref aXrs, .ref aXbest, .long X_bestError])) := hN_X
          have hN_Xblocks := (hfr _ (by decide)).trans hN_Xblocks
          have hN_Xfed := (hfr _ (by decide)).trans hN_Xfed
          have hN_Xbest := (hfr _ (by decide)).trans hN_Xbest
          have hw := z_fr (by decide) hw hfr
          refine lv_aload_n hx hb d_M_readBlock_109 rfl (lv_at hl 0 rfl) ?_
          refine gf_M_43 (v := .ref aXbest) hx hb hts hown hK hP hN_X rfl d_M_readBlock_110 ?_
          refine lv_iconst (v := 3) hx hb d_M_readBlock_113 (by decide) ?_
          refine lv_aload_n hx hb d_M_readBlock_114 rfl (lv_at hl 0 rfl) ?_
          refine lv_bipush (v := 10) hx hb d_M_readBlock_115 (by decide) ?_
          obtain ⟨q261, hc, hf⟩ := z_b hf
          have hFc := z_free hD hS hA
          refine va_calli (va_runV (As := [.int (10 : Int32)]) (rest := [.int (3 : Int32), .ref aXbest]) ⟨hx, hb, hml, hown, hts⟩ (c_M_take l dC dI cI cL _ (10 : Int32) hN_X hN_Xfed q261 hc) (cw_M_175 hts ⟨Nat.le_of_ble_eq_true rfl, Nat.le_of_ble_eq_true rfl⟩) ⟨zbM, va_recv hK hP (ci := 7) rfl hN_X, (zpM hP hK hZ hD)⟩ rfl rfl hl.1 rfl (lv_room (Nat.le_of_ble_eq_true rfl)) d_M_readBlock_117 ⟨Nat.zero_le _, Nat.zero_le _⟩) hS (fun q _ h => hFc q h) hFc (fun rv ws t H locs ht hvm hu hB hz1 hk1 hS => ?_)
          obtain ⟨hv, hN_X, hfr⟩ := hu
          subst hv
          obtain ⟨hP, -, hD1⟩ := hB
          rw [ht] at hP
          have hD := hD1.weaken (fun _ _ _ h => hFc _ h)
          have hN_X : ws[21]? = some (aX, .inr (7, [.int X_code, .int X_side, .ref aXpicture, .ref aXhalf, .int X_many, .ref aXblocks, .int X_found, .int X_encodedBits, .ref aXencoded, .int X_fedMany, .ref aXfed, .int q261.2.1, .int q261.2.2, .int X_tried, .int X_waiting, .ref aXpile, .int X_decoded, .ref aXnews, .ref aXolds, .ref aXhalves, .ref aXds, .ref aXrs, .ref aXbest, .long X_bestError])) := hN_X
          have hN_Xblocks := (hfr _ (by decide)).trans hN_Xblocks
          have hN_Xfed := (hfr _ (by decide)).trans hN_Xfed
          have hN_Xbest := (hfr _ (by decide)).trans hN_Xbest
          have hw := z_frC (by decide) hw hfr
          refine lv_sipush (v := 256) hx hb d_M_readBlock_120 (by decide) ?_
          refine lv_isub hx hb d_M_readBlock_123 ?_
          obtain ⟨hin, hf⟩ := z_no hf
          refine z_iast hx hb hK hP hD hS hN_Xbest rfl hin d_M_readBlock_124 (fun ws H locs hP hD hS hN_Xbest hfr => ?_)
          have hN_Xbest : ws[33]? = some (aXbest, .inl (cI, Xbest_n, .inl (upd (upd (upd (upd Xbest_f (0 : Int32).toNatClampNeg q242.1) (1 : Int32).toNatClampNeg q255.1) (2 : Int32).toNatClampNeg (q256.1 - (7 : Int32))) (3 : Int32).toNatClampNeg (q261.1 - (256 : Int32))))) := hN_Xbest
          have hN_X := (hfr _ (by decide)).trans hN_X
          have hN_Xblocks := (hfr _ (by decide)).trans hN_Xblocks
          have hN_Xfed := (hfr _ (by decide)).trans hN_Xfed
          have hw := z_fr (by decide) hw hfr
          refine lv_aload_n hx hb d_M_readBlock_125 rfl (lv_at hl 0 rfl) ?_
          refine gf_M_166 (v := .int q261.2.2) hx hb hts hown hK hP hN_X rfl d_M_readBlock_126 ?_
          refine lv_if_ge (tgt := 140) hx hb d_M_readBlock_129 (by decide) (fun hc => ?_) (fun hc => ?_)
          · have hf := z_t hc hf
            obtain rfl := Option.some.inj hf
            exact W.vret hx hb hr (fun t ht hW => ⟨⟨ws, rfl, ⟨hN_X, hN_Xblocks, hN_Xbest, hw⟩, by rw [ht]; exact hP, va_K.moved hW.alike hK, hD⟩, hS.F ht⟩) hS.2.2 d_M_readBlock_140
          · have hf := z_f hc hf
            refine lv_aload_n hx hb d_M_readBlock_132 rfl (lv_at hl 0 rfl) ?_
            refine lv_iload_n hx hb d_M_readBlock_133 rfl (lv_at hl 1 rfl) ?_
            refine lv_iload_n hx hb d_M_readBlock_134 rfl (lv_at hl 2 rfl) ?_
            refine lv_iload_n hx hb d_M_readBlock_135 rfl (lv_at hl 3 rfl) ?_
            refine lv_iconst (v := (-1)) hx hb d_M_readBlock_136 (by decide) ?_
            obtain ⟨q262, hc, hf⟩ := z_b hf
            have hFc := z_free hD hS hA
            refine va_callv (va_runV (As := [.int x1, .int x2, .int x3, .int ((-1) : Int32)]) (rest := []) ⟨hx, hb, hml, hown, hts⟩ (c_M_note l dC dI cI cL _ x1 x2 x3 ((-1) : Int32) hN_X hN_Xblocks hN_Xbest q262 hc) (cw_M_147 hts ⟨Nat.le_of_ble_eq_true rfl, Nat.le_of_ble_eq_true rfl⟩) ⟨zbM, va_recv hK hP (ci := 7) rfl hN_X, (zpM hP hK hZ hD)⟩ rfl rfl hl.1 rfl (lv_room (Nat.le_of_ble_eq_true rfl)) d_M_readBlock_137 ⟨Nat.zero_le _, Nat.zero_le _⟩) hS (fun q _ h => hFc q h) hFc (fun ws t H locs ht hvm hu hB hz1 hk1 hS => ?_)
            obtain ⟨hN_X, hN_Xblocks, hfr⟩ := hu
            obtain ⟨hP, -, hD1⟩ := hB
            rw [ht] at hP
            have hD := hD1.weaken (fun _ _ _ h => hFc _ h)
            have hN_X : ws[21]? = some (aX, .inr (7, [.int X_code, .int X_side, .ref aXpicture, .ref aXhalf, .int X_many, .ref aXblocks, .int q262.1, .int X_encodedBits, .ref aXencoded, .int X_fedMany, .ref aXfed, .int q261.2.1, .int q261.2.2, .int X_tried, .int X_waiting, .ref aXpile, .int X_decoded, .ref aXnews, .ref aXolds, .ref aXhalves, .ref aXds, .ref aXrs, .ref aXbest, .long X_bestError])) := hN_X
            have hN_Xblocks : ws[24]? = some (aXblocks, .inl (cI, Xblocks_n, .inl q262.2)) := hN_Xblocks
            have hN_Xfed := (hfr _ (by decide)).trans hN_Xfed
            have hN_Xbest := (hfr _ (by decide)).trans hN_Xbest
            have hw := z_frC (by decide) hw hfr
            obtain rfl := Option.some.inj hf
            exact W.vret hx hb hr (fun t ht hW => ⟨⟨ws, rfl, ⟨hN_X, hN_Xblocks, hN_Xbest, hw⟩, by rw [ht]; exact hP, va_K.moved hW.alike hK, hD⟩, hS.F ht⟩) hS.2.2 d_M_readBlock_140
    · have hf := z_f hc hf
      refine lv_iconst (v := 1) hx hb d_M_readBlock_43 (by decide) ?_
      refine lv_goto (tgt := 51) hx hb d_M_readBlock_44 (by decide) ?_
      refine pf_M_166 (v := .int (1 : Int32)) hx hb hts hown hK hP hD hS hN_X rfl rfl (Nat.le_of_ble_eq_true rfl) d_M_readBlock_51 (fun ws H locs hP hD hS hN_X hfr => ?_)
      have hN_X : ws[21]? = some (aX, .inr (7, [.int X_code, .int X_side, .ref aXpicture, .ref aXhalf, .int X_many, .ref aXblocks, .int X_found, .int X_encodedBits, .ref aXencoded, .int X_fedMany, .ref aXfed, .int q242.2.1, .int (1 : Int32), .int X_tried, .int X_waiting, .ref aXpile, .int X_decoded, .ref aXnews, .ref aXolds, .ref aXhalves, .ref aXds, .ref aXrs, .ref aXbest, .long X_bestError])) := hN_X
      have hN_Xblocks := (hfr _ (by decide)).trans hN_Xblocks
      have hN_Xfed := (hfr _ (by decide)).trans hN_Xfed
      have hN_Xbest := (hfr _ (by decide)).trans hN_Xbest
      have hw := z_fr (by decide) hw hfr
      refine lv_aload_n hx hb d_M_readBlock_54 rfl (lv_at hl 0 rfl) ?_
      refine gf_M_43 (v := .ref aXbest) hx hb hts hown hK hP hN_X rfl d_M_readBlock_55 ?_
      refine lv_iconst (v := 1) hx hb d_M_readBlock_58 (by decide) ?_
      refine lv_aload_n hx hb d_M_readBlock_59 rfl (lv_at hl 0 rfl) ?_
      refine lv_iconst (v := 3) hx hb d_M_readBlock_60 (by decide) ?_
      obtain ⟨q263, hc, hf⟩ := z_b hf
      have hFc := z_free hD hS hA
      refine va_calli (va_runV (As := [.int (3 : Int32)]) (rest := [.int (1 : Int32), .ref aXbest]) ⟨hx, hb, hml, hown, hts⟩ (c_M_take l dC dI cI cL _ (3 : Int32) hN_X hN_Xfed q263 hc) (cw_M_175 hts ⟨Nat.le_of_ble_eq_true rfl, Nat.le_of_ble_eq_true rfl⟩) ⟨zbM, va_recv hK hP (ci := 7) rfl hN_X, (zpM hP hK hZ hD)⟩ rfl rfl hl.1 rfl (lv_room (Nat.le_of_ble_eq_true rfl)) d_M_readBlock_61 ⟨Nat.zero_le _, Nat.zero_le _⟩) hS (fun q _ h => hFc q h) hFc (fun rv ws t H locs ht hvm hu hB hz1 hk1 hS => ?_)
      obtain ⟨hv, hN_X, hfr⟩ := hu
      subst hv
      obtain ⟨hP, -, hD1⟩ := hB
      rw [ht] at hP
      have hD := hD1.weaken (fun _ _ _ h => hFc _ h)
      have hN_X : ws[21]? = some (aX, .inr (7, [.int X_code, .int X_side, .ref aXpicture, .ref aXhalf, .int X_many, .ref aXblocks, .int X_found, .int X_encodedBits, .ref aXencoded, .int X_fedMany, .ref aXfed, .int q263.2.1, .int q263.2.2, .int X_tried, .int X_waiting, .ref aXpile, .int X_decoded, .ref aXnews, .ref aXolds, .ref aXhalves, .ref aXds, .ref aXrs, .ref aXbest, .long X_bestError])) := hN_X
      have hN_Xblocks := (hfr _ (by decide)).trans hN_Xblocks
      have hN_Xfed := (hfr _ (by decide)).trans hN_Xfed
      have hN_Xbest := (hfr _ (by decide)).trans hN_Xbest
      have hw := z_frC (by decide) hw hfr
      obtain ⟨hin, hf⟩ := z_no hf
      refine z_iast hx hb hK hP hD hS hN_Xbest rfl hin d_M_readBlock_64 (fun ws H locs hP hD hS hN_Xbest hfr => ?_)
      have hN_Xbest : ws[33]? = some (aXbest, .inl (cI, Xbest_n, .inl (upd (upd Xbest_f (0 : Int32).toNatClampNeg q242.1) (1 : Int32).toNatClampNeg q263.1))) := hN_Xbest
      have hN_X := (hfr _ (by decide)).trans hN_X
      have hN_Xblocks := (hfr _ (by decide)).trans hN_Xblocks
      have hN_Xfed := (hfr _ (by decide)).trans hN_Xfed
      have hw := z_fr (by decide) hw hfr
      refine lv_aload_n hx hb d_M_readBlock_65 rfl (lv_at hl 0 rfl) ?_
      refine gf_M_43 (v := .ref aXbest) hx hb hts hown hK hP hN_X rfl d_M_readBlock_66 ?_
      refine lv_iconst (v := 2) hx hb d_M_readBlock_69 (by decide) ?_
      refine lv_aload_n hx hb d_M_readBlock_70 rfl (lv_at hl 0 rfl) ?_
      refine lv_iconst (v := 4) hx hb d_M_readBlock_71 (by decide) ?_
      obtain ⟨q264, hc, hf⟩ := z_b hf
      have hFc := z_free hD hS hA
      refine va_calli (va_runV (As := [.int (4 : Int32)]) (rest := [.int (2 : Int32), .ref aXbest]) ⟨hx, hb, hml, hown, hts⟩ (c_M_take l dC dI cI cL _ (4 : Int32) hN_X hN_Xfed q264 hc) (cw_M_175 hts ⟨Nat.le_of_ble_eq_true rfl, Nat.le_of_ble_eq_true rfl⟩) ⟨zbM, va_recv hK hP (ci := 7) rfl hN_X, (zpM hP hK hZ hD)⟩ rfl rfl hl.1 rfl (lv_room (Nat.le_of_ble_eq_true rfl)) d_M_readBlock_72 ⟨Nat.zero_le _, Nat.zero_le _⟩) hS (fun q _ h => hFc q h) hFc (fun rv ws t H locs ht hvm hu hB hz1 hk1 hS => ?_)
      obtain ⟨hv, hN_X, hfr⟩ := hu
      subst hv
      obtain ⟨hP, -, hD1⟩ := hB
      rw [ht] at hP
      have hD := hD1.weaken (fun _ _ _ h => hFc _ h)
      have hN_X : ws[21]? = some (aX, .inr (7, [.int X_code, .int X_side, .ref aXpicture, .ref aXhalf, .int X_many, .ref aXblocks, .int X_found, .int X_encodedBits, .ref aXencoded, .int X_fedMany, .ref aXfed, .int q264.2.1, .int q264.2.2, .int X_tried, .int X_waiting, .ref aXpile, .int X_decoded, .ref aXnews, .ref aXolds, .ref aXhalves, .ref aXds, .ref aXrs, .ref aXbest, .long X_bestError])) := hN_X
      have hN_Xblocks := (hfr _ (by decide)).trans hN_Xblocks
      have hN_Xfed := (hfr _ (by decide)).trans hN_Xfed
      have hN_Xbest := (hfr _ (by decide)).trans hN_Xbest
      have hw := z_frC (by decide) hw hfr
      refine lv_bipush (v := 7) hx hb d_M_readBlock_75 (by decide) ?_
      refine lv_isub hx hb d_M_readBlock_77 ?_
      obtain ⟨hin, hf⟩ := z_no hf
      refine z_iast hx hb hK hP hD hS hN_Xbest rfl hin d_M_readBlock_78 (fun ws H locs hP hD hS hN_Xbest hfr => ?_)
      have hN_Xbest : ws[33]? = some (aXbest, .inl (cI, Xbest_n, .inl (upd (upd (upd Xbest_f (0 : Int32).toNatClampNeg q242.1) (1 : Int32).toNatClampNeg q263.1) (2 : Int32).toNatClampNeg (q264.1 - (7 : Int32))))) := hN_Xbest
      have hN_X := (hfr _ (by decide)).trans hN_X
      have hN_Xblocks := (hfr _ (by decide)).trans hN_Xblocks
      have hN_Xfed := (hfr _ (by decide)).trans hN_Xfed
      have hw := z_fr (by decide) hw hfr
      refine lv_aload_n hx hb d_M_readBlock_79 rfl (lv_at hl 0 rfl) ?_
      refine lv_aload_n hx hb d_M_readBlock_80 rfl (lv_at hl 0 rfl) ?_
      refine gf_M_166 (v := .int q264.2.2) hx hb hts hown hK hP hN_X rfl d_M_readBlock_81 ?_
      refine lv_if_ge (tgt := 102) hx hb d_M_readBlock_84 (by decide) (fun hc => ?_) (fun hc => ?_)
      · have hf := z_t hc hf
        refine lv_aload_n hx hb d_M_readBlock_102 rfl (lv_at hl 0 rfl) ?_
        refine gf_M_166 (v := .int q264.2.2) hx hb hts hown hK hP hN_X rfl d_M_readBlock_103 ?_
        refine pf_M_166 (v := .int q264.2.2) hx hb hts hown hK hP hD hS hN_X rfl rfl (Nat.le_of_ble_eq_true rfl) d_M_readBlock_106 (fun ws H locs hP hD hS hN_X hfr => ?_)
        have hN_X : ws[21]? = some (aX, .inr (7, [.int X_code, .int X_side, .ref aXpicture, .ref aXhalf, .int X_many, .ref aXblocks, .int X_found, .int X_encodedBits, .ref aXencoded, .int X_fedMany, .ref aXfed, .int q264.2.1, .int q264.2.2, .int X_tried, .int X_waiting, .ref aXpile, .int X_decoded, .ref aXnews, .ref aXolds, .ref aXhalves, .ref aXds, .ref aXrs, .ref aXbest, .long X_bestError])) := hN_X
        have hN_Xblocks := (hfr _ (by decide)).trans hN_Xblocks
        have hN_Xfed := (hfr _ (by decide)).trans hN_Xfed
        have hN_Xbest := (hfr _ (by decide)).trans hN_Xbest
        have hw := z_fr (by decide) hw hfr
        refine lv_aload_n hx hb d_M_readBlock_109 rfl (lv_at hl 0 rfl) ?_
        refine gf_M_43 (v := .ref aXbest) hx hb hts hown hK hP hN_X rfl d_M_readBlock_110 ?_
        refine lv_iconst (v := 3) hx hb d_M_readBlock_113 (by decide) ?_
        refine lv_aload_n hx hb d_M_readBlock_114 rfl (lv_at hl 0 rfl) ?_
        refine lv_bipush (v := 10) hx hb d_M_readBlock_115 (by decide) ?_
        obtain ⟨q265, hc, hf⟩ := z_b hf
        have hFc := z_free hD hS hA
        refine va_calli (va_runV (As := [.int (10 : Int32)]) (rest := [.int (3 : Int32), .ref aXbest]) ⟨hx, hb, hml, hown, hts⟩ (c_M_take l dC dI cI cL _ (10 : Int32) hN_X hN_Xfed q265 hc) (cw_M_175 hts ⟨Nat.le_of_ble_eq_true rfl, Nat.le_of_ble_eq_true rfl⟩) ⟨zbM, va_recv hK hP (ci := 7) rfl hN_X, (zpM hP hK hZ hD)⟩ rfl rfl hl.1 rfl (lv_room (Nat.le_of_ble_eq_true rfl)) d_M_readBlock_117 ⟨Nat.zero_le _, Nat.zero_le _⟩) hS (fun q _ h => hFc q h) hFc (fun rv ws t H locs ht hvm hu hB hz1 hk1 hS => ?_)
        obtain ⟨hv, hN_X, hfr⟩ := hu
        subst hv
        obtain ⟨hP, -, hD1⟩ := hB
        rw [ht] at hP
        have hD := hD1.weaken (fun _ _ _ h => hFc _ h)
        have hN_X : ws[21]? = some (aX, .inr (7, [.int X_code, .int X_side, .ref aXpicture, .ref aXhalf, .int X_many, .ref aXblocks, .int X_found, .int X_encodedBits, .ref aXencoded, .int X_fedMany, .ref aXfed, .int q265.2.1, .int q265.2.2, .int X_tried, .int X_waiting, .ref aXpile, .int X_decoded, .ref aXnews, .ref aXolds, .ref aXhalves, .ref aXds, .ref aXrs, .ref aXbest, .long X_bestError])) := hN_X
        have hN_Xblocks := (hfr _ (by decide)).trans hN_Xblocks
        have hN_Xfed := (hfr _ (by decide)).trans hN_Xfed
        have hN_Xbest := (hfr _ (by decide)).trans hN_Xbest
        have hw := z_frC (by decide) hw hfr
        refine lv_sipush (v := 256) hx hb d_M_readBlock_120 (by decide) ?_
        refine lv_isub hx hb d_M_readBlock_123 ?_
        obtain ⟨hin, hf⟩ := z_no hf
        refine z_iast hx hb hK hP hD hS hN_Xbest rfl hin d_M_readBlock_124 (fun ws H locs hP hD hS hN_Xbest hfr => ?_)
        have hN_Xbest : ws[33]? = some (aXbest, .inl (cI, Xbest_n, .inl (upd (upd (upd (upd Xbest_f (0 : Int32).toNatClampNeg q242.1) (1 : Int32).toNatClampNeg q263.1) (2 : Int32).toNatClampNeg (q264.1 - (7 : Int32))) (3 : Int32).toNatClampNeg (q265.1 - (256 : Int32))))) := hN_Xbest
        have hN_X := (hfr _ (by decide)).trans hN_X
        have hN_Xblocks := (hfr _ (by decide)).trans hN_Xblocks
        have hN_Xfed := (hfr _ (by decide)).trans hN_Xfed
        have hw := z_fr (by decide) hw hfr
        refine lv_aload_n hx hb d_M_readBlock_125 rfl (lv_at hl 0 rfl) ?_
        refine gf_M_166 (v := .int q265.2.2) hx hb hts hown hK hP hN_X rfl d_M_readBlock_126 ?_
        refine lv_if_ge (tgt := 140) hx hb d_M_readBlock_129 (by decide) (fun hc => ?_) (fun hc => ?_)
        · have hf := z_t hc hf
          obtain rfl := Option.some.inj hf
          exact W.vret hx hb hr (fun t ht hW => ⟨⟨ws, rfl, ⟨hN_X, hN_Xblocks, hN_Xbest, hw⟩, by rw [ht]; exact hP, va_K.moved hW.alike hK, hD⟩, hS.F ht⟩) hS.2.2 d_M_readBlock_140
        · have hf := z_f hc hf
          refine lv_aload_n hx hb d_M_readBlock_132 rfl (lv_at hl 0 rfl) ?_
          refine lv_iload_n hx hb d_M_readBlock_133 rfl (lv_at hl 1 rfl) ?_
          refine lv_iload_n hx hb d_M_readBlock_134 rfl (lv_at hl 2 rfl) ?_
          refine lv_iload_n hx hb d_M_readBlock_135 rfl (lv_at hl 3 rfl) ?_
          refine lv_iconst (v := (-1)) hx hb d_M_readBlock_136 (by decide) ?_
          obtain ⟨q266, hc, hf⟩ := z_b hf
          have hFc := z_free hD hS hA
          refine va_callv (va_runV (As := [.int x1, .int x2, .int x3, .int ((-1) : Int32)]) (rest := []) ⟨hx, hb, hml, hown, hts⟩ (c_M_note l dC dI cI cL _ x1 x2 x3 ((-1) : Int32) hN_X hN_Xblocks hN_Xbest q266 hc) (cw_M_147 hts ⟨Nat.le_of_ble_eq_true rfl, Nat.le_of_ble_eq_true rfl⟩) ⟨zbM, va_recv hK hP (ci := 7) rfl hN_X, (zpM hP hK hZ hD)⟩ rfl rfl hl.1 rfl (lv_room (Nat.le_of_ble_eq_true rfl)) d_M_readBlock_137 ⟨Nat.zero_le _, Nat.zero_le _⟩) hS (fun q _ h => hFc q h) hFc (fun ws t H locs ht hvm hu hB hz1 hk1 hS => ?_)
          obtain ⟨hN_X, hN_Xblocks, hfr⟩ := hu
          obtain ⟨hP, -, hD1⟩ := hB
          rw [ht] at hP
          have hD := hD1.weaken (fun _ _ _ h => hFc _ h)
          have hN_X : ws[21]? = some (aX, .inr (7, [.int X_code, .int X_side, .ref aXpicture, .ref aXhalf, .int X_many, .ref aXblocks, .int q266.1, .int X_encodedBits, .ref aXencoded, .int X_fedMany, .ref aXfed, .int q265.2.1, .int q265.2.2, .int X_tried, .int X_waiting, .ref aXpile, .int X_decoded, .ref aXnews, .ref aXolds, .ref aXhalves, .ref aXds, .ref aXrs, .ref aXbest, .long X_bestError])) := hN_X
          have hN_Xblocks : ws[24]? = some (aXblocks, .inl (cI, Xblocks_n, .inl q266.2)) := hN_Xblocks
          have hN_Xfed := (hfr _ (by decide)).trans hN_Xfed
          have hN_Xbest := (hfr _ (by decide)).trans hN_Xbest
          have hw := z_frC (by decide) hw hfr
          obtain rfl := Option.some.inj hf
          exact W.vret hx hb hr (fun t ht hW => ⟨⟨ws, rfl, ⟨hN_X, hN_Xblocks, hN_Xbest, hw⟩, by rw [ht]; exact hP, va_K.moved hW.alike hK, hD⟩, hS.F ht⟩) hS.2.2 d_M_readBlock_140
      · have hf := z_f hc hf
        refine lv_aload_n hx hb d_M_readBlock_87 rfl (lv_at hl 0 rfl) ?_
        refine gf_M_43 (v := .ref aXbest) hx hb hts hown hK hP hN_X rfl d_M_readBlock_88 ?_
        refine lv_iconst (v := 2) hx hb d_M_readBlock_91 (by decide) ?_
        obtain ⟨hin, hf⟩ := z_no hf
        refine va_iald hx hb hK hP _ 0 hN_Xbest rfl hin d_M_readBlock_92 ?_
        refine lv_bipush (v := 7) hx hb d_M_readBlock_93 (by decide) ?_
        refine lv_icmp_le (tgt := 102) hx hb d_M_readBlock_95 (by decide) (fun hc => ?_) (fun hc => ?_)
        · have hf := z_t hc hf
          refine lv_aload_n hx hb d_M_readBlock_102 rfl (lv_at hl 0 rfl) ?_
          refine gf_M_166 (v := .int q264.2.2) hx hb hts hown hK hP hN_X rfl d_M_readBlock_103 ?_
          refine pf_M_166 (v := .int q264.2.2) hx hb hts hown hK hP hD hS hN_X rfl rfl (Nat.le_of_ble_eq_true rfl) d_M_readBlock_106 (fun ws H locs hP hD hS hN_X hfr => ?_)
          have hN_X : ws[21]? = some (aX, .inr (7, [.int X_code, .int X_side, .ref aXpicture, .ref aXhalf, .int X_many, .ref aXblocks, .int X_found, .int X_encodedBits, .ref aXencoded, .int X_fedMany, .ref aXfed, .int q264.2.1, .int q264.2.2, .int X_tried, .int X_waiting, .ref aXpile, .int X_decoded, .ref aXnews, .ref aXolds, .ref aXhalves, .ref aXds, .ref aXrs, .ref aXbest, .long X_bestError])) := hN_X
          have hN_Xblocks := (hfr _ (by decide)).trans hN_Xblocks
          have hN_Xfed := (hfr _ (by decide)).trans hN_Xfed
          have hN_Xbest := (hfr _ (by decide)).trans hN_Xbest
          have hw := z_fr (by decide) hw hfr
          refine lv_aload_n hx hb d_M_readBlock_109 rfl (lv_at hl 0 rfl) ?_
          refine gf_M_43 (v := .ref aXbest) hx hb hts hown hK hP hN_X rfl d_M_readBlock_110 ?_
          refine lv_iconst (v := 3) hx hb d_M_readBlock_113 (by decide) ?_
          refine lv_aload_n hx hb d_M_readBlock_114 rfl (lv_at hl 0 rfl) ?_
          refine lv_bipush (v := 10) hx hb d_M_readBlock_115 (by decide) ?_
          obtain ⟨q267, hc, hf⟩ := z_b hf
          have hFc := z_free hD hS hA
          refine va_calli (va_runV (As := [.int (10 : Int32)]) (rest := [.int (3 : Int32), .ref aXbest]) ⟨hx, hb, hml, hown, hts⟩ (c_M_take l dC dI cI cL _ (10 : Int32) hN_X hN_Xfed q267 hc) (cw_M_175 hts ⟨Nat.le_of_ble_eq_true rfl, Nat.le_of_ble_eq_true rfl⟩) ⟨zbM, va_recv hK hP (ci := 7) rfl hN_X, (zpM hP hK hZ hD)⟩ rfl rfl hl.1 rfl (lv_room (Nat.le_of_ble_eq_true rfl)) d_M_readBlock_117 ⟨Nat.zero_le _, Nat.zero_le _⟩) hS (fun q _ h => hFc q h) hFc (fun rv ws t H locs ht hvm hu hB hz1 hk1 hS => ?_)
          obtain ⟨hv, hN_X, hfr⟩ := hu
          subst hv
          obtain ⟨hP, -, hD1⟩ := hB
          rw [ht] at hP
          have hD := hD1.weaken (fun _ _ _ h => hFc _ h)
          have hN_X : ws[21]? = some (aX, .inr (7, [.int X_code, .int X_side, .ref aXpicture, .ref aXhalf, .int X_many, .ref aXblocks, .int X_found, .int X_encodedBits, .ref aXencoded, .int X_fedMany, .ref aXfed, .int q267.2.1, .int q267.2.2, .int X_tried, .int X_waiting, .ref aXpile, .int X_decoded, .ref aXnews, .ref aXolds, .ref aXhalves, .ref aXds, .ref aXrs, .ref aXbest, .long X_bestError])) := hN_X
          have hN_Xblocks := (hfr _ (by decide)).trans hN_Xblocks
          have hN_Xfed := (hfr _ (by decide)).trans hN_Xfed
          have hN_Xbest := (hfr _ (by decide)).trans hN_Xbest
          have hw := z_frC (by decide) hw hfr
          refine lv_sipush (v := 256) hx hb d_M_readBlock_120 (by decide) ?_
          refine lv_isub hx hb d_M_readBlock_123 ?_
          obtain ⟨hin, hf⟩ := z_no hf
          refine z_iast hx hb hK hP hD hS hN_Xbest rfl hin d_M_readBlock_124 (fun ws H locs hP hD hS hN_Xbest hfr => ?_)
          have hN_Xbest : ws[33]? = some (aXbest, .inl (cI, Xbest_n, .inl (upd (upd (upd (upd Xbest_f (0 : Int32).toNatClampNeg q242.1) (1 : Int32).toNatClampNeg q263.1) (2 : Int32).toNatClampNeg (q264.1 - (7 : Int32))) (3 : Int32).toNatClampNeg (q267.1 - (256 : Int32))))) := hN_Xbest
          have hN_X := (hfr _ (by decide)).trans hN_X
          have hN_Xblocks := (hfr _ (by decide)).trans hN_Xblocks
          have hN_Xfed := (hfr _ (by decide)).trans hN_Xfed
          have hw := z_fr (by decide) hw hfr
          refine lv_aload_n hx hb d_M_readBlock_125 rfl (lv_at hl 0 rfl) ?_
          refine gf_M_166 (v := .int q267.2.2) hx hb hts hown hK hP hN_X rfl d_M_readBlock_126 ?_
          refine lv_if_ge (tgt := 140) hx hb d_M_readBlock_129 (by decide) (fun hc => ?_) (fun hc => ?_)
          · have hf := z_t hc hf
            obtain rfl := Option.some.inj hf
            exact W.vret hx hb hr (fun t ht hW => ⟨⟨ws, rfl, ⟨hN_X, hN_Xblocks, hN_Xbest, hw⟩, by rw [ht]; exact hP, va_K.moved hW.alike hK, hD⟩, hS.F ht⟩) hS.2.2 d_M_readBlock_140
          · have hf := z_f hc hf
            refine lv_aload_n hx hb d_M_readBlock_132 rfl (lv_at hl 0 rfl) ?_
            refine lv_iload_n hx hb d_M_readBlock_133 rfl (lv_at hl 1 rfl) ?_
            refine lv_iload_n hx hb d_M_readBlock_134 rfl (lv_at hl 2 rfl) ?_
            refine lv_iload_n hx hb d_M_readBlock_135 rfl (lv_at hl 3 rfl) ?_
            refine lv_iconst (v := (-1)) hx hb d_M_readBlock_136 (by decide) ?_
            obtain ⟨q268, hc, hf⟩ := z_b hf
            have hFc := z_free hD hS hA
            refine va_callv (va_runV (As := [.int x1, .int x2, .int x3, .int ((-1) : Int32)]) (rest := []) ⟨hx, hb, hml, hown, hts⟩ (c_M_note l dC dI cI cL _ x1 x2 x3 ((-1) : Int32) hN_X hN_Xblocks hN_Xbest q268 hc) (cw_M_147 hts ⟨Nat.le_of_ble_eq_true rfl, Nat.le_of_ble_eq_true rfl⟩) ⟨zbM, va_recv hK hP (ci := 7) rfl hN_X, (zpM hP hK hZ hD)⟩ rfl rfl hl.1 rfl (lv_room (Nat.le_of_ble_eq_true rfl)) d_M_readBlock_137 ⟨Nat.zero_le _, Nat.zero_le _⟩) hS (fun q _ h => hFc q h) hFc (fun ws t H locs ht hvm hu hB hz1 hk1 hS => ?_)
            obtain ⟨hN_X, hN_Xblocks, hfr⟩ := hu
            obtain ⟨hP, -, hD1⟩ := hB
            rw [ht] at hP
            have hD := hD1.weaken (fun _ _ _ h => hFc _ h)
            have hN_X : ws[21]? = some (aX, .inr (7, [.int X_code, .int X_side, .ref aXpicture, .ref aXhalf, .int X_many, .ref aXblocks, .int q268.1, .int X_encodedBits, .ref aXencoded, .int X_fedMany, .ref aXfed, .int q267.2.1, .int q267.2.2, .int X_tried, .int X_waiting, .ref aXpile, .int X_decoded, .ref aXnews, .ref aXolds, .ref aXhalves, .ref aXds, .ref aXrs, .ref aXbest, .long X_bestError])) := hN_X
            have hN_Xblocks : ws[24]? = some (aXblocks, .inl (cI, Xblocks_n, .inl q268.2)) := hN_Xblocks
            have hN_Xfed := (hfr _ (by decide)).trans hN_Xfed
            have hN_Xbest := (hfr _ (by decide)).trans hN_Xbest
            have hw := z_frC (by decide) hw hfr
            obtain rfl := Option.some.inj hf
            exact W.vret hx hb hr (fun t ht hW => ⟨⟨ws, rfl, ⟨hN_X, hN_Xblocks, hN_Xbest, hw⟩, by rw [ht]; exact hP, va_K.moved hW.alike hK, hD⟩, hS.F ht⟩) hS.2.2 d_M_readBlock_140
        · have hf := z_f hc hf
          refine lv_iconst (v := 2) hx hb d_M_readBlock_98 (by decide) ?_
          refine lv_goto (tgt := 106) hx hb d_M_readBlock_99 (by decide) ?_
          refine pf_M_166 (v := .int (2 : Int32)) hx hb hts hown hK hP hD hS hN_X rfl rfl (Nat.le_of_ble_eq_true rfl) d_M_readBlock_106 (fun ws H locs hP hD hS hN_X hfr => ?_)
          have hN_X : ws[21]? = some (aX, .inr (7, [.int X_code, .int X_side, .ref aXpicture, .ref aXhalf, .int X_many, .ref aXblocks, .int X_found, .int X_encodedBits, .ref aXencoded, .int X_fedMany, .ref aXfed, .int q264.2.1, .int (2 : Int32), .int X_tried, .int X_waiting, .ref aXpile, .int X_decoded, .ref aXnews, .ref aXolds, .ref aXhalves, .ref aXds, .ref aXrs, .ref aXbest, .long X_bestError])) := hN_X
          have hN_Xblocks := (hfr _ (by decide)).trans hN_Xblocks
          have hN_Xfed := (hfr _ (by decide)).trans hN_Xfed
          have hN_Xbest := (hfr _ (by decide)).trans hN_Xbest
          have hw := z_fr (by decide) hw hfr
          refine lv_aload_n hx hb d_M_readBlock_109 rfl (lv_at hl 0 rfl) ?_
          refine gf_M_43 (v := .ref aXbest) hx hb hts hown hK hP hN_X rfl d_M_readBlock_110 ?_
          refine lv_iconst (v := 3) hx hb d_M_readBlock_113 (by decide) ?_
          refine lv_aload_n hx hb d_M_readBlock_114 rfl (lv_at hl 0 rfl) ?_
          refine lv_bipush (v := 10) hx hb d_M_readBlock_115 (by decide) ?_
          obtain ⟨q269, hc, hf⟩ := z_b hf
          have hFc := z_free hD hS hA
          refine va_calli (va_runV (As := [.int (10 : Int32)]) (rest := [.int (3 : Int32), .ref aXbest]) ⟨hx, hb, hml, hown, hts⟩ (c_M_take l dC dI cI cL _ (10 : Int32) hN_X hN_Xfed q269 hc) (cw_M_175 hts ⟨Nat.le_of_ble_eq_true rfl, Nat.le_of_ble_eq_true rfl⟩) ⟨zbM, va_recv hK hP (ci := 7) rfl hN_X, (zpM hP hK hZ hD)⟩ rfl rfl hl.1 rfl (lv_room (Nat.le_of_ble_eq_true rfl)) d_M_readBlock_117 ⟨Nat.zero_le _, Nat.zero_le _⟩) hS (fun q _ h => hFc q h) hFc (fun rv ws t H locs ht hvm hu hB hz1 hk1 hS => ?_)
          obtain ⟨hv, hN_X, hfr⟩ := hu
          subst hv
          obtain ⟨hP, -, hD1⟩ := hB
          rw [ht] at hP
          have hD := hD1.weaken (fun _ _ _ h => hFc _ h)
          have hN_X : ws[21]? = some (aX, .inr (7, [.int X_code, .int X_side, .ref aXpicture, .ref aXhalf, .int X_many, .ref aXblocks, .int X_found, .int X_encodedBits, .ref aXencoded, .int X_fedMany, .ref aXfed, .int q269.2.1, .int q269.2.2, .int X_tried, .int X_waiting, .ref aXpile, .int X_decoded, .ref aXnews, .ref aXolds, .ref aXhalves, .ref aXds, .ref aXrs, .ref aXbest, .long X_bestError])) := hN_X
          have hN_Xblocks := (hfr _ (by decide)).trans hN_Xblocks
          have hN_Xfed := (hfr _ (by decide)).trans hN_Xfed
          have hN_Xbest := (hfr _ (by decide)).trans hN_Xbest
          have hw := z_frC (by decide) hw hfr
          refine lv_sipush (v := 256) hx hb d_M_readBlock_120 (by decide) ?_
          refine lv_isub hx hb d_M_readBlock_123 ?_
          obtain ⟨hin, hf⟩ := z_no hf
          refine z_iast hx hb hK hP hD hS hN_Xbest rfl hin d_M_readBlock_124 (fun ws H locs hP hD hS hN_Xbest hfr => ?_)
          have hN_Xbest : ws[33]? = some (aXbest, .inl (cI, Xbest_n, .inl (upd (upd (upd (upd Xbest_f (0 : Int32).toNatClampNeg q242.1) (1 : Int32).toNatClampNeg q263.1) (2 : Int32).toNatClampNeg (q264.1 - (7 : Int32))) (3 : Int32).toNatClampNeg (q269.1 - (256 : Int32))))) := hN_Xbest
          have hN_X := (hfr _ (by decide)).trans hN_X
          have hN_Xblocks := (hfr _ (by decide)).trans hN_Xblocks
          have hN_Xfed := (hfr _ (by decide)).trans hN_Xfed
          have hw := z_fr (by decide) hw hfr
          refine lv_aload_n hx hb d_M_readBlock_125 rfl (lv_at hl 0 rfl) ?_
          refine gf_M_166 (v := .int q269.2.2) hx hb hts hown hK hP hN_X rfl d_M_readBlock_126 ?_
          refine lv_if_ge (tgt := 140) hx hb d_M_readBlock_129 (by decide) (fun hc => ?_) (fun hc => ?_)
          · have hf := z_t hc hf
            obtain rfl := Option.some.inj hf
            exact W.vret hx hb hr (fun t ht hW => ⟨⟨ws, rfl, ⟨hN_X, hN_Xblocks, hN_Xbest, hw⟩, by rw [ht]; exact hP, va_K.moved hW.alike hK, hD⟩, hS.F ht⟩) hS.2.2 d_M_readBlock_140
          · have hf := z_f hc hf
            refine lv_aload_n hx hb d_M_readBlock_132 rfl (lv_at hl 0 rfl) ?_
            refine lv_iload_n hx hb d_M_readBlock_133 rfl (lv_at hl 1 rfl) ?_
            refine lv_iload_n hx hb d_M_readBlock_134 rfl (lv_at hl 2 rfl) ?_
            refine lv_iload_n hx hb d_M_readBlock_135 rfl (lv_at hl 3 rfl) ?_
            refine lv_iconst (v := (-1)) hx hb d_M_readBlock_136 (by decide) ?_
            obtain ⟨q270, hc, hf⟩ := z_b hf
            have hFc := z_free hD hS hA
            refine va_callv (va_runV (As := [.int x1, .int x2, .int x3, .int ((-1) : Int32)]) (rest := []) ⟨hx, hb, hml, hown, hts⟩ (c_M_note l dC dI cI cL _ x1 x2 x3 ((-1) : Int32) hN_X hN_Xblocks hN_Xbest q270 hc) (cw_M_147 hts ⟨Nat.le_of_ble_eq_true rfl, Nat.le_of_ble_eq_true rfl⟩) ⟨zbM, va_recv hK hP (ci := 7) rfl hN_X, (zpM hP hK hZ hD)⟩ rfl rfl hl.1 rfl (lv_room (Nat.le_of_ble_eq_true rfl)) d_M_readBlock_137 ⟨Nat.zero_le _, Nat.zero_le _⟩) hS (fun q _ h => hFc q h) hFc (fun ws t H locs ht hvm hu hB hz1 hk1 hS => ?_)
            obtain ⟨hN_X, hN_Xblocks, hfr⟩ := hu
            obtain ⟨hP, -, hD1⟩ := hB
            rw [ht] at hP
            have hD := hD1.weaken (fun _ _ _ h => hFc _ h)
            have hN_X : ws[21]? = some (aX, .inr (7, [.int X_code, .int X_side, .ref aXpicture, .ref aXhalf, .int X_many, .ref aXblocks, .int q270.1, .int X_encodedBits, .ref aXencoded, .int X_fedMany, .ref aXfed, .int q269.2.1, .int q269.2.2, .int X_tried, .int X_waiting, .ref aXpile, .int X_decoded, .ref aXnews, .ref aXolds, .ref aXhalves, .ref aXds, .ref aXrs, .ref aXbest, .long X_bestError])) := hN_X
            have hN_Xblocks : ws[24]? = some (aXblocks, .inl (cI, Xblocks_n, .inl q270.2)) := hN_Xblocks
            have hN_Xfed := (hfr _ (by decide)).trans hN_Xfed
            have hN_Xbest := (hfr _ (by decide)).trans hN_Xbest
            have hw := z_frC (by decide) hw hfr
            obtain rfl := Option.some.inj hf
            exact W.vret hx hb hr (fun t ht hW => ⟨⟨ws, rfl, ⟨hN_X, hN_Xblocks, hN_Xbest, hw⟩, by rw [ht]; exact hP, va_K.moved hW.alike hK, hD⟩, hS.F ht⟩) hS.2.2 d_M_readBlock_140
