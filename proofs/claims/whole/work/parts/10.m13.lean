def f_M_domain (x1 : Int32) (x2 : Int32) (x3 : Int32) (x4 : Int32) (x5 : Int32) (X_code : Int32) (X_side : Int32) (Xpicture_n : Nat) (Xpicture_f : Nat → Int32) (Xhalf_n : Nat) (Xhalf_f : Nat → Int32) (Xds_n : Nat) (Xds_f : Nat → Int32) : Option (Int32 × Int32 × (Nat → Int32) × (Nat → Int32)) := (f_M_isSize x1).bind (fun q431 => if q431 = 0 then (if (1 : Int32) = 0 then ((f_M_domains x1 X_side).bind (fun q435 => (f_M_domains x1 X_side).bind (fun q437 => (f_M_in x2.toInt64 (0 : Int64) (((q435 * q437) - (1 : Int32)).toInt64)).bind (fun q439 => if q439 = 0 then (if (2 : Int32) ≤ 0 then ((f_M_halve X_side Xpicture_n Xpicture_f Xhalf_n Xhalf_f).bind (fun q441 => (f_M_layDomain x1 x2 x3 X_side Xhalf_n q441 Xds_n Xds_f).bind (fun q442 => if ((x1 * x5) + x4) < 0 ∨ Xds_n ≤ ((x1 * x5) + x4).toNatClampNeg then none else (some ((q442 ((x1 * x5) + x4).toNatClampNeg), (2 : Int32), q441, q442))))) else (some ((0 : Int32), (2 : Int32), Xhalf_f, Xds_f))) else ((f_M_in x4.toInt64 (0 : Int64) ((x1 - (1 : Int32)).toInt64)).bind (fun q443 => if q443 = 0 then (if (2 : Int32) ≤ 0 then ((f_M_halve X_side Xpicture_n Xpicture_f Xhalf_n Xhalf_f).bind (fun q445 => (f_M_layDomain x1 x2 x3 X_side Xhalf_n q445 Xds_n Xds_f).bind (fun q446 => if ((x1 * x5) + x4) < 0 ∨ Xds_n ≤ ((x1 * x5) + x4).toNatClampNeg then none else (some ((q446 ((x1 * x5) + x4).toNatClampNeg), (2 : Int32), q445, q446))))) else (some ((0 : Int32), (2 : Int32), Xhalf_f, Xds_f))) else ((f_M_in x5.toInt64 (0 : Int64) ((x1 - (1 : Int32)).toInt64)).bind (fun q447 => if q447 = 0 then (if (2 : Int32) ≤ 0 then ((f_M_halve X_side Xpicture_n Xpicture_f Xhalf_n Xhalf_f).bind (fun q449 => (f_M_layDomain x1 x2 x3 X_side Xhalf_n q449 Xds_n Xds_f).bind (fun q450 => if ((x1 * x5) + x4) < 0 ∨ Xds_n ≤ ((x1 * x5) + x4).toNatClampNeg then none else (some ((q450 ((x1 * x5) + x4).toNatClampNeg), (2 : Int32), q449, q450))))) else (some ((0 : Int32), (2 : Int32), Xhalf_f, Xds_f))) else (if (0 : Int32) ≤ 0 then ((f_M_halve X_side Xpicture_n Xpicture_f Xhalf_n Xhalf_f).bind (fun q451 => (f_M_layDomain x1 x2 x3 X_side Xhalf_n q451 Xds_n Xds_f).bind (fun q452 => if ((x1 * x5) + x4) < 0 ∨ Xds_n ≤ ((x1 * x5) + x4).toNatClampNeg then none else (some ((q452 ((x1 * x5) + x4).toNatClampNeg), (0 : Int32), q451, q452))))) else (some ((0 : Int32), (0 : Int32), Xhalf_f, Xds_f))))))))))) else (if (1 : Int32) ≤ 0 then ((f_M_halve X_side Xpicture_n Xpicture_f Xhalf_n Xhalf_f).bind (fun q433 => (f_M_layDomain x1 x2 x3 X_side Xhalf_n q433 Xds_n Xds_f).bind (fun q434 => if ((x1 * x5) + x4) < 0 ∨ Xds_n ≤ ((x1 * x5) + x4).toNatClampNeg then none else (some ((q434 ((x1 * x5) + x4).toNatClampNeg), (1 : Int32), q433, q434))))) else (some ((0 : Int32), (1 : Int32), Xhalf_f, Xds_f)))) else (if X_side < ((2 : Int32) * x1) then (if (1 : Int32) = 0 then ((f_M_domains x1 X_side).bind (fun q455 => (f_M_domains x1 X_side).bind (fun q457 => (f_M_in x2.toInt64 (0 : Int64) (((q455 * q457) - (1 : Int32)).toInt64)).bind (fun q459 => if q459 = 0 then (if (2 : Int32) ≤ 0 then ((f_M_halve X_side Xpicture_n Xpicture_f Xhalf_n Xhalf_f).bind (fun q461 => (f_M_layDomain x1 x2 x3 X_side Xhalf_n q461 Xds_n Xds_f).bind (fun q462 => if ((x1 * x5) + x4) < 0 ∨ Xds_n ≤ ((x1 * x5) + x4).toNatClampNeg then none else (some ((q462 ((x1 * x5) + x4).toNatClampNeg), (2 : Int32), q461, q462))))) else (some ((0 : Int32), (2 : Int32), Xhalf_f, Xds_f))) else ((f_M_in x4.toInt64 (0 : Int64) ((x1 - (1 : Int32)).toInt64)).bind (fun q463 => if q463 = 0 then (if (2 : Int32) ≤ 0 then ((f_M_halve X_side Xpicture_n Xpicture_f Xhalf_n Xhalf_f).bind (fun q465 => (f_M_layDomain x1 x2 x3 X_side Xhalf_n q465 Xds_n Xds_f).bind (fun q466 => if ((x1 * x5) + x4) < 0 ∨ Xds_n ≤ ((x1 * x5) + x4).toNatClampNeg then none else (some ((q466 ((x1 * x5) + x4).toNatClampNeg), (2 : Int32), q465, q466))))) else (some ((0 : Int32), (2 : Int32), Xhalf_f, Xds_f))) else ((f_M_in x5.toInt64 (0 : Int64) ((x1 - (1 : Int32)).toInt64)).bind (fun q467 => if q467 = 0 then (if (2 : Int32) ≤ 0 then ((f_M_halve X_side Xpicture_n Xpicture_f Xhalf_n Xhalf_f).bind (fun q469 => (f_M_layDomain x1 x2 x3 X_side Xhalf_n q469 Xds_n Xds_f).bind (fun q470 => if ((x1 * x5) + x4) < 0 ∨ Xds_n ≤ ((x1 * x5) + x4).toNatClampNeg then none else (some ((q470 ((x1 * x5) + x4).toNatClampNeg), (2 : Int32), q469, q470))))) else (some ((0 : Int32), (2 : Int32), Xhalf_f, Xds_f))) else (if (0 : Int32) ≤ 0 then ((f_M_halve X_side Xpicture_n Xpicture_f Xhalf_n Xhalf_f).bind (fun q471 => (f_M_layDomain x1 x2 x3 X_side Xhalf_n q471 Xds_n Xds_f).bind (fun q472 => if ((x1 * x5) + x4) < 0 ∨ Xds_n ≤ ((x1 * x5) + x4).toNatClampNeg then none else (some ((q472 ((x1 * x5) + x4).toNatClampNeg), (0 : Int32), q471, q472))))) else (some ((0 : Int32), (0 : Int32), Xhalf_f, Xds_f))))))))))) else (if (1 : Int32) ≤ 0 then ((f_M_halve X_side Xpicture_n Xpicture_f Xhalf_n Xhalf_f).bind (fun q453 => (f_M_layDomain x1 x2 x3 X_side Xhalf_n q453 Xds_n Xds_f).bind (fun q454 => if ((x1 * x5) + x4) < 0 ∨ Xds_n ≤ ((x1 * x5) + x4).toNatClampNeg then none else (some ((q454 ((x1 * x5) + x4).toNatClampNeg), (1 : Int32), q453, q454))))) else (some ((0 : Int32), (1 : Int32), Xhalf_f, Xds_f)))) else ((f_M_in x3.toInt64 (0 : Int64) (7 : Int64)).bind (fun q473 => if q473 = 0 then (if (1 : Int32) = 0 then ((f_M_domains x1 X_side).bind (fun q497 => (f_M_domains x1 X_side).bind (fun q499 => (f_M_in x2.toInt64 (0 : Int64) (((q497 * q499) - (1 : Int32)).toInt64)).bind (fun q501 => if q501 = 0 then (if (2 : Int32) ≤ 0 then ((f_M_halve X_side Xpicture_n Xpicture_f Xhalf_n Xhalf_f).bind (fun q503 => (f_M_layDomain x1 x2 x3 X_side Xhalf_n q503 Xds_n Xds_f).bind (fun q504 => if ((x1 * x5) + x4) < 0 ∨ Xds_n ≤ ((x1 * x5) + x4).toNatClampNeg then none else (some ((q504 ((x1 * x5) + x4).toNatClampNeg), (2 : Int32), q503, q504))))) else (some ((0 : Int32), (2 : Int32), Xhalf_f, Xds_f))) else ((f_M_in x4.toInt64 (0 : Int64) ((x1 - (1 : Int32)).toInt64)).bind (fun q505 => if q505 = 0 then (if (2 : Int32) ≤ 0 then ((f_M_halve X_side Xpicture_n Xpicture_f Xhalf_n Xhalf_f).bind (fun q507 => (f_M_layDomain x1 x2 x3 X_side Xhalf_n q507 Xds_n Xds_f).bind (fun q508 => if ((x1 * x5) + x4) < 0 ∨ Xds_n ≤ ((x1 * x5) + x4).toNatClampNeg then none else (some ((q508 ((x1 * x5) + x4).toNatClampNeg), (2 : Int32), q507, q508))))) else (some ((0 : Int32), (2 : Int32), Xhalf_f, Xds_f))) else ((f_M_in x5.toInt64 (0 : Int64) ((x1 - (1 : Int32)).toInt64)).bind (fun q509 => if q509 = 0 then (if (2 : Int32) ≤ 0 then ((f_M_halve X_side Xpicture_n Xpicture_f Xhalf_n Xhalf_f).bind (fun q511 => (f_M_layDomain x1 x2 x3 X_side Xhalf_n q511 Xds_n Xds_f).bind (fun q512 => if ((x1 * x5) + x4) < 0 ∨ Xds_n ≤ ((x1 * x5) + x4).toNatClampNeg then none else (some ((q512 ((x1 * x5) + x4).toNatClampNeg), (2 : Int32), q511, q512))))) else (some ((0 : Int32), (2 : Int32), Xhalf_f, Xds_f))) else (if (0 : Int32) ≤ 0 then ((f_M_halve X_side Xpicture_n Xpicture_f Xhalf_n Xhalf_f).bind (fun q513 => (f_M_layDomain x1 x2 x3 X_side Xhalf_n q513 Xds_n Xds_f).bind (fun q514 => if ((x1 * x5) + x4) < 0 ∨ Xds_n ≤ ((x1 * x5) + x4).toNatClampNeg then none else (some ((q514 ((x1 * x5) + x4).toNatClampNeg), (0 : Int32), q513, q514))))) else (some ((0 : Int32), (0 : Int32), Xhalf_f, Xds_f))))))))))) else (if (1 : Int32) ≤ 0 then ((f_M_halve X_side Xpicture_n Xpicture_f Xhalf_n Xhalf_f).bind (fun q495 => (f_M_layDomain x1 x2 x3 X_side Xhalf_n q495 Xds_n Xds_f).bind (fun q496 => if ((x1 * x5) + x4) < 0 ∨ Xds_n ≤ ((x1 * x5) + x4).toNatClampNeg then none else (some ((q496 ((x1 * x5) + x4).toNatClampNeg), (1 : Int32), q495, q496))))) else (some ((0 : Int32), (1 : Int32), Xhalf_f, Xds_f)))) else (if (0 : Int32) = 0 then ((f_M_domains x1 X_side).bind (fun q477 => (f_M_domains x1 X_side).bind (fun q479 => (f_M_in x2.toInt64 (0 : Int64) (((q477 * q479) - (1 : Int32)).toInt64)).bind (fun q481 => if q481 = 0 then (if (2 : Int32) ≤ 0 then ((f_M_halve X_side Xpicture_n Xpicture_f Xhalf_n Xhalf_f).bind (fun q483 => (f_M_layDomain x1 x2 x3 X_side Xhalf_n q483 Xds_n Xds_f).bind (fun q484 => if ((x1 * x5) + x4) < 0 ∨ Xds_n ≤ ((x1 * x5) + x4).toNatClampNeg then none else (some ((q484 ((x1 * x5) + x4).toNatClampNeg), (2 : Int32), q483, q484))))) else (some ((0 : Int32), (2 : Int32), Xhalf_f, Xds_f))) else ((f_M_in x4.toInt64 (0 : Int64) ((x1 - (1 : Int32)).toInt64)).bind (fun q485 => if q485 = 0 then (if (2 : Int32) ≤ 0 then ((f_M_halve X_side Xpicture_n Xpicture_f Xhalf_n Xhalf_f).bind (fun q487 => (f_M_layDomain x1 x2 x3 X_side Xhalf_n q487 Xds_n Xds_f).bind (fun q488 => if ((x1 * x5) + x4) < 0 ∨ Xds_n ≤ ((x1 * x5) + x4).toNatClampNeg then none else (some ((q488 ((x1 * x5) + x4).toNatClampNeg), (2 : Int32), q487, q488))))) else (some ((0 : Int32), (2 : Int32), Xhalf_f, Xds_f))) else ((f_M_in x5.toInt64 (0 : Int64) ((x1 - (1 : Int32)).toInt64)).bind (fun q489 => if q489 = 0 then (if (2 : Int32) ≤ 0 then ((f_M_halve X_side Xpicture_n Xpicture_f Xhalf_n Xhalf_f).bind (fun q491 => (f_M_layDomain x1 x2 x3 X_side Xhalf_n q491 Xds_n Xds_f).bind (fun q492 => if ((x1 * x5) + x4) < 0 ∨ Xds_n ≤ ((x1 * x5) + x4).toNatClampNeg then none else (some ((q492 ((x1 * x5) + x4).toNatClampNeg), (2 : Int32), q491, q492))))) else (some ((0 : Int32), (2 : Int32), Xhalf_f, Xds_f))) else (if (0 : Int32) ≤ 0 then ((f_M_halve X_side Xpicture_n Xpicture_f Xhalf_n Xhalf_f).bind (fun q493 => (f_M_layDomain x1 x2 x3 X_side Xhalf_n q493 Xds_n Xds_f).bind (fun q494 => if ((x1 * x5) + x4) < 0 ∨ Xds_n ≤ ((x1 * x5) + x4).toNatClampNeg then none else (some ((q494 ((x1 * x5) + x4).toNatClampNeg), (0 : Int32), q493, q494))))) else (some ((0 : Int32), (0 : Int32), Xhalf_f, Xds_f))))))))))) else (if (0 : Int32) ≤ 0 then ((f_M_halve X_side Xpicture_n Xpicture_f Xhalf_n Xhalf_f).bind (fun q475 => (f_M_layDomain x1 x2 x3 X_side Xhalf_n q475 Xds_n Xds_f).bind (fun q476 => if ((x1 * x5) + x4) < 0 ∨ Xds_n ≤ ((x1 * x5) + x4).toNatClampNeg then none else (some ((q476 ((x1 * x5) + x4).toNatClampNeg), (0 : Int32), q475, q476))))) else (some ((0 : Int32), (0 : Int32), Xhalf_f, Xds_f))))))))
set_option maxHeartbeats 4000000 in
set_option maxRecDepth 100000 in
theorem c_M_domain (l : Launch) (dC : Nat → ClassId) (dI : Nat → Nat → Nat) (cI cL : ClassId) {ws0 : va_W} (sz : Nat) {aX aXpicture aXhalf aXblocks aXencoded aXfed aXpile aXnews aXolds aXhalves aXds aXrs aXbest : Nat} {X_code X_side X_many X_found X_encodedBits X_fedMany X_readAt X_why X_tried X_waiting X_decoded : Int32} {X_bestError : Int64} {Xpicture_n Xhalf_n Xds_n : Nat} {Xpicture_f Xhalf_f Xds_f : Nat → Int32} (x1 : Int32) (x2 : Int32) (x3 : Int32) (x4 : Int32) (x5 : Int32) (hN_X : ws0[21]? = some (aX, .inr (7, [.int X_code, .int X_side, .ref aXpicture, .ref aXhalf, .int X_many, .ref aXblocks, .int X_found, .int X_encodedBits, .ref aXencoded, .int X_fedMany, .ref aXfed, .int X_readAt, .int X_why, .int X_tried, .int X_waiting, .ref aXpile, .int X_decoded, .ref aXnews, .ref aXolds, .ref aXhalves, .ref aXds, .ref aXrs, .ref aXbest, .long X_bestError]))) (hN_Xpicture : ws0[22]? = some (aXpicture, .inl (cI, Xpicture_n, .inl Xpicture_f))) (hN_Xhalf : ws0[23]? = some (aXhalf, .inl (cI, Xhalf_n, .inl Xhalf_f))) (hN_Xds : ws0[31]? = some (aXds, .inl (cI, Xds_n, .inl Xds_f))) (r : Int32 × Int32 × (Nat → Int32) × (Nat → Int32)) (hf : f_M_domain x1 x2 x3 x4 x5 X_code X_side Xpicture_n Xpicture_f Xhalf_n Xhalf_f Xds_n Xds_f = some r) : Met l y_M_domain w_M_domain rm_M_domain (va_Pc [.ref aX, .int x1, .int x2, .int x3, .int x4, .int x5] (zM dC dI cI cL ws0 sz)) (va_Qi (fun (v : Int32) (ws' : va_W) => v = r.1 ∧ ws'[21]? = some (aX, .inr (7, [.int r.2.1, .int X_side, .ref aXpicture, .ref aXhalf, .int X_many, .ref aXblocks, .int X_found, .int X_encodedBits, .ref aXencoded, .int X_fedMany, .ref aXfed, .int X_readAt, .int X_why, .int X_tried, .int X_waiting, .ref aXpile, .int X_decoded, .ref aXnews, .ref aXolds, .ref aXhalves, .ref aXds, .ref aXrs, .ref aXbest, .long X_bestError])) ∧ ws'[23]? = some (aXhalf, .inl (cI, Xhalf_n, .inl r.2.2.1)) ∧ ws'[31]? = some (aXds, .inl (cI, Xds_n, .inl r.2.2.2)) ∧ ∀ j, j ∉ [21, 23, 31] → ws'[j]? = ws0[j]?) (zQ dC dI cI cL (va_A ws0 sz)) (va_A ws0 sz)) 0 0 (va_A ws0 sz) := by
  refine Met.ofW (cc := b_M_domain) (maxL := 7) (ret := some .int) (by decide) rfl ?_
  intro p e s m args below meth c s₁ B hml hv
  obtain ⟨rfl, hsz, hP, hK, hZ, hD0⟩ := hv
  have hx := B.exec
  have hb := B.bytes
  have hr := B.returns
  have hlocks := B.notSynchronized
  have hts : ∀ w ∈ BIG, w.before ([.ref aX, .int x1, .int x2, .int x3, .int x4, .int x5] : List Value).toArray s = true := fun w h => atoms_spec (ws := w_M_domain) B.pre w (List.mem_cons_of_mem _ h)
  have hown : s.vm.findClass "FractalMapsModel" = some m.cls := findClass_of_methodNamed B.named
  subst hsz
  have hD := hD0.self (sz := s.heap.size)
  generalize hAe : va_A ws0 s.heap.size = A at hD ⊢
  have hA : ∀ q : Nat, s.heap.size ≤ q → A q := fun q h => by rw [← hAe]; exact Or.inr h
  have hS : va_S A s.heap s.heap [] := va_S.rf
  have hw : ∀ j, j ∉ [21, 23, 31] → ws0[j]? = ws0[j]? := fun _ _ => rfl
  have hl := lv_entry ([.ref aX, .int x1, .int x2, .int x3, .int x4, .int x5]) (n := 7) (Nat.le_of_ble_eq_true rfl)
  rw [lg_entry_eq]
  generalize (lg_sl ([.ref aX, .int x1, .int x2, .int x3, .int x4, .int x5]) ++ List.replicate (7 - (lg_sl ([.ref aX, .int x1, .int x2, .int x3, .int x4, .int x5])).length) Slot.unset).toArray = ls at hl ⊢
  have hl : lv_has ls 7 [(0, .ref aX), (1, .int x1), (2, .int x2), (3, .int x3), (4, .int x4), (5, .int x5)] := hl
  unfold f_M_domain at hf
  refine lv_aload_n hx hb d_M_domain_0 rfl (lv_at hl 0 rfl) ?_
  refine lv_iload_n hx hb d_M_domain_1 rfl (lv_at hl 1 rfl) ?_
  obtain ⟨q431, hc, hf⟩ := z_b hf
  refine vp_callSi (z_cr (va_runS (As := [.int x1]) (rest := [.ref aX]) ⟨hx, hb, hml, hown, hts⟩ (c_M_isSize l x1 q431 hc) (cw_M_129 hts ⟨Nat.le_of_ble_eq_true rfl, Nat.le_of_ble_eq_true rfl⟩) ⟨zb0, zp0⟩ rfl rfl hl.1 rfl (lv_room (Nat.le_of_ble_eq_true rfl)) d_M_domain_2 ⟨Nat.zero_le _, Nat.zero_le _⟩)) (fun r432 hv => ?_)
  have hv := hv.symm
  subst hv
  refine lv_if_eq (tgt := 30) hx hb d_M_domain_5 (by decide) (fun hc => ?_) (fun hc => ?_)
  · have hf := z_t hc hf
    refine lv_iconst (v := 1) hx hb d_M_domain_30 (by decide) ?_
    refine lv_goto (tgt := 35) hx hb d_M_domain_31 (by decide) ?_
    refine pf_M_50 (v := .int (1 : Int32)) hx hb hts hown hK hP hD hS hN_X rfl rfl (Nat.le_of_ble_eq_true rfl) d_M_domain_35 (fun ws H locs hP hD hS hN_X hfr => ?_)
    have hN_X : ws[21]? = some (aX, .inr (7, [.int (1 : Int32), .int X_side, .ref aXpicture, .ref aXhalf, .int X_many, .ref aXblocks, .int X_found, .int X_encodedBits, .ref aXencoded, .int X_fedMany, .ref aXfed, .int X_readAt, .int X_why, .int X_tried, .int X_waiting, .ref aXpile, .int X_decoded, .ref aXnews, .ref aXolds, .ref aXhalves, .ref aXds, .ref aXrs, .ref aXbest, .long X_bestError])) := hN_X
    have hN_Xpicture := (hfr _ (by decide)).trans hN_Xpicture
    have hN_Xhalf := (hfr _ (by decide)).trans hN_Xhalf
    have hN_Xds := (hfr _ (by decide)).trans hN_Xds
    have hw := z_fr (by decide) hw hfr
    refine lv_aload_n hx hb d_M_domain_38 rfl (lv_at hl 0 rfl) ?_
    refine gf_M_50 (v := .int (1 : Int32)) hx hb hts hown hK hP hN_X rfl d_M_domain_39 ?_
    refine lv_if_ne (tgt := 109) hx hb d_M_domain_42 (by decide) (fun hc => ?_) (fun hc => ?_)
    · have hf := z_f hc hf
      refine lv_aload_n hx hb d_M_domain_109 rfl (lv_at hl 0 rfl) ?_
      refine gf_M_50 (v := .int (1 : Int32)) hx hb hts hown hK hP hN_X rfl d_M_domain_110 ?_
      refine lv_if_le (tgt := 118) hx hb d_M_domain_113 (by decide) (fun hc => ?_) (fun hc => ?_)
      · have hf := z_t hc hf
        refine lv_aload_n hx hb d_M_domain_118 rfl (lv_at hl 0 rfl) ?_
        refine gf_M_7 (v := .ref aXpicture) hx hb hts hown hK hP hN_X rfl d_M_domain_119 ?_
        refine lv_aload_n hx hb d_M_domain_122 rfl (lv_at hl 0 rfl) ?_
        refine gf_M_46 (v := .int X_side) hx hb hts hown hK hP hN_X rfl d_M_domain_123 ?_
        refine lv_aload_n hx hb d_M_domain_126 rfl (lv_at hl 0 rfl) ?_
        refine gf_M_13 (v := .ref aXhalf) hx hb hts hown hK hP hN_X rfl d_M_domain_127 ?_
        obtain ⟨q433, hc, hf⟩ := z_b hf
        have hFc := z_free hD hS hA
        refine va_callv (va_runS (As := [.ref aXpicture, .int X_side, .ref aXhalf]) (rest := []) ⟨hx, hb, hml, hown, hts⟩ (c_M_halve l dC dI cI cL _ X_side hN_Xpicture hN_Xhalf (by decide) q433 hc) (cw_M_133 hts ⟨Nat.le_of_ble_eq_true rfl, Nat.le_of_ble_eq_true rfl⟩) ⟨zbM, (zpM hP hK hZ hD)⟩ rfl rfl hl.1 rfl (lv_room (Nat.le_of_ble_eq_true rfl)) d_M_domain_130 ⟨Nat.zero_le _, Nat.zero_le _⟩) hS (fun q _ h => hFc q h) hFc (fun ws t H locs ht hvm hu hB hz1 hk1 hS => ?_)
        obtain ⟨hN_Xhalf, hfr⟩ := hu
        obtain ⟨hP, -, hD1⟩ := hB
        rw [ht] at hP
        have hD := hD1.weaken (fun _ _ _ h => hFc _ h)
        have hN_Xhalf : ws[23]? = some (aXhalf, .inl (cI, Xhalf_n, .inl q433)) := hN_Xhalf
        have hN_X := (hfr _ (by decide)).trans hN_X
        have hN_Xpicture := (hfr _ (by decide)).trans hN_Xpicture
        have hN_Xds := (hfr _ (by decide)).trans hN_Xds
        have hw := z_frC (by decide) hw hfr
        refine lv_aload_n hx hb d_M_domain_133 rfl (lv_at hl 0 rfl) ?_
        refine lv_iload_n hx hb d_M_domain_134 rfl (lv_at hl 1 rfl) ?_
        refine lv_iload_n hx hb d_M_domain_135 rfl (lv_at hl 2 rfl) ?_
        refine lv_iload_n hx hb d_M_domain_136 rfl (lv_at hl 3 rfl) ?_
        obtain ⟨q434, hc, hf⟩ := z_b hf
        have hFc := z_free hD hS hA
        refine va_callv (va_runV (As := [.int x1, .int x2, .int x3]) (rest := []) ⟨hx, hb, hml, hown, hts⟩ (c_M_layDomain l dC dI cI cL _ x1 x2 x3 hN_X hN_Xhalf hN_Xds q434 hc) (cw_M_105 hts ⟨Nat.le_of_ble_eq_true rfl, Nat.le_of_ble_eq_true rfl⟩) ⟨zbM, va_recv hK hP (ci := 7) rfl hN_X, (zpM hP hK hZ hD)⟩ rfl rfl hl.1 rfl (lv_room (Nat.le_of_ble_eq_true rfl)) d_M_domain_137 ⟨Nat.zero_le _, Nat.zero_le _⟩) hS (fun q _ h => hFc q h) hFc (fun ws t H locs ht hvm hu hB hz1 hk1 hS => ?_)
        obtain ⟨hN_Xds, hfr⟩ := hu
        obtain ⟨hP, -, hD1⟩ := hB
        rw [ht] at hP
        have hD := hD1.weaken (fun _ _ _ h => hFc _ h)
        have hN_Xds : ws[31]? = some (aXds, .inl (cI, Xds_n, .inl q434)) := hN_Xds
        have hN_X := (hfr _ (by decide)).trans hN_X
        have hN_Xpicture := (hfr _ (by decide)).trans hN_Xpicture
        have hN_Xhalf := (hfr _ (by decide)).trans hN_Xhalf
        have hw := z_frC (by decide) hw hfr
        refine lv_aload_n hx hb d_M_domain_140 rfl (lv_at hl 0 rfl) ?_
        refine gf_M_37 (v := .ref aXds) hx hb hts hown hK hP hN_X rfl d_M_domain_141 ?_
        refine lv_iload_n hx hb d_M_domain_144 rfl (lv_at hl 1 rfl) ?_
        refine lv_iload hx hb d_M_domain_145 (lv_at hl 5 rfl) ?_
        refine lv_imul hx hb d_M_domain_147 ?_
        refine lv_iload hx hb d_M_domain_148 (lv_at hl 4 rfl) ?_
        refine lv_iadd hx hb d_M_domain_150 ?_
        obtain ⟨hin, hf⟩ := z_no hf
        refine va_iald hx hb hK hP _ 0 hN_Xds rfl hin d_M_domain_151 ?_
        obtain rfl := Option.some.inj hf
        exact W.iret hx hb hr (fun t ht hW => ⟨⟨_, ws, rfl, ⟨rfl, hN_X, hN_Xhalf, hN_Xds, hw⟩, by rw [ht]; exact hP, va_K.moved hW.alike hK, hD⟩, hS.F ht⟩) hS.2.2 d_M_domain_152
      · have hf := z_f hc hf
        refine lv_iconst (v := 0) hx hb d_M_domain_116 (by decide) ?_
        obtain rfl := Option.some.inj hf
        exact W.iret hx hb hr (fun t ht hW => ⟨⟨_, ws, rfl, ⟨rfl, hN_X, hN_Xhalf, hN_Xds, hw⟩, by rw [ht]; exact hP, va_K.moved hW.alike hK, hD⟩, hS.F ht⟩) hS.2.2 d_M_domain_117
    · have hf := z_t hc hf
      refine lv_aload_n hx hb d_M_domain_45 rfl (lv_at hl 0 rfl) ?_
      refine lv_iload_n hx hb d_M_domain_46 rfl (lv_at hl 1 rfl) ?_
      obtain ⟨q435, hc, hf⟩ := z_b hf
      refine vp_callSi (z_cr (va_runV (As := [.int x1]) (rest := []) ⟨hx, hb, hml, hown, hts⟩ (c_M_domains l dC dI cI cL x1 hN_X q435 hc) (cw_M_69 hts ⟨Nat.le_of_ble_eq_true rfl, Nat.le_of_ble_eq_true rfl⟩) ⟨zbR, va_recv hK hP (ci := 7) rfl hN_X, (zpR hP hK hZ)⟩ rfl rfl hl.1 rfl (lv_room (Nat.le_of_ble_eq_true rfl)) d_M_domain_47 ⟨Nat.zero_le _, Nat.zero_le _⟩)) (fun r436 hv => ?_)
      have hv := hv.symm
      subst hv
      refine lv_aload_n hx hb d_M_domain_50 rfl (lv_at hl 0 rfl) ?_
      refine lv_iload_n hx hb d_M_domain_51 rfl (lv_at hl 1 rfl) ?_
      obtain ⟨q437, hc, hf⟩ := z_b hf
      refine vp_callSi (z_cr (va_runV (As := [.int x1]) (rest := [.int q435]) ⟨hx, hb, hml, hown, hts⟩ (c_M_domains l dC dI cI cL x1 hN_X q437 hc) (cw_M_69 hts ⟨Nat.le_of_ble_eq_true rfl, Nat.le_of_ble_eq_true rfl⟩) ⟨zbR, va_recv hK hP (ci := 7) rfl hN_X, (zpR hP hK hZ)⟩ rfl rfl hl.1 rfl (lv_room (Nat.le_of_ble_eq_true rfl)) d_M_domain_52 ⟨Nat.zero_le _, Nat.zero_le _⟩)) (fun r438 hv => ?_)
      have hv := hv.symm
      subst hv
      refine lv_imul hx hb d_M_domain_55 ?_
      refine lv_istore (lv' := [(6, .int (q435 * q437)), (0, .ref aX), (1, .int x1), (2, .int x2), (3, .int x3), (4, .int x4), (5, .int x5)]) hx hb d_M_domain_56 hl (by decide) rfl (fun ls hl => ?_)
      refine lv_aload_n hx hb d_M_domain_58 rfl (lv_at hl 1 rfl) ?_
      refine lv_iload_n hx hb d_M_domain_59 rfl (lv_at hl 3 rfl) ?_
      refine lv_i2l hx hb d_M_domain_60 rfl ?_
      refine lv_lconst (v := 0) hx hb d_M_domain_61 (by decide) ?_
      refine lv_iload hx hb d_M_domain_62 (lv_at hl 0 rfl) ?_
      refine lv_iconst (v := 1) hx hb d_M_domain_64 (by decide) ?_
      refine lv_isub hx hb d_M_domain_65 ?_
      refine lv_i2l hx hb d_M_domain_66 rfl ?_
      obtain ⟨q439, hc, hf⟩ := z_b hf
      refine vp_callSi (z_cr (va_runS (As := [.long x2.toInt64, .long (0 : Int64), .long (((q435 * q437) - (1 : Int32)).toInt64)]) (rest := [.ref aX]) ⟨hx, hb, hml, hown, hts⟩ (c_M_in l x2.toInt64 (0 : Int64) (((q435 * q437) - (1 : Int32)).toInt64) q439 hc) (cw_M_55 hts ⟨Nat.le_of_ble_eq_true rfl, Nat.le_of_ble_eq_true rfl⟩) ⟨zb0, zp0⟩ rfl rfl hl.1 rfl (lv_room (Nat.le_of_ble_eq_true rfl)) d_M_domain_67 ⟨Nat.zero_le _, Nat.zero_le _⟩)) (fun r440 hv => ?_)
      have hv := hv.symm
      subst hv
      refine lv_if_eq (tgt := 105) hx hb d_M_domain_70 (by decide) (fun hc => ?_) (fun hc => ?_)
      · have hf := z_t hc hf
        refine lv_iconst (v := 2) hx hb d_M_domain_105 (by decide) ?_
        refine pf_M_50 (v := .int (2 : Int32)) hx hb hts hown hK hP hD hS hN_X rfl rfl (Nat.le_of_ble_eq_true rfl) d_M_domain_106 (fun ws H locs hP hD hS hN_X hfr => ?_)
        have hN_X : ws[21]? = some (aX, .inr (7, [.int (2 : Int32), .int X_side, .ref aXpicture, .ref aXhalf, .int X_many, .ref aXblocks, .int X_found, .int X_encodedBits, .ref aXencoded, .int X_fedMany, .ref aXfed, .int X_readAt, .int X_why, .int X_tried, .int X_waiting, .ref aXpile, .int X_decoded, .ref aXnews, .ref aXolds, .ref aXhalves, .ref aXds, .ref aXrs, .ref aXbest, .long X_bestError])) := hN_X
        have hN_Xpicture := (hfr _ (by decide)).trans hN_Xpicture
        have hN_Xhalf := (hfr _ (by decide)).trans hN_Xhalf
        have hN_Xds := (hfr _ (by decide)).trans hN_Xds
        have hw := z_fr (by decide) hw hfr
        refine lv_aload_n hx hb d_M_domain_109 rfl (lv_at hl 1 rfl) ?_
        refine gf_M_50 (v := .int (2 : Int32)) hx hb hts hown hK hP hN_X rfl d_M_domain_110 ?_
        refine lv_if_le (tgt := 118) hx hb d_M_domain_113 (by decide) (fun hc => ?_) (fun hc => ?_)
        · have hf := z_t hc hf
          refine lv_aload_n hx hb d_M_domain_118 rfl (lv_at hl 1 rfl) ?_
          refine gf_M_7 (v := .ref aXpicture) hx hb hts hown hK hP hN_X rfl d_M_domain_119 ?_
          refine lv_aload_n hx hb d_M_domain_122 rfl (lv_at hl 1 rfl) ?_
          refine gf_M_46 (v := .int X_side) hx hb hts hown hK hP hN_X rfl d_M_domain_123 ?_
          refine lv_aload_n hx hb d_M_domain_126 rfl (lv_at hl 1 rfl) ?_
          refine gf_M_13 (v := .ref aXhalf) hx hb hts hown hK hP hN_X rfl d_M_domain_127 ?_
          obtain ⟨q441, hc, hf⟩ := z_b hf
          have hFc := z_free hD hS hA
          refine va_callv (va_runS (As := [.ref aXpicture, .int X_side, .ref aXhalf]) (rest := []) ⟨hx, hb, hml, hown, hts⟩ (c_M_halve l dC dI cI cL _ X_side hN_Xpicture hN_Xhalf (by decide) q441 hc) (cw_M_133 hts ⟨Nat.le_of_ble_eq_true rfl, Nat.le_of_ble_eq_true rfl⟩) ⟨zbM, (zpM hP hK hZ hD)⟩ rfl rfl hl.1 rfl (lv_room (Nat.le_of_ble_eq_true rfl)) d_M_domain_130 ⟨Nat.zero_le _, Nat.zero_le _⟩) hS (fun q _ h => hFc q h) hFc (fun ws t H locs ht hvm hu hB hz1 hk1 hS => ?_)
          obtain ⟨hN_Xhalf, hfr⟩ := hu
          obtain ⟨hP, -, hD1⟩ := hB
          rw [ht] at hP
          have hD := hD1.weaken (fun _ _ _ h => hFc _ h)
          have hN_Xhalf : ws[23]? = some (aXhalf, .inl (cI, Xhalf_n, .inl q441)) := hN_Xhalf
          have hN_X := (hfr _ (by decide)).trans hN_X
          have hN_Xpicture := (hfr _ (by decide)).trans hN_Xpicture
          have hN_Xds := (hfr _ (by decide)).trans hN_Xds
          have hw := z_frC (by decide) hw hfr
          refine lv_aload_n hx hb d_M_domain_133 rfl (lv_at hl 1 rfl) ?_
          refine lv_iload_n hx hb d_M_domain_134 rfl (lv_at hl 2 rfl) ?_
          refine lv_iload_n hx hb d_M_domain_135 rfl (lv_at hl 3 rfl) ?_
          refine lv_iload_n hx hb d_M_domain_136 rfl (lv_at hl 4 rfl) ?_
          obtain ⟨q442, hc, hf⟩ := z_b hf
          have hFc := z_free hD hS hA
          refine va_callv (va_runV (As := [.int x1, .int x2, .int x3]) (rest := []) ⟨hx, hb, hml, hown, hts⟩ (c_M_layDomain l dC dI cI cL _ x1 x2 x3 hN_X hN_Xhalf hN_Xds q442 hc) (cw_M_105 hts ⟨Nat.le_of_ble_eq_true rfl, Nat.le_of_ble_eq_true rfl⟩) ⟨zbM, va_recv hK hP (ci := 7) rfl hN_X, (zpM hP hK hZ hD)⟩ rfl rfl hl.1 rfl (lv_room (Nat.le_of_ble_eq_true rfl)) d_M_domain_137 ⟨Nat.zero_le _, Nat.zero_le _⟩) hS (fun q _ h => hFc q h) hFc (fun ws t H locs ht hvm hu hB hz1 hk1 hS => ?_)
          obtain ⟨hN_Xds, hfr⟩ := hu
          obtain ⟨hP, -, hD1⟩ := hB
          rw [ht] at hP
          have hD := hD1.weaken (fun _ _ _ h => hFc _ h)
          have hN_Xds : ws[31]? = some (aXds, .inl (cI, Xds_n, .inl q442)) := hN_Xds
          have hN_X := (hfr _ (by decide)).trans hN_X
          have hN_Xpicture := (hfr _ (by decide)).trans hN_Xpicture
          have hN_Xhalf := (hfr _ (by decide)).trans hN_Xhalf
          have hw := z_frC (by decide) hw hfr
          refine lv_aload_n hx hb d_M_domain_140 rfl (lv_at hl 1 rfl) ?_
          refine gf_M_37 (v := .ref aXds) hx hb hts hown hK hP hN_X rfl d_M_domain_141 ?_
          refine lv_iload_n hx hb d_M_domain_144 rfl (lv_at hl 2 rfl) ?_
          refine lv_iload hx hb d_M_domain_145 (lv_at hl 6 rfl) ?_
          refine lv_imul hx hb d_M_domain_147 ?_
          refine lv_iload hx hb d_M_domain_148 (lv_at hl 5 rfl) ?_
          refine lv_iadd hx hb d_M_domain_150 ?_
          obtain ⟨hin, hf⟩ := z_no hf
          refine va_iald hx hb hK hP _ 0 hN_Xds rfl hin d_M_domain_151 ?_
          obtain rfl := Option.some.inj hf
          exact W.iret hx hb hr (fun t ht hW => ⟨⟨_, ws, rfl, ⟨rfl, hN_X, hN_Xhalf, hN_Xds, hw⟩, by rw [ht]; exact hP, va_K.moved hW.alike hK, hD⟩, hS.F ht⟩) hS.2.2 d_M_domain_152
        · have hf := z_f hc hf
          refine lv_iconst (v := 0) hx hb d_M_domain_116 (by decide) ?_
          obtain rfl := Option.some.inj hf
          exact W.iret hx hb hr (fun t ht hW => ⟨⟨_, ws, rfl, ⟨rfl, hN_X, hN_Xhalf, hN_Xds, hw⟩, by rw [ht]; exact hP, va_K.moved hW.alike hK, hD⟩, hS.F ht⟩) hS.2.2 d_M_domain_117
      · have hf := z_f hc hf
        refine lv_iload hx hb d_M_domain_73 (lv_at hl 5 rfl) ?_
        refine lv_i2l hx hb d_M_domain_75 rfl ?_
        refine lv_lconst (v := 0) hx hb d_M_domain_76 (by decide) ?_
        refine lv_iload_n hx hb d_M_domain_77 rfl (lv_at hl 2 rfl) ?_
        refine lv_iconst (v := 1) hx hb d_M_domain_78 (by decide) ?_
        refine lv_isub hx hb d_M_domain_79 ?_
        refine lv_i2l hx hb d_M_domain_80 rfl ?_
        obtain ⟨q443, hc, hf⟩ := z_b hf
        refine vp_callSi (z_cr (va_runS (As := [.long x4.toInt64, .long (0 : Int64), .long ((x1 - (1 : Int32)).toInt64)]) (rest := [.ref aX]) ⟨hx, hb, hml, hown, hts⟩ (c_M_in l x4.toInt64 (0 : Int64) ((x1 - (1 : Int32)).toInt64) q443 hc) (cw_M_55 hts ⟨Nat.le_of_ble_eq_true rfl, Nat.le_of_ble_eq_true rfl⟩) ⟨zb0, zp0⟩ rfl rfl hl.1 rfl (lv_room (Nat.le_of_ble_eq_true rfl)) d_M_domain_81 ⟨Nat.zero_le _, Nat.zero_le _⟩)) (fun r444 hv => ?_)
        have hv := hv.symm
        subst hv
        refine lv_if_eq (tgt := 105) hx hb d_M_domain_84 (by decide) (fun hc => ?_) (fun hc => ?_)
        · have hf := z_t hc hf
          refine lv_iconst (v := 2) hx hb d_M_domain_105 (by decide) ?_
          refine pf_M_50 (v := .int (2 : Int32)) hx hb hts hown hK hP hD hS hN_X rfl rfl (Nat.le_of_ble_eq_true rfl) d_M_domain_106 (fun ws H locs hP hD hS hN_X hfr => ?_)
          have hN_X : ws[21]? = some (aX, .inr (7, [.int (2 : Int32), .int X_side, .ref aXpicture, .ref aXhalf, .int X_many, .ref aXblocks, .int X_found, .int X_encodedBits, .ref aXencoded, .int X_fedMany, .ref aXfed, .int X_readAt, .int X_why, .int X_tried, .int X_waiting, .ref aXpile, .int X_decoded, .ref aXnews, .ref aXolds, .ref aXhalves, .ref aXds, .ref aXrs, .ref aXbest, .long X_bestError])) := hN_X
          have hN_Xpicture := (hfr _ (by decide)).trans hN_Xpicture
          have hN_Xhalf := (hfr _ (by decide)).trans hN_Xhalf
          have hN_Xds := (hfr _ (by decide)).trans hN_Xds
          have hw := z_fr (by decide) hw hfr
          refine lv_aload_n hx hb d_M_domain_109 rfl (lv_at hl 1 rfl) ?_
          refine gf_M_50 (v := .int (2 : Int32)) hx hb hts hown hK hP hN_X rfl d_M_domain_110 ?_
          refine lv_if_le (tgt := 118) hx hb d_M_domain_113 (by decide) (fun hc => ?_) (fun hc => ?_)
          · have hf := z_t hc hf
            refine lv_aload_n hx hb d_M_domain_118 rfl (lv_at hl 1 rfl) ?_
            refine gf_M_7 (v := .ref aXpicture) hx hb hts hown hK hP hN_X rfl d_M_domain_119 ?_
            refine lv_aload_n hx hb d_M_domain_122 rfl (lv_at hl 1 rfl) ?_
            refine gf_M_46 (v := .int X_side) hx hb hts hown hK hP hN_X rfl d_M_domain_123 ?_
            refine lv_aload_n hx hb d_M_domain_126 rfl (lv_at hl 1 rfl) ?_
            refine gf_M_13 (v := .ref aXhalf) hx hb hts hown hK hP hN_X rfl d_M_domain_127 ?_
            obtain ⟨q445, hc, hf⟩ := z_b hf
            have hFc := z_free hD hS hA
            refine va_callv (va_runS (As := [.ref aXpicture, .int X_side, .ref aXhalf]) (rest := []) ⟨hx, hb, hml, hown, hts⟩ (c_M_halve l dC dI cI cL _ X_side hN_Xpicture hN_Xhalf (by decide) q445 hc) (cw_M_133 hts ⟨Nat.le_of_ble_eq_true rfl, Nat.le_of_ble_eq_true rfl⟩) ⟨zbM, (zpM hP hK hZ hD)⟩ rfl rfl hl.1 rfl (lv_room (Nat.le_of_ble_eq_true rfl)) d_M_domain_130 ⟨Nat.zero_le _, Nat.zero_le _⟩) hS (fun q _ h => hFc q h) hFc (fun ws t H locs ht hvm hu hB hz1 hk1 hS => ?_)
            obtain ⟨hN_Xhalf, hfr⟩ := hu
            obtain ⟨hP, -, hD1⟩ := hB
            rw [ht] at hP
            have hD := hD1.weaken (fun _ _ _ h => hFc _ h)
            have hN_Xhalf : ws[23]? = some (aXhalf, .inl (cI, Xhalf_n, .inl q445)) := hN_Xhalf
            have hN_X := (hfr _ (by decide)).trans hN_X
            have hN_Xpicture := (hfr _ (by decide)).trans hN_Xpicture
            have hN_Xds := (hfr _ (by decide)).trans hN_Xds
            have hw := z_frC (by decide) hw hfr
            refine lv_aload_n hx hb d_M_domain_133 rfl (lv_at hl 1 rfl) ?_
            refine lv_iload_n hx hb d_M_domain_134 rfl (lv_at hl 2 rfl) ?_
            refine lv_iload_n hx hb d_M_domain_135 rfl (lv_at hl 3 rfl) ?_
            refine lv_iload_n hx hb d_M_domain_136 rfl (lv_at hl 4 rfl) ?_
            obtain ⟨q446, hc, hf⟩ := z_b hf
            have hFc := z_free hD hS hA
            refine va_callv (va_runV (As := [.int x1, .int x2, .int x3]) (rest := []) ⟨hx, hb, hml, hown, hts⟩ (c_M_layDomain l dC dI cI cL _ x1 x2 x3 hN_X hN_Xhalf hN_Xds q446 hc) (cw_M_105 hts ⟨Nat.le_of_ble_eq_true rfl, Nat.le_of_ble_eq_true rfl⟩) ⟨zbM, va_recv hK hP (ci := 7) rfl hN_X, (zpM hP hK hZ hD)⟩ rfl rfl hl.1 rfl (lv_room (Nat.le_of_ble_eq_true rfl)) d_M_domain_137 ⟨Nat.zero_le _, Nat.zero_le _⟩) hS (fun q _ h => hFc q h) hFc (fun ws t H locs ht hvm hu hB hz1 hk1 hS => ?_)
            obtain ⟨hN_Xds, hfr⟩ := hu
            obtain ⟨hP, -, hD1⟩ := hB
            rw [ht] at hP
            have hD := hD1.weaken (fun _ _ _ h => hFc _ h)
            have hN_Xds : ws[31]? = some (aXds, .inl (cI, Xds_n, .inl q446)) := hN_Xds
            have hN_X := (hfr _ (by decide)).trans hN_X
            have hN_Xpicture := (hfr _ (by decide)).trans hN_Xpicture
            have hN_Xhalf := (hfr _ (by decide)).trans hN_Xhalf
            have hw := z_frC (by decide) hw hfr
            refine lv_aload_n hx hb d_M_domain_140 rfl (lv_at hl 1 rfl) ?_
            refine gf_M_37 (v := .ref aXds) hx hb hts hown hK hP hN_X rfl d_M_domain_141 ?_
            refine lv_iload_n hx hb d_M_domain_144 rfl (lv_at hl 2 rfl) ?_
            refine lv_iload hx hb d_M_domain_145 (lv_at hl 6 rfl) ?_
            refine lv_imul hx hb d_M_domain_147 ?_
            refine lv_iload hx hb d_M_domain_148 (lv_at hl 5 rfl) ?_
            refine lv_iadd hx hb d_M_domain_150 ?_
            obtain ⟨hin, hf⟩ := z_no hf
            refine va_iald hx hb hK hP _ 0 hN_Xds rfl hin d_M_domain_151 ?_
            obtain rfl := Option.some.inj hf
            exact W.iret hx hb hr (fun t ht hW => ⟨⟨_, ws, rfl, ⟨rfl, hN_X, hN_Xhalf, hN_Xds, hw⟩, by rw [ht]; exact hP, va_K.moved hW.alike hK, hD⟩, hS.F ht⟩) hS.2.2 d_M_domain_152
          · have hf := z_f hc hf
            refine lv_iconst (v := 0) hx hb d_M_domain_116 (by decide) ?_
            obtain rfl := Option.some.inj hf
            exact W.iret hx hb hr (fun t ht hW => ⟨⟨_, ws, rfl, ⟨rfl, hN_X, hN_Xhalf, hN_Xds, hw⟩, by rw [ht]; exact hP, va_K.moved hW.alike hK, hD⟩, hS.F ht⟩) hS.2.2 d_M_domain_117
        · have hf := z_f hc hf
          refine lv_iload hx hb d_M_domain_87 (lv_at hl 6 rfl) ?_
          refine lv_i2l hx hb d_M_domain_89 rfl ?_
          refine lv_lconst (v := 0) hx hb d_M_domain_90 (by decide) ?_
          refine lv_iload_n hx hb d_M_domain_91 rfl (lv_at hl 2 rfl) ?_
          refine lv_iconst (v := 1) hx hb d_M_domain_92 (by decide) ?_
          refine lv_isub hx hb d_M_domain_93 ?_
          refine lv_i2l hx hb d_M_domain_94 rfl ?_
          obtain ⟨q447, hc, hf⟩ := z_b hf
          refine vp_callSi (z_cr (va_runS (As := [.long x5.toInt64, .long (0 : Int64), .long ((x1 - (1 : Int32)).toInt64)]) (rest := [.ref aX]) ⟨hx, hb, hml, hown, hts⟩ (c_M_in l x5.toInt64 (0 : Int64) ((x1 - (1 : Int32)).toInt64) q447 hc) (cw_M_55 hts ⟨Nat.le_of_ble_eq_true rfl, Nat.le_of_ble_eq_true rfl⟩) ⟨zb0, zp0⟩ rfl rfl hl.1 rfl (lv_room (Nat.le_of_ble_eq_true rfl)) d_M_domain_95 ⟨Nat.zero_le _, Nat.zero_le _⟩)) (fun r448 hv => ?_)
          have hv := hv.symm
          subst hv
          refine lv_if_eq (tgt := 105) hx hb d_M_domain_98 (by decide) (fun hc => ?_) (fun hc => ?_)
          · have hf := z_t hc hf
            refine lv_iconst (v := 2) hx hb d_M_domain_105 (by decide) ?_
            refine pf_M_50 (v := .int (2 : Int32)) hx hb hts hown hK hP hD hS hN_X rfl rfl (Nat.le_of_ble_eq_true rfl) d_M_domain_106 (fun ws H locs hP hD hS hN_X hfr => ?_)
            have hN_X : ws[21]? = some (aX, .inr (7, [.int (2 : Int32), .int X_side, .ref aXpicture, .ref aXhalf, .int X_many, .ref aXblocks, .int X_found, .int X_encodedBits, .ref aXencoded, .int X_fedMany, .ref aXfed, .int X_readAt, .int X_why, .int X_tried, .int X_waiting, .ref aXpile, .int X_decoded, .ref aXnews, .ref aXolds, .ref aXhalves, .ref aXds, .ref aXrs, .ref aXbest, .long X_bestError])) := hN_X
            have hN_Xpicture := (hfr _ (by decide)).trans hN_Xpicture
            have hN_Xhalf := (hfr _ (by decide)).trans hN_Xhalf
            have hN_Xds := (hfr _ (by decide)).trans hN_Xds
            have hw := z_fr (by decide) hw hfr
            refine lv_aload_n hx hb d_M_domain_109 rfl (lv_at hl 1 rfl) ?_
            refine gf_M_50 (v := .int (2 : Int32)) hx hb hts hown hK hP hN_X rfl d_M_domain_110 ?_
            refine lv_if_le (tgt := 118) hx hb d_M_domain_113 (by decide) (fun hc => ?_) (fun hc => ?_)
            · have hf := z_t hc hf
              refine lv_aload_n hx hb d_M_domain_118 rfl (lv_at hl 1 rfl) ?_
              refine gf_M_7 (v := .ref aXpicture) hx hb hts hown hK hP hN_X rfl d_M_domain_119 ?_
              refine lv_aload_n hx hb d_M_domain_122 rfl (lv_at hl 1 rfl) ?_
              refine gf_M_46 (v := .int X_side) hx hb hts hown hK hP hN_X rfl d_M_domain_123 ?_
              refine lv_aload_n hx hb d_M_domain_126 rfl (lv_at hl 1 rfl) ?_
              refine gf_M_13 (v := .ref aXhalf) hx hb hts hown hK hP hN_X rfl d_M_domain_127 ?_
              obtain ⟨q449, hc, hf⟩ := z_b hf
              have hFc := z_free hD hS hA
              refine va_callv (va_runS (As := [.ref aXpicture, .int X_side, .ref aXhalf]) (rest := []) ⟨hx, hb, hml, hown, hts⟩ (c_M_halve l dC dI cI cL _ X_side hN_Xpicture hN_Xhalf (by decide) q449 hc) (cw_M_133 hts ⟨Nat.le_of_ble_eq_true rfl, Nat.le_of_ble_eq_true rfl⟩) ⟨zbM, (zpM hP hK hZ hD)⟩ rfl rfl hl.1 rfl (lv_room (Nat.le_of_ble_eq_true rfl)) d_M_domain_130 ⟨Nat.zero_le _, Nat.zero_le _⟩) hS (fun q _ h => hFc q h) hFc (fun ws t H locs ht hvm hu hB hz1 hk1 hS => ?_)
              obtain ⟨hN_Xhalf, hfr⟩ := hu
              obtain ⟨hP, -, hD1⟩ := hB
              rw [ht] at hP
              have hD := hD1.weaken (fun _ _ _ h => hFc _ h)
              have hN_Xhalf : ws[23]? = some (aXhalf, .inl (cI, Xhalf_n, .inl q449)) := hN_Xhalf
              have hN_X := (hfr _ (by decide)).trans hN_X
              have hN_Xpicture := (hfr _ (by decide)).trans hN_Xpicture
              have hN_Xds := (hfr _ (by decide)).trans hN_Xds
              have hw := z_frC (by decide) hw hfr
              refine lv_aload_n hx hb d_M_domain_133 rfl (lv_at hl 1 rfl) ?_
              refine lv_iload_n hx hb d_M_domain_134 rfl (lv_at hl 2 rfl) ?_
              refine lv_iload_n hx hb d_M_domain_135 rfl (lv_at hl 3 rfl) ?_
              refine lv_iload_n hx hb d_M_domain_136 rfl (lv_at hl 4 rfl) ?_
              obtain ⟨q450, hc, hf⟩ := z_b hf
              have hFc := z_free hD hS hA
              refine va_callv (va_runV (As := [.int x1, .int x2, .int x3]) (rest := []) ⟨hx, hb, hml, hown, hts⟩ (c_M_layDomain l dC dI cI cL _ x1 x2 x3 hN_X hN_Xhalf hN_Xds q450 hc) (cw_M_105 hts ⟨Nat.le_of_ble_eq_true rfl, Nat.le_of_ble_eq_true rfl⟩) ⟨zbM, va_recv hK hP (ci := 7) rfl hN_X, (zpM hP hK hZ hD)⟩ rfl rfl hl.1 rfl (lv_room (Nat.le_of_ble_eq_true rfl)) d_M_domain_137 ⟨Nat.zero_le _, Nat.zero_le _⟩) hS (fun q _ h => hFc q h) hFc (fun ws t H locs ht hvm hu hB hz1 hk1 hS => ?_)
              obtain ⟨hN_Xds, hfr⟩ := hu
              obtain ⟨hP, -, hD1⟩ := hB
              rw [ht] at hP
              have hD := hD1.weaken (fun _ _ _ h => hFc _ h)
              have hN_Xds : ws[31]? = some (aXds, .inl (cI, Xds_n, .inl q450)) := hN_Xds
              have hN_X := (hfr _ (by decide)).trans hN_X
              have hN_Xpicture := (hfr _ (by decide)).trans hN_Xpicture
              have hN_Xhalf := (hfr _ (by decide)).trans hN_Xhalf
              have hw := z_frC (by decide) hw hfr
              refine lv_aload_n hx hb d_M_domain_140 rfl (lv_at hl 1 rfl) ?_
              refine gf_M_37 (v := .ref aXds) hx hb hts hown hK hP hN_X rfl d_M_domain_141 ?_
              refine lv_iload_n hx hb d_M_domain_144 rfl (lv_at hl 2 rfl) ?_
              refine lv_iload hx hb d_M_domain_145 (lv_at hl 6 rfl) ?_
              refine lv_imul hx hb d_M_domain_147 ?_
              refine lv_iload hx hb d_M_domain_148 (lv_at hl 5 rfl) ?_
              refine lv_iadd hx hb d_M_domain_150 ?_
              obtain ⟨hin, hf⟩ := z_no hf
              refine va_iald hx hb hK hP _ 0 hN_Xds rfl hin d_M_domain_151 ?_
              obtain rfl := Option.some.inj hf
              exact W.iret hx hb hr (fun t ht hW => ⟨⟨_, ws, rfl, ⟨rfl, hN_X, hN_Xhalf, hN_Xds, hw⟩, by rw [ht]; exact hP, va_K.moved hW.alike hK, hD⟩, hS.F ht⟩) hS.2.2 d_M_domain_152
            · have hf := z_f hc hf
              refine lv_iconst (v := 0) hx hb d_M_domain_116 (by decide) ?_
              obtain rfl := Option.some.inj hf
              exact W.iret hx hb hr (fun t ht hW => ⟨⟨_, ws, rfl, ⟨rfl, hN_X, hN_Xhalf, hN_Xds, hw⟩, by rw [ht]; exact hP, va_K.moved hW.alike hK, hD⟩, hS.F ht⟩) hS.2.2 d_M_domain_117
          · have hf := z_f hc hf
            refine lv_iconst (v := 0) hx hb d_M_domain_101 (by decide) ?_
            refine lv_goto (tgt := 106) hx hb d_M_domain_102 (by decide) ?_
            refine pf_M_50 (v := .int (0 : Int32)) hx hb hts hown hK hP hD hS hN_X rfl rfl (Nat.le_of_ble_eq_true rfl) d_M_domain_106 (fun ws H locs hP hD hS hN_X hfr => ?_)
            have hN_X : ws[21]? = some (aX, .inr (7, [.int (0 : Int32), .int X_side, .ref aXpicture, .ref aXhalf, .int X_many, .ref aXblocks, .int X_found, .int X_encodedBits, .ref aXencoded, .int X_fedMany, .ref aXfed, .int X_readAt, .int X_why, .int X_tried, .int X_waiting, .ref aXpile, .int X_decoded, .ref aXnews, .ref aXolds, .ref aXhalves, .ref aXds, .ref aXrs, .ref aXbest, .long X_bestError])) := hN_X
            have hN_Xpicture := (hfr _ (by decide)).trans hN_Xpicture
            have hN_Xhalf := (hfr _ (by decide)).trans hN_Xhalf
            have hN_Xds := (hfr _ (by decide)).trans hN_Xds
            have hw := z_fr (by decide) hw hfr
            refine lv_aload_n hx hb d_M_domain_109 rfl (lv_at hl 1 rfl) ?_
            refine gf_M_50 (v := .int (0 : Int32)) hx hb hts hown hK hP hN_X rfl d_M_domain_110 ?_
            refine lv_if_le (tgt := 118) hx hb d_M_domain_113 (by decide) (fun hc => ?_) (fun hc => ?_)
            · have hf := z_t hc hf
              refine lv_aload_n hx hb d_M_domain_118 rfl (lv_at hl 1 rfl) ?_
              refine gf_M_7 (v := .ref aXpicture) hx hb hts hown hK hP hN_X rfl d_M_domain_119 ?_
              refine lv_aload_n hx hb d_M_domain_122 rfl (lv_at hl 1 rfl) ?_
              refine gf_M_46 (v := .int X_side) hx hb hts hown hK hP hN_X rfl d_M_domain_123 ?_
              refine lv_aload_n hx hb d_M_domain_126 rfl (lv_at hl 1 rfl) ?_
              refine gf_M_13 (v := .ref aXhalf) hx hb hts hown hK hP hN_X rfl d_M_domain_127 ?_
              obtain ⟨q451, hc, hf⟩ := z_b hf
              have hFc := z_free hD hS hA
              refine va_callv (va_runS (As := [.ref aXpicture, .int X_side, .ref aXhalf]) (rest := []) ⟨hx, hb, hml, hown, hts⟩ (c_M_halve l dC dI cI cL _ X_side hN_Xpicture hN_Xhalf (by decide) q451 hc) (cw_M_133 hts ⟨Nat.le_of_ble_eq_true rfl, Nat.le_of_ble_eq_true rfl⟩) ⟨zbM, (zpM hP hK hZ hD)⟩ rfl rfl hl.1 rfl (lv_room (Nat.le_of_ble_eq_true rfl)) d_M_domain_130 ⟨Nat.zero_le _, Nat.zero_le _⟩) hS (fun q _ h => hFc q h) hFc (fun ws t H locs ht hvm hu hB hz1 hk1 hS => ?_)
              obtain ⟨hN_Xhalf, hfr⟩ := hu
              obtain ⟨hP, -, hD1⟩ := hB
              rw [ht] at hP
              have hD := hD1.weaken (fun _ _ _ h => hFc _ h)
              have hN_Xhalf : ws[23]? = some (aXhalf, .inl (cI, Xhalf_n, .inl q451)) := hN_Xhalf
              have hN_X := (hfr _ (by decide)).trans hN_X
              have hN_Xpicture := (hfr _ (by decide)).trans hN_Xpicture
              have hN_Xds := (hfr _ (by decide)).trans hN_Xds
              have hw := z_frC (by decide) hw hfr
              refine lv_aload_n hx hb d_M_domain_133 rfl (lv_at hl 1 rfl) ?_
              refine lv_iload_n hx hb d_M_domain_134 rfl (lv_at hl 2 rfl) ?_
              refine lv_iload_n hx hb d_M_domain_135 rfl (lv_at hl 3 rfl) ?_
              refine lv_iload_n hx hb d_M_domain_136 rfl (lv_at hl 4 rfl) ?_
              obtain ⟨q452, hc, hf⟩ := z_b hf
              have hFc := z_free hD hS hA
              refine va_callv (va_runV (As := [.int x1, .int x2, .int x3]) (rest := []) ⟨hx, hb, hml, hown, hts⟩ (c_M_layDomain l dC dI cI cL _ x1 x2 x3 hN_X hN_Xhalf hN_Xds q452 hc) (cw_M_105 hts ⟨Nat.le_of_ble_eq_true rfl, Nat.le_of_ble_eq_true rfl⟩) ⟨zbM, va_recv hK hP (ci := 7) rfl hN_X, (zpM hP hK hZ hD)⟩ rfl rfl hl.1 rfl (lv_room (Nat.le_of_ble_eq_true rfl)) d_M_domain_137 ⟨Nat.zero_le _, Nat.zero_le _⟩) hS (fun q _ h => hFc q h) hFc (fun ws t H locs ht hvm hu hB hz1 hk1 hS => ?_)
              obtain ⟨hN_Xds, hfr⟩ := hu
              obtain ⟨hP, -, hD1⟩ := hB
              rw [ht] at hP
              have hD := hD1.weaken (fun _ _ _ h => hFc _ h)
              have hN_Xds : ws[31]? = some (aXds, .inl (cI, Xds_n, .inl q452)) := hN_Xds
              have hN_X := (hfr _ (by decide)).trans hN_X
              have hN_Xpicture := (hfr _ (by decide)).trans hN_Xpicture
              have hN_Xhalf := (hfr _ (by decide)).trans hN_Xhalf
              have hw := z_frC (by decide) hw hfr
              refine lv_aload_n hx hb d_M_domain_140 rfl (lv_at hl 1 rfl) ?_
              refine gf_M_37 (v := .ref aXds) hx hb hts hown hK hP hN_X rfl d_M_domain_141 ?_
              refine lv_iload_n hx hb d_M_domain_144 rfl (lv_at hl 2 rfl) ?_
              refine lv_iload hx hb d_M_domain_145 (lv_at hl 6 rfl) ?_
              refine lv_imul hx hb d_M_domain_147 ?_
              refine lv_iload hx hb d_M_domain_148 (lv_at hl 5 rfl) ?_
              refine lv_iadd hx hb d_M_domain_150 ?_
              obtain ⟨hin, hf⟩ := z_no hf
              refine va_iald hx hb hK hP _ 0 hN_Xds rfl hin d_M_domain_151 ?_
              obtain rfl := Option.some.inj hf
              exact W.iret hx hb hr (fun t ht hW => ⟨⟨_, ws, rfl, ⟨rfl, hN_X, hN_Xhalf, hN_Xds, hw⟩, by rw [ht]; exact hP, va_K.moved hW.alike hK, hD⟩, hS.F ht⟩) hS.2.2 d_M_domain_152
            · have hf := z_f hc hf
              refine lv_iconst (v := 0) hx hb d_M_domain_116 (by decide) ?_
              obtain rfl := Option.some.inj hf
              exact W.iret hx hb hr (fun t ht hW => ⟨⟨_, ws, rfl, ⟨rfl, hN_X, hN_Xhalf, hN_Xds, hw⟩, by rw [ht]; exact hP, va_K.moved hW.alike hK, hD⟩, hS.F ht⟩) hS.2.2 d_M_domain_117
  · have hf := z_f hc hf
    refine lv_iconst (v := 2) hx hb d_M_domain_8 (by decide) ?_
    refine lv_iload_n hx hb d_M_domain_9 rfl (lv_at hl 1 rfl) ?_
    refine lv_imul hx hb d_M_domain_10 ?_
    refine lv_aload_n hx hb d_M_domain_11 rfl (lv_at hl 0 rfl) ?_
    refine gf_M_46 (v := .int X_side) hx hb hts hown hK hP hN_X rfl d_M_domain_12 ?_
    refine lv_icmp_gt (tgt := 30) hx hb d_M_domain_15 (by decide) (fun hc => ?_) (fun hc => ?_)
    · have hf := z_t hc hf
      refine lv_iconst (v := 1) hx hb d_M_domain_30 (by decide) ?_
      refine lv_goto (tgt := 35) hx hb d_M_domain_31 (by decide) ?_
      refine pf_M_50 (v := .int (1 : Int32)) hx hb hts hown hK hP hD hS hN_X rfl rfl (Nat.le_of_ble_eq_true rfl) d_M_domain_35 (fun ws H locs hP hD hS hN_X hfr => ?_)
      have hN_X : ws[21]? = some (aX, .inr (7, [.int (1 : Int32), .int X_side, .ref aXpicture, .ref aXhalf, .int X_many, .ref aXblocks, .int X_found, .int X_encodedBits, .ref aXencoded, .int X_fedMany, .ref aXfed, .int X_readAt, .int X_why, .int X_tried, .int X_waiting, .ref aXpile, .int X_decoded, .ref aXnews, .ref aXolds, .ref aXhalves, .ref aXds, .ref aXrs, .ref aXbest, .long X_bestError])) := hN_X
      have hN_Xpicture := (hfr _ (by decide)).trans hN_Xpicture
      have hN_Xhalf := (hfr _ (by decide)).trans hN_Xhalf
      have hN_Xds := (hfr _ (by decide)).trans hN_Xds
      have hw := z_fr (by decide) hw hfr
      refine lv_aload_n hx hb d_M_domain_38 rfl (lv_at hl 0 rfl) ?_
      refine gf_M_50 (v := .int (1 : Int32)) hx hb hts hown hK hP hN_X rfl d_M_domain_39 ?_
      refine lv_if_ne (tgt := 109) hx hb d_M_domain_42 (by decide) (fun hc => ?_) (fun hc => ?_)
      · have hf := z_f hc hf
        refine lv_aload_n hx hb d_M_domain_109 rfl (lv_at hl 0 rfl) ?_
        refine gf_M_50 (v := .int (1 : Int32)) hx hb hts hown hK hP hN_X rfl d_M_domain_110 ?_
        refine lv_if_le (tgt := 118) hx hb d_M_domain_113 (by decide) (fun hc => ?_) (fun hc => ?_)
        · have hf := z_t hc hf
          refine lv_aload_n hx hb d_M_domain_118 rfl (lv_at hl 0 rfl) ?_
          refine gf_M_7 (v := .ref aXpicture) hx hb hts hown hK hP hN_X rfl d_M_domain_119 ?_
          refine lv_aload_n hx hb d_M_domain_122 rfl (lv_at hl 0 rfl) ?_
          refine gf_M_46 (v := .int X_side) hx hb hts hown hK hP hN_X rfl d_M_domain_123 ?_
          refine lv_aload_n hx hb d_M_domain_126 rfl (lv_at hl 0 rfl) ?_
          refine gf_M_13 (v := .ref aXhalf) hx hb hts hown hK hP hN_X rfl d_M_domain_127 ?_
          obtain ⟨q453, hc, hf⟩ := z_b hf
          have hFc := z_free hD hS hA
          refine va_callv (va_runS (As := [.ref aXpicture, .int X_side, .ref aXhalf]) (rest := []) ⟨hx, hb, hml, hown, hts⟩ (c_M_halve l dC dI cI cL _ X_side hN_Xpicture hN_Xhalf (by decide) q453 hc) (cw_M_133 hts ⟨Nat.le_of_ble_eq_true rfl, Nat.le_of_ble_eq_true rfl⟩) ⟨zbM, (zpM hP hK hZ hD)⟩ rfl rfl hl.1 rfl (lv_room (Nat.le_of_ble_eq_true rfl)) d_M_domain_130 ⟨Nat.zero_le _, Nat.zero_le _⟩) hS (fun q _ h => hFc q h) hFc (fun ws t H locs ht hvm hu hB hz1 hk1 hS => ?_)
          obtain ⟨hN_Xhalf, hfr⟩ := hu
          obtain ⟨hP, -, hD1⟩ := hB
          rw [ht] at hP
          have hD := hD1.weaken (fun _ _ _ h => hFc _ h)
          have hN_Xhalf : ws[23]? = some (aXhalf, .inl (cI, Xhalf_n, .inl q453)) := hN_Xhalf
          have hN_X := (hfr _ (by decide)).trans hN_X
          have hN_Xpicture := (hfr _ (by decide)).trans hN_Xpicture
          have hN_Xds := (hfr _ (by decide)).trans hN_Xds
          have hw := z_frC (by decide) hw hfr
          refine lv_aload_n hx hb d_M_domain_133 rfl (lv_at hl 0 rfl) ?_
          refine lv_iload_n hx hb d_M_domain_134 rfl (lv_at hl 1 rfl) ?_
          refine lv_iload_n hx hb d_M_domain_135 rfl (lv_at hl 2 rfl) ?_
          refine lv_iload_n hx hb d_M_domain_136 rfl (lv_at hl 3 rfl) ?_
          obtain ⟨q454, hc, hf⟩ := z_b hf
          have hFc := z_free hD hS hA
          refine va_callv (va_runV (As := [.int x1, .int x2, .int x3]) (rest := []) ⟨hx, hb, hml, hown, hts⟩ (c_M_layDomain l dC dI cI cL _ x1 x2 x3 hN_X hN_Xhalf hN_Xds q454 hc) (cw_M_105 hts ⟨Nat.le_of_ble_eq_true rfl, Nat.le_of_ble_eq_true rfl⟩) ⟨zbM, va_recv hK hP (ci := 7) rfl hN_X, (zpM hP hK hZ hD)⟩ rfl rfl hl.1 rfl (lv_room (Nat.le_of_ble_eq_true rfl)) d_M_domain_137 ⟨Nat.zero_le _, Nat.zero_le _⟩) hS (fun q _ h => hFc q h) hFc (fun ws t H locs ht hvm hu hB hz1 hk1 hS => ?_)
          obtain ⟨hN_Xds, hfr⟩ := hu
          obtain ⟨hP, -, hD1⟩ := hB
          rw [ht] at hP
          have hD := hD1.weaken (fun _ _ _ h => hFc _ h)
          have hN_Xds : ws[31]? = some (aXds, .inl (cI, Xds_n, .inl q454)) := hN_Xds
          have hN_X := (hfr _ (by decide)).trans hN_X
          have hN_Xpicture := (hfr _ (by decide)).trans hN_Xpicture
          have hN_Xhalf := (hfr _ (by decide)).trans hN_Xhalf
          have hw := z_frC (by decide) hw hfr
          refine lv_aload_n hx hb d_M_domain_140 rfl (lv_at hl 0 rfl) ?_
          refine gf_M_37 (v := .ref aXds) hx hb hts hown hK hP hN_X rfl d_M_domain_141 ?_
          refine lv_iload_n hx hb d_M_domain_144 rfl (lv_at hl 1 rfl) ?_
          refine lv_iload hx hb d_M_domain_145 (lv_at hl 5 rfl) ?_
          refine lv_imul hx hb d_M_domain_147 ?_
          refine lv_iload hx hb d_M_domain_148 (lv_at hl 4 rfl) ?_
          refine lv_iadd hx hb d_M_domain_150 ?_
          obtain ⟨hin, hf⟩ := z_no hf
          refine va_iald hx hb hK hP _ 0 hN_Xds rfl hin d_M_domain_151 ?_
          obtain rfl := Option.some.inj hf
          exact W.iret hx hb hr (fun t ht hW => ⟨⟨_, ws, rfl, ⟨rfl, hN_X, hN_Xhalf, hN_Xds, hw⟩, by rw [ht]; exact hP, va_K.moved hW.alike hK, hD⟩, hS.F ht⟩) hS.2.2 d_M_domain_152
        · have hf := z_f hc hf
          refine lv_iconst (v := 0) hx hb d_M_domain_116 (by decide) ?_
          obtain rfl := Option.some.inj hf
          exact W.iret hx hb hr (fun t ht hW => ⟨⟨_, ws, rfl, ⟨rfl, hN_X, hN_Xhalf, hN_Xds, hw⟩, by rw [ht]; exact hP, va_K.moved hW.alike hK, hD⟩, hS.F ht⟩) hS.2.2 d_M_domain_117
      · have hf := z_t hc hf
        refine lv_aload_n hx hb d_M_domain_45 rfl (lv_at hl 0 rfl) ?_
        refine lv_iload_n hx hb d_M_domain_46 rfl (lv_at hl 1 rfl) ?_
        obtain ⟨q455, hc, hf⟩ := z_b hf
        refine vp_callSi (z_cr (va_runV (As := [.int x1]) (rest := []) ⟨hx, hb, hml, hown, hts⟩ (c_M_domains l dC dI cI cL x1 hN_X q455 hc) (cw_M_69 hts ⟨Nat.le_of_ble_eq_true rfl, Nat.le_of_ble_eq_true rfl⟩) ⟨zbR, va_recv hK hP (ci := 7) rfl hN_X, (zpR hP hK hZ)⟩ rfl rfl hl.1 rfl (lv_room (Nat.le_of_ble_eq_true rfl)) d_M_domain_47 ⟨Nat.zero_le _, Nat.zero_le _⟩)) (fun r456 hv => ?_)
        have hv := hv.symm
        subst hv
        refine lv_aload_n hx hb d_M_domain_50 rfl (lv_at hl 0 rfl) ?_
        refine lv_iload_n hx hb d_M_domain_51 rfl (lv_at hl 1 rfl) ?_
        obtain ⟨q457, hc, hf⟩ := z_b hf
        refine vp_callSi (z_cr (va_runV (As := [.int x1]) (rest := [.int q455]) ⟨hx, hb, hml, hown, hts⟩ (c_M_domains l dC dI cI cL x1 hN_X q457 hc) (cw_M_69 hts ⟨Nat.le_of_ble_eq_true rfl, Nat.le_of_ble_eq_true rfl⟩) ⟨zbR, va_recv hK hP (ci := 7) rfl hN_X, (zpR hP hK hZ)⟩ rfl rfl hl.1 rfl (lv_room (Nat.le_of_ble_eq_true rfl)) d_M_domain_52 ⟨Nat.zero_le _, Nat.zero_le _⟩)) (fun r458 hv => ?_)
        have hv := hv.symm
        subst hv
        refine lv_imul hx hb d_M_domain_55 ?_
        refine lv_istore (lv' := [(6, .int (q455 * q457)), (0, .ref aX), (1, .int x1), (2, .int x2), (3, .int x3), (4, .int x4), (5, .int x5)]) hx hb d_M_domain_56 hl (by decide) rfl (fun ls hl => ?_)
        refine lv_aload_n hx hb d_M_domain_58 rfl (lv_at hl 1 rfl) ?_
        refine lv_iload_n hx hb d_M_domain_59 rfl (lv_at hl 3 rfl) ?_
        refine lv_i2l hx hb d_M_domain_60 rfl ?_
        refine lv_lconst (v := 0) hx hb d_M_domain_61 (by decide) ?_
        refine lv_iload hx hb d_M_domain_62 (lv_at hl 0 rfl) ?_
        refine lv_iconst (v := 1) hx hb d_M_domain_64 (by decide) ?_
        refine lv_isub hx hb d_M_domain_65 ?_
        refine lv_i2l hx hb d_M_domain_66 rfl ?_
        obtain ⟨q459, hc, hf⟩ := z_b hf
        refine vp_callSi (z_cr (va_runS (As := [.long x2.toInt64, .long (0 : Int64), .long (((q455 * q457) - (1 : Int32)).toInt64)]) (rest := [.ref aX]) ⟨hx, hb, hml, hown, hts⟩ (c_M_in l x2.toInt64 (0 : Int64) (((q455 * q457) - (1 : Int32)).toInt64) q459 hc) (cw_M_55 hts ⟨Nat.le_of_ble_eq_true rfl, Nat.le_of_ble_eq_true rfl⟩) ⟨zb0, zp0⟩ rfl rfl hl.1 rfl (lv_room (Nat.le_of_ble_eq_true rfl)) d_M_domain_67 ⟨Nat.zero_le _, Nat.zero_le _⟩)) (fun r460 hv => ?_)
        have hv := hv.symm
        subst hv
        refine lv_if_eq (tgt := 105) hx hb d_M_domain_70 (by decide) (fun hc => ?_) (fun hc => ?_)
        · have hf := z_t hc hf
          refine lv_iconst (v := 2) hx hb d_M_domain_105 (by decide) ?_
          refine pf_M_50 (v := .int (2 : Int32)) hx hb hts hown hK hP hD hS hN_X rfl rfl (Nat.le_of_ble_eq_true rfl) d_M_domain_106 (fun ws H locs hP hD hS hN_X hfr => ?_)
          have hN_X : ws[21]? = some (aX, .inr (7, [.int (2 : Int32), .int X_side, .ref aXpicture, .ref aXhalf, .int X_many, .ref aXblocks, .int X_found, .int X_encodedBits, .ref aXencoded, .int X_fedMany, .ref aXfed, .int X_readAt, .int X_why, .int X_tried, .int X_waiting, .ref aXpile, .int X_decoded, .ref aXnews, .ref aXolds, .ref aXhalves, .ref aXds, .ref aXrs, .ref aXbest, .long X_bestError])) := hN_X
          have hN_Xpicture := (hfr _ (by decide)).trans hN_Xpicture
          have hN_Xhalf := (hfr _ (by decide)).trans hN_Xhalf
          have hN_Xds := (hfr _ (by decide)).trans hN_Xds
          have hw := z_fr (by decide) hw hfr
          refine lv_aload_n hx hb d_M_domain_109 rfl (lv_at hl 1 rfl) ?_
          refine gf_M_50 (v := .int (2 : Int32)) hx hb hts hown hK hP hN_X rfl d_M_domain_110 ?_
          refine lv_if_le (tgt := 118) hx hb d_M_domain_113 (by decide) (fun hc => ?_) (fun hc => ?_)
          · have hf := z_t hc hf
            refine lv_aload_n hx hb d_M_domain_118 rfl (lv_at hl 1 rfl) ?_
            refine gf_M_7 (v := .ref aXpicture) hx hb hts hown hK hP hN_X rfl d_M_domain_119 ?_
            refine lv_aload_n hx hb d_M_domain_122 rfl (lv_at hl 1 rfl) ?_
            refine gf_M_46 (v := .int X_side) hx hb hts hown hK hP hN_X rfl d_M_domain_123 ?_
            refine lv_aload_n hx hb d_M_domain_126 rfl (lv_at hl 1 rfl) ?_
            refine gf_M_13 (v := .ref aXhalf) hx hb hts hown hK hP hN_X rfl d_M_domain_127 ?_
            obtain ⟨q461, hc, hf⟩ := z_b hf
            have hFc := z_free hD hS hA
            refine va_callv (va_runS (As := [.ref aXpicture, .int X_side, .ref aXhalf]) (rest := []) ⟨hx, hb, hml, hown, hts⟩ (c_M_halve l dC dI cI cL _ X_side hN_Xpicture hN_Xhalf (by decide) q461 hc) (cw_M_133 hts ⟨Nat.le_of_ble_eq_true rfl, Nat.le_of_ble_eq_true rfl⟩) ⟨zbM, (zpM hP hK hZ hD)⟩ rfl rfl hl.1 rfl (lv_room (Nat.le_of_ble_eq_true rfl)) d_M_domain_130 ⟨Nat.zero_le _, Nat.zero_le _⟩) hS (fun q _ h => hFc q h) hFc (fun ws t H locs ht hvm hu hB hz1 hk1 hS => ?_)
            obtain ⟨hN_Xhalf, hfr⟩ := hu
            obtain ⟨hP, -, hD1⟩ := hB
            rw [ht] at hP
            have hD := hD1.weaken (fun _ _ _ h => hFc _ h)
            have hN_Xhalf : ws[23]? = some (aXhalf, .inl (cI, Xhalf_n, .inl q461)) := hN_Xhalf
            have hN_X := (hfr _ (by decide)).trans hN_X
            have hN_Xpicture := (hfr _ (by decide)).trans hN_Xpicture
            have hN_Xds := (hfr _ (by decide)).trans hN_Xds
            have hw := z_frC (by decide) hw hfr
            refine lv_aload_n hx hb d_M_domain_133 rfl (lv_at hl 1 rfl) ?_
            refine lv_iload_n hx hb d_M_domain_134 rfl (lv_at hl 2 rfl) ?_
            refine lv_iload_n hx hb d_M_domain_135 rfl (lv_at hl 3 rfl) ?_
            refine lv_iload_n hx hb d_M_domain_136 rfl (lv_at hl 4 rfl) ?_
            obtain ⟨q462, hc, hf⟩ := z_b hf
            have hFc := z_free hD hS hA
            refine va_callv (va_runV (As := [.int x1, .int x2, .int x3]) (rest := []) ⟨hx, hb, hml, hown, hts⟩ (c_M_layDomain l dC dI cI cL _ x1 x2 x3 hN_X hN_Xhalf hN_Xds q462 hc) (cw_M_105 hts ⟨Nat.le_of_ble_eq_true rfl, Nat.le_of_ble_eq_true rfl⟩) ⟨zbM, va_recv hK hP (ci := 7) rfl hN_X, (zpM hP hK hZ hD)⟩ rfl rfl hl.1 rfl (lv_room (Nat.le_of_ble_eq_true rfl)) d_M_domain_137 ⟨Nat.zero_le _, Nat.zero_le _⟩) hS (fun q _ h => hFc q h) hFc (fun ws t H locs ht hvm hu hB hz1 hk1 hS => ?_)
            obtain ⟨hN_Xds, hfr⟩ := hu
            obtain ⟨hP, -, hD1⟩ := hB
            rw [ht] at hP
            have hD := hD1.weaken (fun _ _ _ h => hFc _ h)
            have hN_Xds : ws[31]? = some (aXds, .inl (cI, Xds_n, .inl q462)) := hN_Xds
            have hN_X := (hfr _ (by decide)).trans hN_X
            have hN_Xpicture := (hfr _ (by decide)).trans hN_Xpicture
            have hN_Xhalf := (hfr _ (by decide)).trans hN_Xhalf
            have hw := z_frC (by decide) hw hfr
            refine lv_aload_n hx hb d_M_domain_140 rfl (lv_at hl 1 rfl) ?_
            refine gf_M_37 (v := .ref aXds) hx hb hts hown hK hP hN_X rfl d_M_domain_141 ?_
            refine lv_iload_n hx hb d_M_domain_144 rfl (lv_at hl 2 rfl) ?_
            refine lv_iload hx hb d_M_domain_145 (lv_at hl 6 rfl) ?_
            refine lv_imul hx hb d_M_domain_147 ?_
            refine lv_iload hx hb d_M_domain_148 (lv_at hl 5 rfl) ?_
            refine lv_iadd hx hb d_M_domain_150 ?_
            obtain ⟨hin, hf⟩ := z_no hf
            refine va_iald hx hb hK hP _ 0 hN_Xds rfl hin d_M_domain_151 ?_
            obtain rfl := Option.some.inj hf
            exact W.iret hx hb hr (fun t ht hW => ⟨⟨_, ws, rfl, ⟨rfl, hN_X, hN_Xhalf, hN_Xds, hw⟩, by rw [ht]; exact hP, va_K.moved hW.alike hK, hD⟩, hS.F ht⟩) hS.2.2 d_M_domain_152
          · have hf := z_f hc hf
            refine lv_iconst (v := 0) hx hb d_M_domain_116 (by decide) ?_
            obtain rfl := Option.some.inj hf
            exact W.iret hx hb hr (fun t ht hW => ⟨⟨_, ws, rfl, ⟨rfl, hN_X, hN_Xhalf, hN_Xds, hw⟩, by rw [ht]; exact hP, va_K.moved hW.alike hK, hD⟩, hS.F ht⟩) hS.2.2 d_M_domain_117
        · have hf := z_f hc hf
          refine lv_iload hx hb d_M_domain_73 (lv_at hl 5 rfl) ?_
          refine lv_i2l hx hb d_M_domain_75 rfl ?_
          refine lv_lconst (v := 0) hx hb d_M_domain_76 (by decide) ?_
          refine lv_iload_n hx hb d_M_domain_77 rfl (lv_at hl 2 rfl) ?_
          refine lv_iconst (v := 1) hx hb d_M_domain_78 (by decide) ?_
          refine lv_isub hx hb d_M_domain_79 ?_
          refine lv_i2l hx hb d_M_domain_80 rfl ?_
          obtain ⟨q463, hc, hf⟩ := z_b hf
          refine vp_callSi (z_cr (va_runS (As := [.long x4.toInt64, .long (0 : Int64), .long ((x1 - (1 : Int32)).toInt64)]) (rest := [.ref aX]) ⟨hx, hb, hml, hown, hts⟩ (c_M_in l x4.toInt64 (0 : Int64) ((x1 - (1 : Int32)).toInt64) q463 hc) (cw_M_55 hts ⟨Nat.le_of_ble_eq_true rfl, Nat.le_of_ble_eq_true rfl⟩) ⟨zb0, zp0⟩ rfl rfl hl.1 rfl (lv_room (Nat.le_of_ble_eq_true rfl)) d_M_domain_81 ⟨Nat.zero_le _, Nat.zero_le _⟩)) (fun r464 hv => ?_)
          have hv := hv.symm
          subst hv
          refine lv_if_eq (tgt := 105) hx hb d_M_domain_84 (by decide) (fun hc => ?_) (fun hc => ?_)
          · have hf := z_t hc hf
            refine lv_iconst (v := 2) hx hb d_M_domain_105 (by decide) ?_
            refine pf_M_50 (v := .int (2 : Int32)) hx hb hts hown hK hP hD hS hN_X rfl rfl (Nat.le_of_ble_eq_true rfl) d_M_domain_106 (fun ws H locs hP hD hS hN_X hfr => ?_)
            have hN_X : ws[21]? = some (aX, .inr (7, [.int (2 : Int32), .int X_side, .ref aXpicture, .ref aXhalf, .int X_many, .ref aXblocks, .int X_found, .int X_encodedBits, .ref aXencoded, .int X_fedMany, .ref aXfed, .int X_readAt, .int X_why, .int X_tried, .int X_waiting, .ref aXpile, .int X_decoded, .ref aXnews, .ref aXolds, .ref aXhalves, .ref aXds, .ref aXrs, .ref aXbest, .long X_bestError])) := hN_X
            have hN_Xpicture := (hfr _ (by decide)).trans hN_Xpicture
            have hN_Xhalf := (hfr _ (by decide)).trans hN_Xhalf
            have hN_Xds := (hfr _ (by decide)).trans hN_Xds
            have hw := z_fr (by decide) hw hfr
            refine lv_aload_n hx hb d_M_domain_109 rfl (lv_at hl 1 rfl) ?_
            refine gf_M_50 (v := .int (2 : Int32)) hx hb hts hown hK hP hN_X rfl d_M_domain_110 ?_
            refine lv_if_le (tgt := 118) hx hb d_M_domain_113 (by decide) (fun hc => ?_) (fun hc => ?_)
            · have hf := z_t hc hf
              refine lv_aload_n hx hb d_M_domain_118 rfl (lv_at hl 1 rfl) ?_
              refine gf_M_7 (v := .ref aXpicture) hx hb hts hown hK hP hN_X rfl d_M_domain_119 ?_
              refine lv_aload_n hx hb d_M_domain_122 rfl (lv_at hl 1 rfl) ?_
              refine gf_M_46 (v := .int X_side) hx hb hts hown hK hP hN_X rfl d_M_domain_123 ?_
              refine lv_aload_n hx hb d_M_domain_126 rfl (lv_at hl 1 rfl) ?_
              refine gf_M_13 (v := .ref aXhalf) hx hb hts hown hK hP hN_X rfl d_M_domain_127 ?_
              obtain ⟨q465, hc, hf⟩ := z_b hf
              have hFc := z_free hD hS hA
              refine va_callv (va_runS (As := [.ref aXpicture, .int X_side, .ref aXhalf]) (rest := []) ⟨hx, hb, hml, hown, hts⟩ (c_M_halve l dC dI cI cL _ X_side hN_Xpicture hN_Xhalf (by decide) q465 hc) (cw_M_133 hts ⟨Nat.le_of_ble_eq_true rfl, Nat.le_of_ble_eq_true rfl⟩) ⟨zbM, (zpM hP hK hZ hD)⟩ rfl rfl hl.1 rfl (lv_room (Nat.le_of_ble_eq_true rfl)) d_M_domain_130 ⟨Nat.zero_le _, Nat.zero_le _⟩) hS (fun q _ h => hFc q h) hFc (fun ws t H locs ht hvm hu hB hz1 hk1 hS => ?_)
              obtain ⟨hN_Xhalf, hfr⟩ := hu
              obtain ⟨hP, -, hD1⟩ := hB
              rw [ht] at hP
              have hD := hD1.weaken (fun _ _ _ h => hFc _ h)
              have hN_Xhalf : ws[23]? = some (aXhalf, .inl (cI, Xhalf_n, .inl q465)) := hN_Xhalf
              have hN_X := (hfr _ (by decide)).trans hN_X
              have hN_Xpicture := (hfr _ (by decide)).trans hN_Xpicture
              have hN_Xds := (hfr _ (by decide)).trans hN_Xds
              have hw := z_frC (by decide) hw hfr
              refine lv_aload_n hx hb d_M_domain_133 rfl (lv_at hl 1 rfl) ?_
              refine lv_iload_n hx hb d_M_domain_134 rfl (lv_at hl 2 rfl) ?_
              refine lv_iload_n hx hb d_M_domain_135 rfl (lv_at hl 3 rfl) ?_
              refine lv_iload_n hx hb d_M_domain_136 rfl (lv_at hl 4 rfl) ?_
              obtain ⟨q466, hc, hf⟩ := z_b hf
              have hFc := z_free hD hS hA
              refine va_callv (va_runV (As := [.int x1, .int x2, .int x3]) (rest := []) ⟨hx, hb, hml, hown, hts⟩ (c_M_layDomain l dC dI cI cL _ x1 x2 x3 hN_X hN_Xhalf hN_Xds q466 hc) (cw_M_105 hts ⟨Nat.le_of_ble_eq_true rfl, Nat.le_of_ble_eq_true rfl⟩) ⟨zbM, va_recv hK hP (ci := 7) rfl hN_X, (zpM hP hK hZ hD)⟩ rfl rfl hl.1 rfl (lv_room (Nat.le_of_ble_eq_true rfl)) d_M_domain_137 ⟨Nat.zero_le _, Nat.zero_le _⟩) hS (fun q _ h => hFc q h) hFc (fun ws t H locs ht hvm hu hB hz1 hk1 hS => ?_)
              obtain ⟨hN_Xds, hfr⟩ := hu
              obtain ⟨hP, -, hD1⟩ := hB
              rw [ht] at hP
              have hD := hD1.weaken (fun _ _ _ h => hFc _ h)
              have hN_Xds : ws[31]? = some (aXds, .inl (cI, Xds_n, .inl q466)) := hN_Xds
              have hN_X := (hfr _ (by decide)).trans hN_X
              have hN_Xpicture := (hfr _ (by decide)).trans hN_Xpicture
              have hN_Xhalf := (hfr _ (by decide)).trans hN_Xhalf
              have hw := z_frC (by decide) hw hfr
              refine lv_aload_n hx hb d_M_domain_140 rfl (lv_at hl 1 rfl) ?_
              refine gf_M_37 (v := .ref aXds) hx hb hts hown hK hP hN_X rfl d_M_domain_141 ?_
              refine lv_iload_n hx hb d_M_domain_144 rfl (lv_at hl 2 rfl) ?_
              refine lv_iload hx hb d_M_domain_145 (lv_at hl 6 rfl) ?_
              refine lv_imul hx hb d_M_domain_147 ?_
              refine lv_iload hx hb d_M_domain_148 (lv_at hl 5 rfl) ?_
              refine lv_iadd hx hb d_M_domain_150 ?_
              obtain ⟨hin, hf⟩ := z_no hf
              refine va_iald hx hb hK hP _ 0 hN_Xds rfl hin d_M_domain_151 ?_
              obtain rfl := Option.some.inj hf
              exact W.iret hx hb hr (fun t ht hW => ⟨⟨_, ws, rfl, ⟨rfl, hN_X, hN_Xhalf, hN_Xds, hw⟩, by rw [ht]; exact hP, va_K.moved hW.alike hK, hD⟩, hS.F ht⟩) hS.2.2 d_M_domain_152
            · have hf := z_f hc hf
              refine lv_iconst (v := 0) hx hb d_M_domain_116 (by decide) ?_
              obtain rfl := Option.some.inj hf
              exact W.iret hx hb hr (fun t ht hW => ⟨⟨_, ws, rfl, ⟨rfl, hN_X, hN_Xhalf, hN_Xds, hw⟩, by rw [ht]; exact hP, va_K.moved hW.alike hK, hD⟩, hS.F ht⟩) hS.2.2 d_M_domain_117
          · have hf := z_f hc hf
            refine lv_iload hx hb d_M_domain_87 (lv_at hl 6 rfl) ?_
            refine lv_i2l hx hb d_M_domain_89 rfl ?_
            refine lv_lconst (v := 0) hx hb d_M_domain_90 (by decide) ?_
            refine lv_iload_n hx hb d_M_domain_91 rfl (lv_at hl 2 rfl) ?_
            refine lv_iconst (v := 1) hx hb d_M_domain_92 (by decide) ?_
            refine lv_isub hx hb d_M_domain_93 ?_
            refine lv_i2l hx hb d_M_domain_94 rfl ?_
            obtain ⟨q467, hc, hf⟩ := z_b hf
            refine vp_callSi (z_cr (va_runS (As := [.long x5.toInt64, .long (0 : Int64), .long ((x1 - (1 : Int32)).toInt64)]) (rest := [.ref aX]) ⟨hx, hb, hml, hown, hts⟩ (c_M_in l x5.toInt64 (0 : Int64) ((x1 - (1 : Int32)).toInt64) q467 hc) (cw_M_55 hts ⟨Nat.le_of_ble_eq_true rfl, Nat.le_of_ble_eq_true rfl⟩) ⟨zb0, zp0⟩ rfl rfl hl.1 rfl (lv_room (Nat.le_of_ble_eq_true rfl)) d_M_domain_95 ⟨Nat.zero_le _, Nat.zero_le _⟩)) (fun r468 hv => ?_)
            have hv := hv.symm
            subst hv
            refine lv_if_eq (tgt := 105) hx hb d_M_domain_98 (by decide) (fun hc => ?_) (fun hc => ?_)
            · have hf := z_t hc hf
              refine lv_iconst (v := 2) hx hb d_M_domain_105 (by decide) ?_
              refine pf_M_50 (v := .int (2 : Int32)) hx hb hts hown hK hP hD hS hN_X rfl rfl (Nat.le_of_ble_eq_true rfl) d_M_domain_106 (fun ws H locs hP hD hS hN_X hfr => ?_)
              have hN_X : ws[21]? = some (aX, .inr (7, [.int (2 : Int32), .int X_side, .ref aXpicture, .ref aXhalf, .int X_many, .ref aXblocks, .int X_found, .int X_encodedBits, .ref aXencoded, .int X_fedMany, .ref aXfed, .int X_readAt, .int X_why, .int X_tried, .int X_waiting, .ref aXpile, .int X_decoded, .ref aXnews, .ref aXolds, .ref aXhalves, .ref aXds, .ref aXrs, .ref aXbest, .long X_bestError])) := hN_X
              have hN_Xpicture := (hfr _ (by decide)).trans hN_Xpicture
              have hN_Xhalf := (hfr _ (by decide)).trans hN_Xhalf
              have hN_Xds := (hfr _ (by decide)).trans hN_Xds
              have hw := z_fr (by decide) hw hfr
              refine lv_aload_n hx hb d_M_domain_109 rfl (lv_at hl 1 rfl) ?_
              refine gf_M_50 (v := .int (2 : Int32)) hx hb hts hown hK hP hN_X rfl d_M_domain_110 ?_
              refine lv_if_le (tgt := 118) hx hb d_M_domain_113 (by decide) (fun hc => ?_) (fun hc => ?_)
              · have hf := z_t hc hf
                refine lv_aload_n hx hb d_M_domain_118 rfl (lv_at hl 1 rfl) ?_
                refine gf_M_7 (v := .ref aXpicture) hx hb hts hown hK hP hN_X rfl d_M_domain_119 ?_
                refine lv_aload_n hx hb d_M_domain_122 rfl (lv_at hl 1 rfl) ?_
                refine gf_M_46 (v := .int X_side) hx hb hts hown hK hP hN_X rfl d_M_domain_123 ?_
                refine lv_aload_n hx hb d_M_domain_126 rfl (lv_at hl 1 rfl) ?_
                refine gf_M_13 (v := .ref aXhalf) hx hb hts hown hK hP hN_X rfl d_M_domain_127 ?_
                obtain ⟨q469, hc, hf⟩ := z_b hf
                have hFc := z_free hD hS hA
                refine va_callv (va_runS (As := [.ref aXpicture, .int X_side, .ref aXhalf]) (rest := []) ⟨hx, hb, hml, hown, hts⟩ (c_M_halve l dC dI cI cL _ X_side hN_Xpicture hN_Xhalf (by decide) q469 hc) (cw_M_133 hts ⟨Nat.le_of_ble_eq_true rfl, Nat.le_of_ble_eq_true rfl⟩) ⟨zbM, (zpM hP hK hZ hD)⟩ rfl rfl hl.1 rfl (lv_room (Nat.le_of_ble_eq_true rfl)) d_M_domain_130 ⟨Nat.zero_le _, Nat.zero_le _⟩) hS (fun q _ h => hFc q h) hFc (fun ws t H locs ht hvm hu hB hz1 hk1 hS => ?_)
                obtain ⟨hN_Xhalf, hfr⟩ := hu
                obtain ⟨hP, -, hD1⟩ := hB
                rw [ht] at hP
                have hD := hD1.weaken (fun _ _ _ h => hFc _ h)
                have hN_Xhalf : ws[23]? = some (aXhalf, .inl (cI, Xhalf_n, .inl q469)) := hN_Xhalf
                have hN_X := (hfr _ (by decide)).trans hN_X
                have hN_Xpicture := (hfr _ (by decide)).trans hN_Xpicture
                have hN_Xds := (hfr _ (by decide)).trans hN_Xds
                have hw := z_frC (by decide) hw hfr
                refine lv_aload_n hx hb d_M_domain_133 rfl (lv_at hl 1 rfl) ?_
                refine lv_iload_n hx hb d_M_domain_134 rfl (lv_at hl 2 rfl) ?_
                refine lv_iload_n hx hb d_M_domain_135 rfl (lv_at hl 3 rfl) ?_
                refine lv_iload_n hx hb d_M_domain_136 rfl (lv_at hl 4 rfl) ?_
                obtain ⟨q470, hc, hf⟩ := z_b hf
                have hFc := z_free hD hS hA
                refine va_callv (va_runV (As := [.int x1, .int x2, .int x3]) (rest := []) ⟨hx, hb, hml, hown, hts⟩ (c_M_layDomain l dC dI cI cL _ x1 x2 x3 hN_X hN_Xhalf hN_Xds q470 hc) (cw_M_105 hts ⟨Nat.le_of_ble_eq_true rfl, Nat.le_of_ble_eq_true rfl⟩) ⟨zbM, va_recv hK hP (ci := 7) rfl hN_X, (zpM hP hK hZ hD)⟩ rfl rfl hl.1 rfl (lv_room (Nat.le_of_ble_eq_true rfl)) d_M_domain_137 ⟨Nat.zero_le _, Nat.zero_le _⟩) hS (fun q _ h => hFc q h) hFc (fun ws t H locs ht hvm hu hB hz1 hk1 hS => ?_)
                obtain ⟨hN_Xds, hfr⟩ := hu
                obtain ⟨hP, -, hD1⟩ := hB
                rw [ht] at hP
                have hD := hD1.weaken (fun _ _ _ h => hFc _ h)
                have hN_Xds : ws[31]? = some (aXds, .inl (cI, Xds_n, .inl q470)) := hN_Xds
                have hN_X := (hfr _ (by decide)).trans hN_X
                have hN_Xpicture := (hfr _ (by decide)).trans hN_Xpicture
                have hN_Xhalf := (hfr _ (by decide)).trans hN_Xhalf
                have hw := z_frC (by decide) hw hfr
                refine lv_aload_n hx hb d_M_domain_140 rfl (lv_at hl 1 rfl) ?_
                refine gf_M_37 (v := .ref aXds) hx hb hts hown hK hP hN_X rfl d_M_domain_141 ?_
                refine lv_iload_n hx hb d_M_domain_144 rfl (lv_at hl 2 rfl) ?_
                refine lv_iload hx hb d_M_domain_145 (lv_at hl 6 rfl) ?_
                refine lv_imul hx hb d_M_domain_147 ?_
                refine lv_iload hx hb d_M_domain_148 (lv_at hl 5 rfl) ?_
                refine lv_iadd hx hb d_M_domain_150 ?_
                obtain ⟨hin, hf⟩ := z_no hf
                refine va_iald hx hb hK hP _ 0 hN_Xds rfl hin d_M_domain_151 ?_
                obtain rfl := Option.some.inj hf
                exact W.iret hx hb hr (fun t ht hW => ⟨⟨_, ws, rfl, ⟨rfl, hN_X, hN_Xhalf, hN_Xds, hw⟩, by rw [ht]; exact hP, va_K.moved hW.alike hK, hD⟩, hS.F ht⟩) hS.2.2 d_M_domain_152
              · have hf := z_f hc hf
                refine lv_iconst (v := 0) hx hb d_M_domain_116 (by decide) ?_
                obtain rfl := Option.some.inj hf
                exact W.iret hx hb hr (fun t ht hW => ⟨⟨_, ws, rfl, ⟨rfl, hN_X, hN_Xhalf, hN_Xds, hw⟩, by rw [ht]; exact hP, va_K.moved hW.alike hK, hD⟩, hS.F ht⟩) hS.2.2 d_M_domain_117
            · have hf := z_f hc hf
              refine lv_iconst (v := 0) hx hb d_M_domain_101 (by decide) ?_
              refine lv_goto (tgt := 106) hx hb d_M_domain_102 (by decide) ?_
              refine pf_M_50 (v := .int (0 : Int32)) hx hb hts hown hK hP hD hS hN_X rfl rfl (Nat.le_of_ble_eq_true rfl) d_M_domain_106 (fun ws H locs hP hD hS hN_X hfr => ?_)
              have hN_X : ws[21]? = some (aX, .inr (7, [.int (0 : Int32), .int X_side, .ref aXpicture, .ref aXhalf, .int X_many, .ref aXblocks, .int X_found, .int X_encodedBits, .ref aXencoded, .int X_fedMany, .ref aXfed, .int X_readAt, .int X_why, .int X_tried, .int X_waiting, .ref aXpile, .int X_decoded, .ref aXnews, .ref aXolds, .ref aXhalves, .ref aXds, .ref aXrs, .ref aXbest, .long X_bestError])) := hN_X
              have hN_Xpicture := (hfr _ (by decide)).trans hN_Xpicture
              have hN_Xhalf := (hfr _ (by decide)).trans hN_Xhalf
              have hN_Xds := (hfr _ (by decide)).trans hN_Xds
              have hw := z_fr (by decide) hw hfr
              refine lv_aload_n hx hb d_M_domain_109 rfl (lv_at hl 1 rfl) ?_
              refine gf_M_50 (v := .int (0 : Int32)) hx hb hts hown hK hP hN_X rfl d_M_domain_110 ?_
              refine lv_if_le (tgt := 118) hx hb d_M_domain_113 (by decide) (fun hc => ?_) (fun hc => ?_)
              · have hf := z_t hc hf
                refine lv_aload_n hx hb d_M_domain_118 rfl (lv_at hl 1 rfl) ?_
                refine gf_M_7 (v := .ref aXpicture) hx hb hts hown hK hP hN_X rfl d_M_domain_119 ?_
                refine lv_aload_n hx hb d_M_domain_122 rfl (lv_at hl 1 rfl) ?_
                refine gf_M_46 (v := .int X_side) hx hb hts hown hK hP hN_X rfl d_M_domain_123 ?_
                refine lv_aload_n hx hb d_M_domain_126 rfl (lv_at hl 1 rfl) ?_
                refine gf_M_13 (v := .ref aXhalf) hx hb hts hown hK hP hN_X rfl d_M_domain_127 ?_
                obtain ⟨q471, hc, hf⟩ := z_b hf
                have hFc := z_free hD hS hA
                refine va_callv (va_runS (As := [.ref aXpicture, .int X_side, .ref aXhalf]) (rest := []) ⟨hx, hb, hml, hown, hts⟩ (c_M_halve l dC dI cI cL _ X_side hN_Xpicture hN_Xhalf (by decide) q471 hc) (cw_M_133 hts ⟨Nat.le_of_ble_eq_true rfl, Nat.le_of_ble_eq_true rfl⟩) ⟨zbM, (zpM hP hK hZ hD)⟩ rfl rfl hl.1 rfl (lv_room (Nat.le_of_ble_eq_true rfl)) d_M_domain_130 ⟨Nat.zero_le _, Nat.zero_le _⟩) hS (fun q _ h => hFc q h) hFc (fun ws t H locs ht hvm hu hB hz1 hk1 hS => ?_)
                obtain ⟨hN_Xhalf, hfr⟩ := hu
                obtain ⟨hP, -, hD1⟩ := hB
                rw [ht] at hP
                have hD := hD1.weaken (fun _ _ _ h => hFc _ h)
                have hN_Xhalf : ws[23]? = some (aXhalf, .inl (cI, Xhalf_n, .inl q471)) := hN_Xhalf
                have hN_X := (hfr _ (by decide)).trans hN_X
                have hN_Xpicture := (hfr _ (by decide)).trans hN_Xpicture
                have hN_Xds := (hfr _ (by decide)).trans hN_Xds
                have hw := z_frC (by decide) hw hfr
                refine lv_aload_n hx hb d_M_domain_133 rfl (lv_at hl 1 rfl) ?_
                refine lv_iload_n hx hb d_M_domain_134 rfl (lv_at hl 2 rfl) ?_
                refine lv_iload_n hx hb d_M_domain_135 rfl (lv_at hl 3 rfl) ?_
                refine lv_iload_n hx hb d_M_domain_136 rfl (lv_at hl 4 rfl) ?_
                obtain ⟨q472, hc, hf⟩ := z_b hf
                have hFc := z_free hD hS hA
                refine va_callv (va_runV (As := [.int x1, .int x2, .int x3]) (rest := []) ⟨hx, hb, hml, hown, hts⟩ (c_M_layDomain l dC dI cI cL _ x1 x2 x3 hN_X hN_Xhalf hN_Xds q472 hc) (cw_M_105 hts ⟨Nat.le_of_ble_eq_true rfl, Nat.le_of_ble_eq_true rfl⟩) ⟨zbM, va_recv hK hP (ci := 7) rfl hN_X, (zpM hP hK hZ hD)⟩ rfl rfl hl.1 rfl (lv_room (Nat.le_of_ble_eq_true rfl)) d_M_domain_137 ⟨Nat.zero_le _, Nat.zero_le _⟩) hS (fun q _ h => hFc q h) hFc (fun ws t H locs ht hvm hu hB hz1 hk1 hS => ?_)
                obtain ⟨hN_Xds, hfr⟩ := hu
                obtain ⟨hP, -, hD1⟩ := hB
                rw [ht] at hP
                have hD := hD1.weaken (fun _ _ _ h => hFc _ h)
                have hN_Xds : ws[31]? = some (aXds, .inl (cI, Xds_n, .inl q472)) := hN_Xds
                have hN_X := (hfr _ (by decide)).trans hN_X
                have hN_Xpicture := (hfr _ (by decide)).trans hN_Xpicture
                have hN_Xhalf := (hfr _ (by decide)).trans hN_Xhalf
                have hw := z_frC (by decide) hw hfr
                refine lv_aload_n hx hb d_M_domain_140 rfl (lv_at hl 1 rfl) ?_
                refine gf_M_37 (v := .ref aXds) hx hb hts hown hK hP hN_X rfl d_M_domain_141 ?_
                refine lv_iload_n hx hb d_M_domain_144 rfl (lv_at hl 2 rfl) ?_
                refine lv_iload hx hb d_M_domain_145 (lv_at hl 6 rfl) ?_
                refine lv_imul hx hb d_M_domain_147 ?_
                refine lv_iload hx hb d_M_domain_148 (lv_at hl 5 rfl) ?_
                refine lv_iadd hx hb d_M_domain_150 ?_
                obtain ⟨hin, hf⟩ := z_no hf
                refine va_iald hx hb hK hP _ 0 hN_Xds rfl hin d_M_domain_151 ?_
                obtain rfl := Option.some.inj hf
                exact W.iret hx hb hr (fun t ht hW => ⟨⟨_, ws, rfl, ⟨rfl, hN_X, hN_Xhalf, hN_Xds, hw⟩, by rw [ht]; exact hP, va_K.moved hW.alike hK, hD⟩, hS.F ht⟩) hS.2.2 d_M_domain_152
              · have hf := z_f hc hf
                refine lv_iconst (v := 0) hx hb d_M_domain_116 (by decide) ?_
                obtain rfl := Option.some.inj hf
                exact W.iret hx hb hr (fun t ht hW => ⟨⟨_, ws, rfl, ⟨rfl, hN_X, hN_Xhalf, hN_Xds, hw⟩, by rw [ht]; exact hP, va_K.moved hW.alike hK, hD⟩, hS.F ht⟩) hS.2.2 d_M_domain_117
    · have hf := z_f hc hf
      refine lv_iload_n hx hb d_M_domain_18 rfl (lv_at hl 3 rfl) ?_
      refine lv_i2l hx hb d_M_domain_19 rfl ?_
      refine lv_lconst (v := 0) hx hb d_M_domain_20 (by decide) ?_
      refine lv_ldc2 (v := 7) hx hb hown (hts _ lk_M_157) d_M_domain_21 ?_
      obtain ⟨q473, hc, hf⟩ := z_b hf
      refine vp_callSi (z_cr (va_runS (As := [.long x3.toInt64, .long (0 : Int64), .long (7 : Int64)]) (rest := [.ref aX]) ⟨hx, hb, hml, hown, hts⟩ (c_M_in l x3.toInt64 (0 : Int64) (7 : Int64) q473 hc) (cw_M_55 hts ⟨Nat.le_of_ble_eq_true rfl, Nat.le_of_ble_eq_true rfl⟩) ⟨zb0, zp0⟩ rfl rfl hl.1 rfl (lv_room (Nat.le_of_ble_eq_true rfl)) d_M_domain_24 ⟨Nat.zero_le _, Nat.zero_le _⟩)) (fun r474 hv => ?_)
      have hv := hv.symm
      subst hv
      refine lv_if_ne (tgt := 34) hx hb d_M_domain_27 (by decide) (fun hc => ?_) (fun hc => ?_)
      · have hf := z_f hc hf
        refine lv_iconst (v := 0) hx hb d_M_domain_34 (by decide) ?_
        refine pf_M_50 (v := .int (0 : Int32)) hx hb hts hown hK hP hD hS hN_X rfl rfl (Nat.le_of_ble_eq_true rfl) d_M_domain_35 (fun ws H locs hP hD hS hN_X hfr => ?_)
        have hN_X : ws[21]? = some (aX, .inr (7, [.int (0 : Int32), .int X_side, .ref aXpicture, .ref aXhalf, .int X_many, .ref aXblocks, .int X_found, .int X_encodedBits, .ref aXencoded, .int X_fedMany, .ref aXfed, .int X_readAt, .int X_why, .int X_tried, .int X_waiting, .ref aXpile, .int X_decoded, .ref aXnews, .ref aXolds, .ref aXhalves, .ref aXds, .ref aXrs, .ref aXbest, .long X_bestError])) := hN_X
        have hN_Xpicture := (hfr _ (by decide)).trans hN_Xpicture
        have hN_Xhalf := (hfr _ (by decide)).trans hN_Xhalf
        have hN_Xds := (hfr _ (by decide)).trans hN_Xds
        have hw := z_fr (by decide) hw hfr
        refine lv_aload_n hx hb d_M_domain_38 rfl (lv_at hl 0 rfl) ?_
        refine gf_M_50 (v := .int (0 : Int32)) hx hb hts hown hK hP hN_X rfl d_M_domain_39 ?_
        refine lv_if_ne (tgt := 109) hx hb d_M_domain_42 (by decide) (fun hc => ?_) (fun hc => ?_)
        · have hf := z_f hc hf
          refine lv_aload_n hx hb d_M_domain_109 rfl (lv_at hl 0 rfl) ?_
          refine gf_M_50 (v := .int (0 : Int32)) hx hb hts hown hK hP hN_X rfl d_M_domain_110 ?_
          refine lv_if_le (tgt := 118) hx hb d_M_domain_113 (by decide) (fun hc => ?_) (fun hc => ?_)
          · have hf := z_t hc hf
            refine lv_aload_n hx hb d_M_domain_118 rfl (lv_at hl 0 rfl) ?_
            refine gf_M_7 (v := .ref aXpicture) hx hb hts hown hK hP hN_X rfl d_M_domain_119 ?_
            refine lv_aload_n hx hb d_M_domain_122 rfl (lv_at hl 0 rfl) ?_
            refine gf_M_46 (v := .int X_side) hx hb hts hown hK hP hN_X rfl d_M_domain_123 ?_
            refine lv_aload_n hx hb d_M_domain_126 rfl (lv_at hl 0 rfl) ?_
            refine gf_M_13 (v := .ref aXhalf) hx hb hts hown hK hP hN_X rfl d_M_domain_127 ?_
            obtain ⟨q475, hc, hf⟩ := z_b hf
            have hFc := z_free hD hS hA
            refine va_callv (va_runS (As := [.ref aXpicture, .int X_side, .ref aXhalf]) (rest := []) ⟨hx, hb, hml, hown, hts⟩ (c_M_halve l dC dI cI cL _ X_side hN_Xpicture hN_Xhalf (by decide) q475 hc) (cw_M_133 hts ⟨Nat.le_of_ble_eq_true rfl, Nat.le_of_ble_eq_true rfl⟩) ⟨zbM, (zpM hP hK hZ hD)⟩ rfl rfl hl.1 rfl (lv_room (Nat.le_of_ble_eq_true rfl)) d_M_domain_130 ⟨Nat.zero_le _, Nat.zero_le _⟩) hS (fun q _ h => hFc q h) hFc (fun ws t H locs ht hvm hu hB hz1 hk1 hS => ?_)
            obtain ⟨hN_Xhalf, hfr⟩ := hu
            obtain ⟨hP, -, hD1⟩ := hB
            rw [ht] at hP
            have hD := hD1.weaken (fun _ _ _ h => hFc _ h)
            have hN_Xhalf : ws[23]? = some (aXhalf, .inl (cI, Xhalf_n, .inl q475)) := hN_Xhalf
            have hN_X := (hfr _ (by decide)).trans hN_X
            have hN_Xpicture := (hfr _ (by decide)).trans hN_Xpicture
            have hN_Xds := (hfr _ (by decide)).trans hN_Xds
            have hw := z_frC (by decide) hw hfr
            refine lv_aload_n hx hb d_M_domain_133 rfl (lv_at hl 0 rfl) ?_
            refine lv_iload_n hx hb d_M_domain_134 rfl (lv_at hl 1 rfl) ?_
            refine lv_iload_n hx hb d_M_domain_135 rfl (lv_at hl 2 rfl) ?_
            refine lv_iload_n hx hb d_M_domain_136 rfl (lv_at hl 3 rfl) ?_
            obtain ⟨q476, hc, hf⟩ := z_b hf
            have hFc := z_free hD hS hA
            refine va_callv (va_runV (As := [.int x1, .int x2, .int x3]) (rest := []) ⟨hx, hb, hml, hown, hts⟩ (c_M_layDomain l dC dI cI cL _ x1 x2 x3 hN_X hN_Xhalf hN_Xds q476 hc) (cw_M_105 hts ⟨Nat.le_of_ble_eq_true rfl, Nat.le_of_ble_eq_true rfl⟩) ⟨zbM, va_recv hK hP (ci := 7) rfl hN_X, (zpM hP hK hZ hD)⟩ rfl rfl hl.1 rfl (lv_room (Nat.le_of_ble_eq_true rfl)) d_M_domain_137 ⟨Nat.zero_le _, Nat.zero_le _⟩) hS (fun q _ h => hFc q h) hFc (fun ws t H locs ht hvm hu hB hz1 hk1 hS => ?_)
            obtain ⟨hN_Xds, hfr⟩ := hu
            obtain ⟨hP, -, hD1⟩ := hB
            rw [ht] at hP
            have hD := hD1.weaken (fun _ _ _ h => hFc _ h)
            have hN_Xds : ws[31]? = some (aXds, .inl (cI, Xds_n, .inl q476)) := hN_Xds
            have hN_X := (hfr _ (by decide)).trans hN_X
            have hN_Xpicture := (hfr _ (by decide)).trans hN_Xpicture
            have hN_Xhalf := (hfr _ (by decide)).trans hN_Xhalf
            have hw := z_frC (by decide) hw hfr
            refine lv_aload_n hx hb d_M_domain_140 rfl (lv_at hl 0 rfl) ?_
            refine gf_M_37 (v := .ref aXds) hx hb hts hown hK hP hN_X rfl d_M_domain_141 ?_
            refine lv_iload_n hx hb d_M_domain_144 rfl (lv_at hl 1 rfl) ?_
            refine lv_iload hx hb d_M_domain_145 (lv_at hl 5 rfl) ?_
            refine lv_imul hx hb d_M_domain_147 ?_
            refine lv_iload hx hb d_M_domain_148 (lv_at hl 4 rfl) ?_
            refine lv_iadd hx hb d_M_domain_150 ?_
            obtain ⟨hin, hf⟩ := z_no hf
            refine va_iald hx hb hK hP _ 0 hN_Xds rfl hin d_M_domain_151 ?_
            obtain rfl := Option.some.inj hf
            exact W.iret hx hb hr (fun t ht hW => ⟨⟨_, ws, rfl, ⟨rfl, hN_X, hN_Xhalf, hN_Xds, hw⟩, by rw [ht]; exact hP, va_K.moved hW.alike hK, hD⟩, hS.F ht⟩) hS.2.2 d_M_domain_152
          · have hf := z_f hc hf
            refine lv_iconst (v := 0) hx hb d_M_domain_116 (by decide) ?_
            obtain rfl := Option.some.inj hf
            exact W.iret hx hb hr (fun t ht hW => ⟨⟨_, ws, rfl, ⟨rfl, hN_X, hN_Xhalf, hN_Xds, hw⟩, by rw [ht]; exact hP, va_K.moved hW.alike hK, hD⟩, hS.F ht⟩) hS.2.2 d_M_domain_117
        · have hf := z_t hc hf
          refine lv_aload_n hx hb d_M_domain_45 rfl (lv_at hl 0 rfl) ?_
          refine lv_iload_n hx hb d_M_domain_46 rfl (lv_at hl 1 rfl) ?_
          obtain ⟨q477, hc, hf⟩ := z_b hf
          refine vp_callSi (z_cr (va_runV (As := [.int x1]) (rest := []) ⟨hx, hb, hml, hown, hts⟩ (c_M_domains l dC dI cI cL x1 hN_X q477 hc) (cw_M_69 hts ⟨Nat.le_of_ble_eq_true rfl, Nat.le_of_ble_eq_true rfl⟩) ⟨zbR, va_recv hK hP (ci := 7) rfl hN_X, (zpR hP hK hZ)⟩ rfl rfl hl.1 rfl (lv_room (Nat.le_of_ble_eq_true rfl)) d_M_domain_47 ⟨Nat.zero_le _, Nat.zero_le _⟩)) (fun r478 hv => ?_)
          have hv := hv.symm
          subst hv
          refine lv_aload_n hx hb d_M_domain_50 rfl (lv_at hl 0 rfl) ?_
          refine lv_iload_n hx hb d_M_domain_51 rfl (lv_at hl 1 rfl) ?_
          obtain ⟨q479, hc, hf⟩ := z_b hf
          refine vp_callSi (z_cr (va_runV (As := [.int x1]) (rest := [.int q477]) ⟨hx, hb, hml, hown, hts⟩ (c_M_domains l dC dI cI cL x1 hN_X q479 hc) (cw_M_69 hts ⟨Nat.le_of_ble_eq_true rfl, Nat.le_of_ble_eq_true rfl⟩) ⟨zbR, va_recv hK hP (ci := 7) rfl hN_X, (zpR hP hK hZ)⟩ rfl rfl hl.1 rfl (lv_room (Nat.le_of_ble_eq_true rfl)) d_M_domain_52 ⟨Nat.zero_le _, Nat.zero_le _⟩)) (fun r480 hv => ?_)
          have hv := hv.symm
          subst hv
          refine lv_imul hx hb d_M_domain_55 ?_
          refine lv_istore (lv' := [(6, .int (q477 * q479)), (0, .ref aX), (1, .int x1), (2, .int x2), (3, .int x3), (4, .int x4), (5, .int x5)]) hx hb d_M_domain_56 hl (by decide) rfl (fun ls hl => ?_)
          refine lv_aload_n hx hb d_M_domain_58 rfl (lv_at hl 1 rfl) ?_
          refine lv_iload_n hx hb d_M_domain_59 rfl (lv_at hl 3 rfl) ?_
          refine lv_i2l hx hb d_M_domain_60 rfl ?_
          refine lv_lconst (v := 0) hx hb d_M_domain_61 (by decide) ?_
          refine lv_iload hx hb d_M_domain_62 (lv_at hl 0 rfl) ?_
          refine lv_iconst (v := 1) hx hb d_M_domain_64 (by decide) ?_
          refine lv_isub hx hb d_M_domain_65 ?_
          refine lv_i2l hx hb d_M_domain_66 rfl ?_
          obtain ⟨q481, hc, hf⟩ := z_b hf
          refine vp_callSi (z_cr (va_runS (As := [.long x2.toInt64, .long (0 : Int64), .long (((q477 * q479) - (1 : Int32)).toInt64)]) (rest := [.ref aX]) ⟨hx, hb, hml, hown, hts⟩ (c_M_in l x2.toInt64 (0 : Int64) (((q477 * q479) - (1 : Int32)).toInt64) q481 hc) (cw_M_55 hts ⟨Nat.le_of_ble_eq_true rfl, Nat.le_of_ble_eq_true rfl⟩) ⟨zb0, zp0⟩ rfl rfl hl.1 rfl (lv_room (Nat.le_of_ble_eq_true rfl)) d_M_domain_67 ⟨Nat.zero_le _, Nat.zero_le _⟩)) (fun r482 hv => ?_)
          have hv := hv.symm
          subst hv
          refine lv_if_eq (tgt := 105) hx hb d_M_domain_70 (by decide) (fun hc => ?_) (fun hc => ?_)
          · have hf := z_t hc hf
            refine lv_iconst (v := 2) hx hb d_M_domain_105 (by decide) ?_
            refine pf_M_50 (v := .int (2 : Int32)) hx hb hts hown hK hP hD hS hN_X rfl rfl (Nat.le_of_ble_eq_true rfl) d_M_domain_106 (fun ws H locs hP hD hS hN_X hfr => ?_)
            have hN_X : ws[21]? = some (aX, .inr (7, [.int (2 : Int32), .int X_side, .ref aXpicture, .ref aXhalf, .int X_many, .ref aXblocks, .int X_found, .int X_encodedBits, .ref aXencoded, .int X_fedMany, .ref aXfed, .int X_readAt, .int X_why, .int X_tried, .int X_waiting, .ref aXpile, .int X_decoded, .ref aXnews, .ref aXolds, .ref aXhalves, .ref aXds, .ref aXrs, .ref aXbest, .long X_bestError])) := hN_X
            have hN_Xpicture := (hfr _ (by decide)).trans hN_Xpicture
            have hN_Xhalf := (hfr _ (by decide)).trans hN_Xhalf
            have hN_Xds := (hfr _ (by decide)).trans hN_Xds
            have hw := z_fr (by decide) hw hfr
            refine lv_aload_n hx hb d_M_domain_109 rfl (lv_at hl 1 rfl) ?_
            refine gf_M_50 (v := .int (2 : Int32)) hx hb hts hown hK hP hN_X rfl d_M_domain_110 ?_
            refine lv_if_le (tgt := 118) hx hb d_M_domain_113 (by decide) (fun hc => ?_) (fun hc => ?_)
            · have hf := z_t hc hf
              refine lv_aload_n hx hb d_M_domain_118 rfl (lv_at hl 1 rfl) ?_
              refine gf_M_7 (v := .ref aXpicture) hx hb hts hown hK hP hN_X rfl d_M_domain_119 ?_
              refine lv_aload_n hx hb d_M_domain_122 rfl (lv_at hl 1 rfl) ?_
              refine gf_M_46 (v := .int X_side) hx hb hts hown hK hP hN_X rfl d_M_domain_123 ?_
              refine lv_aload_n hx hb d_M_domain_126 rfl (lv_at hl 1 rfl) ?_
              refine gf_M_13 (v := .ref aXhalf) hx hb hts hown hK hP hN_X rfl d_M_domain_127 ?_
              obtain ⟨q483, hc, hf⟩ := z_b hf
              have hFc := z_free hD hS hA
              refine va_callv (va_runS (As := [.ref aXpicture, .int X_side, .ref aXhalf]) (rest := []) ⟨hx, hb, hml, hown, hts⟩ (c_M_halve l dC dI cI cL _ X_side hN_Xpicture hN_Xhalf (by decide) q483 hc) (cw_M_133 hts ⟨Nat.le_of_ble_eq_true rfl, Nat.le_of_ble_eq_true rfl⟩) ⟨zbM, (zpM hP hK hZ hD)⟩ rfl rfl hl.1 rfl (lv_room (Nat.le_of_ble_eq_true rfl)) d_M_domain_130 ⟨Nat.zero_le _, Nat.zero_le _⟩) hS (fun q _ h => hFc q h) hFc (fun ws t H locs ht hvm hu hB hz1 hk1 hS => ?_)
              obtain ⟨hN_Xhalf, hfr⟩ := hu
              obtain ⟨hP, -, hD1⟩ := hB
              rw [ht] at hP
              have hD := hD1.weaken (fun _ _ _ h => hFc _ h)
              have hN_Xhalf : ws[23]? = some (aXhalf, .inl (cI, Xhalf_n, .inl q483)) := hN_Xhalf
              have hN_X := (hfr _ (by decide)).trans hN_X
              have hN_Xpicture := (hfr _ (by decide)).trans hN_Xpicture
              have hN_Xds := (hfr _ (by decide)).trans hN_Xds
              have hw := z_frC (by decide) hw hfr
              refine lv_aload_n hx hb d_M_domain_133 rfl (lv_at hl 1 rfl) ?_
              refine lv_iload_n hx hb d_M_domain_134 rfl (lv_at hl 2 rfl) ?_
              refine lv_iload_n hx hb d_M_domain_135 rfl (lv_at hl 3 rfl) ?_
              refine lv_iload_n hx hb d_M_domain_136 rfl (lv_at hl 4 rfl) ?_
              obtain ⟨q484, hc, hf⟩ := z_b hf
              have hFc := z_free hD hS hA
              refine va_callv (va_runV (As := [.int x1, .int x2, .int x3]) (rest := []) ⟨hx, hb, hml, hown, hts⟩ (c_M_layDomain l dC dI cI cL _ x1 x2 x3 hN_X hN_Xhalf hN_Xds q484 hc) (cw_M_105 hts ⟨Nat.le_of_ble_eq_true rfl, Nat.le_of_ble_eq_true rfl⟩) ⟨zbM, va_recv hK hP (ci := 7) rfl hN_X, (zpM hP hK hZ hD)⟩ rfl rfl hl.1 rfl (lv_room (Nat.le_of_ble_eq_true rfl)) d_M_domain_137 ⟨Nat.zero_le _, Nat.zero_le _⟩) hS (fun q _ h => hFc q h) hFc (fun ws t H locs ht hvm hu hB hz1 hk1 hS => ?_)
              obtain ⟨hN_Xds, hfr⟩ := hu
              obtain ⟨hP, -, hD1⟩ := hB
              rw [ht] at hP
              have hD := hD1.weaken (fun _ _ _ h => hFc _ h)
              have hN_Xds : ws[31]? = some (aXds, .inl (cI, Xds_n, .inl q484)) := hN_Xds
              have hN_X := (hfr _ (by decide)).trans hN_X
              have hN_Xpicture := (hfr _ (by decide)).trans hN_Xpicture
              have hN_Xhalf := (hfr _ (by decide)).trans hN_Xhalf
              have hw := z_frC (by decide) hw hfr
              refine lv_aload_n hx hb d_M_domain_140 rfl (lv_at hl 1 rfl) ?_
              refine gf_M_37 (v := .ref aXds) hx hb hts hown hK hP hN_X rfl d_M_domain_141 ?_
              refine lv_iload_n hx hb d_M_domain_144 rfl (lv_at hl 2 rfl) ?_
              refine lv_iload hx hb d_M_domain_145 (lv_at hl 6 rfl) ?_
              refine lv_imul hx hb d_M_domain_147 ?_
              refine lv_iload hx hb d_M_domain_148 (lv_at hl 5 rfl) ?_
              refine lv_iadd hx hb d_M_domain_150 ?_
              obtain ⟨hin, hf⟩ := z_no hf
              refine va_iald hx hb hK hP _ 0 hN_Xds rfl hin d_M_domain_151 ?_
              obtain rfl := Option.some.inj hf
              exact W.iret hx hb hr (fun t ht hW => ⟨⟨_, ws, rfl, ⟨rfl, hN_X, hN_Xhalf, hN_Xds, hw⟩, by rw [ht]; exact hP, va_K.moved hW.alike hK, hD⟩, hS.F ht⟩) hS.2.2 d_M_domain_152
            · have hf := z_f hc hf
              refine lv_iconst (v := 0) hx hb d_M_domain_116 (by decide) ?_
              obtain rfl := Option.some.inj hf
              exact W.iret hx hb hr (fun t ht hW => ⟨⟨_, ws, rfl, ⟨rfl, hN_X, hN_Xhalf, hN_Xds, hw⟩, by rw [ht]; exact hP, va_K.moved hW.alike hK, hD⟩, hS.F ht⟩) hS.2.2 d_M_domain_117
          · have hf := z_f hc hf
            refine lv_iload hx hb d_M_domain_73 (lv_at hl 5 rfl) ?_
            refine lv_i2l hx hb d_M_domain_75 rfl ?_
            refine lv_lconst (v := 0) hx hb d_M_domain_76 (by decide) ?_
            refine lv_iload_n hx hb d_M_domain_77 rfl (lv_at hl 2 rfl) ?_
            refine lv_iconst (v := 1) hx hb d_M_domain_78 (by decide) ?_
            refine lv_isub hx hb d_M_domain_79 ?_
            refine lv_i2l hx hb d_M_domain_80 rfl ?_
            obtain ⟨q485, hc, hf⟩ := z_b hf
            refine vp_callSi (z_cr (va_runS (As := [.long x4.toInt64, .long (0 : Int64), .long ((x1 - (1 : Int32)).toInt64)]) (rest := [.ref aX]) ⟨hx, hb, hml, hown, hts⟩ (c_M_in l x4.toInt64 (0 : Int64) ((x1 - (1 : Int32)).toInt64) q485 hc) (cw_M_55 hts ⟨Nat.le_of_ble_eq_true rfl, Nat.le_of_ble_eq_true rfl⟩) ⟨zb0, zp0⟩ rfl rfl hl.1 rfl (lv_room (Nat.le_of_ble_eq_true rfl)) d_M_domain_81 ⟨Nat.zero_le _, Nat.zero_le _⟩)) (fun r486 hv => ?_)
            have hv := hv.symm
            subst hv
            refine lv_if_eq (tgt := 105) hx hb d_M_domain_84 (by decide) (fun hc => ?_) (fun hc => ?_)
            · have hf := z_t hc hf
              refine lv_iconst (v := 2) hx hb d_M_domain_105 (by decide) ?_
              refine pf_M_50 (v := .int (2 : Int32)) hx hb hts hown hK hP hD hS hN_X rfl rfl (Nat.le_of_ble_eq_true rfl) d_M_domain_106 (fun ws H locs hP hD hS hN_X hfr => ?_)
              have hN_X : ws[21]? = some (aX, .inr (7, [.int (2 : Int32), .int X_side, .ref aXpicture, .ref aXhalf, .int X_many, .ref aXblocks, .int X_found, .int X_encodedBits, .ref aXencoded, .int X_fedMany, .ref aXfed, .int X_readAt, .int X_why, .int X_tried, .int X_waiting, .ref aXpile, .int X_decoded, .ref aXnews, .ref aXolds, .ref aXhalves, .ref aXds, .ref aXrs, .ref aXbest, .long X_bestError])) := hN_X
              have hN_Xpicture := (hfr _ (by decide)).trans hN_Xpicture
              have hN_Xhalf := (hfr _ (by decide)).trans hN_Xhalf
              have hN_Xds := (hfr _ (by decide)).trans hN_Xds
              have hw := z_fr (by decide) hw hfr
              refine lv_aload_n hx hb d_M_domain_109 rfl (lv_at hl 1 rfl) ?_
              refine gf_M_50 (v := .int (2 : Int32)) hx hb hts hown hK hP hN_X rfl d_M_domain_110 ?_
              refine lv_if_le (tgt := 118) hx hb d_M_domain_113 (by decide) (fun hc => ?_) (fun hc => ?_)
              · have hf := z_t hc hf
                refine lv_aload_n hx hb d_M_domain_118 rfl (lv_at hl 1 rfl) ?_
                refine gf_M_7 (v := .ref aXpicture) hx hb hts hown hK hP hN_X rfl d_M_domain_119 ?_
                refine lv_aload_n hx hb d_M_domain_122 rfl (lv_at hl 1 rfl) ?_
                refine gf_M_46 (v := .int X_side) hx hb hts hown hK hP hN_X rfl d_M_domain_123 ?_
                refine lv_aload_n hx hb d_M_domain_126 rfl (lv_at hl 1 rfl) ?_
                refine gf_M_13 (v := .ref aXhalf) hx hb hts hown hK hP hN_X rfl d_M_domain_127 ?_
                obtain ⟨q487, hc, hf⟩ := z_b hf
                have hFc := z_free hD hS hA
                refine va_callv (va_runS (As := [.ref aXpicture, .int X_side, .ref aXhalf]) (rest := []) ⟨hx, hb, hml, hown, hts⟩ (c_M_halve l dC dI cI cL _ X_side hN_Xpicture hN_Xhalf (by decide) q487 hc) (cw_M_133 hts ⟨Nat.le_of_ble_eq_true rfl, Nat.le_of_ble_eq_true rfl⟩) ⟨zbM, (zpM hP hK hZ hD)⟩ rfl rfl hl.1 rfl (lv_room (Nat.le_of_ble_eq_true rfl)) d_M_domain_130 ⟨Nat.zero_le _, Nat.zero_le _⟩) hS (fun q _ h => hFc q h) hFc (fun ws t H locs ht hvm hu hB hz1 hk1 hS => ?_)
                obtain ⟨hN_Xhalf, hfr⟩ := hu
                obtain ⟨hP, -, hD1⟩ := hB
                rw [ht] at hP
                have hD := hD1.weaken (fun _ _ _ h => hFc _ h)
                have hN_Xhalf : ws[23]? = some (aXhalf, .inl (cI, Xhalf_n, .inl q487)) := hN_Xhalf
                have hN_X := (hfr _ (by decide)).trans hN_X
                have hN_Xpicture := (hfr _ (by decide)).trans hN_Xpicture
                have hN_Xds := (hfr _ (by decide)).trans hN_Xds
                have hw := z_frC (by decide) hw hfr
                refine lv_aload_n hx hb d_M_domain_133 rfl (lv_at hl 1 rfl) ?_
                refine lv_iload_n hx hb d_M_domain_134 rfl (lv_at hl 2 rfl) ?_
                refine lv_iload_n hx hb d_M_domain_135 rfl (lv_at hl 3 rfl) ?_
                refine lv_iload_n hx hb d_M_domain_136 rfl (lv_at hl 4 rfl) ?_
                obtain ⟨q488, hc, hf⟩ := z_b hf
                have hFc := z_free hD hS hA
                refine va_callv (va_runV (As := [.int x1, .int x2, .int x3]) (rest := []) ⟨hx, hb, hml, hown, hts⟩ (c_M_layDomain l dC dI cI cL _ x1 x2 x3 hN_X hN_Xhalf hN_Xds q488 hc) (cw_M_105 hts ⟨Nat.le_of_ble_eq_true rfl, Nat.le_of_ble_eq_true rfl⟩) ⟨zbM, va_recv hK hP (ci := 7) rfl hN_X, (zpM hP hK hZ hD)⟩ rfl rfl hl.1 rfl (lv_room (Nat.le_of_ble_eq_true rfl)) d_M_domain_137 ⟨Nat.zero_le _, Nat.zero_le _⟩) hS (fun q _ h => hFc q h) hFc (fun ws t H locs ht hvm hu hB hz1 hk1 hS => ?_)
                obtain ⟨hN_Xds, hfr⟩ := hu
                obtain ⟨hP, -, hD1⟩ := hB
                rw [ht] at hP
                have hD := hD1.weaken (fun _ _ _ h => hFc _ h)
                have hN_Xds : ws[31]? = some (aXds, .inl (cI, Xds_n, .inl q488)) := hN_Xds
                have hN_X := (hfr _ (by decide)).trans hN_X
                have hN_Xpicture := (hfr _ (by decide)).trans hN_Xpicture
                have hN_Xhalf := (hfr _ (by decide)).trans hN_Xhalf
                have hw := z_frC (by decide) hw hfr
                refine lv_aload_n hx hb d_M_domain_140 rfl (lv_at hl 1 rfl) ?_
                refine gf_M_37 (v := .ref aXds) hx hb hts hown hK hP hN_X rfl d_M_domain_141 ?_
                refine lv_iload_n hx hb d_M_domain_144 rfl (lv_at hl 2 rfl) ?_
                refine lv_iload hx hb d_M_domain_145 (lv_at hl 6 rfl) ?_
                refine lv_imul hx hb d_M_domain_147 ?_
                refine lv_iload hx hb d_M_domain_148 (lv_at hl 5 rfl) ?_
                refine lv_iadd hx hb d_M_domain_150 ?_
                obtain ⟨hin, hf⟩ := z_no hf
                refine va_iald hx hb hK hP _ 0 hN_Xds rfl hin d_M_domain_151 ?_
                obtain rfl := Option.some.inj hf
                exact W.iret hx hb hr (fun t ht hW => ⟨⟨_, ws, rfl, ⟨rfl, hN_X, hN_Xhalf, hN_Xds, hw⟩, by rw [ht]; exact hP, va_K.moved hW.alike hK, hD⟩, hS.F ht⟩) hS.2.2 d_M_domain_152
              · have hf := z_f hc hf
                refine lv_iconst (v := 0) hx hb d_M_domain_116 (by decide) ?_
                obtain rfl := Option.some.inj hf
                exact W.iret hx hb hr (fun t ht hW => ⟨⟨_, ws, rfl, ⟨rfl, hN_X, hN_Xhalf, hN_Xds, hw⟩, by rw [ht]; exact hP, va_K.moved hW.alike hK, hD⟩, hS.F ht⟩) hS.2.2 d_M_domain_117
            · have hf := z_f hc hf
              refine lv_iload hx hb d_M_domain_87 (lv_at hl 6 rfl) ?_
              refine lv_i2l hx hb d_M_domain_89 rfl ?_
              refine lv_lconst (v := 0) hx hb d_M_domain_90 (by decide) ?_
              refine lv_iload_n hx hb d_M_domain_91 rfl (lv_at hl 2 rfl) ?_
              refine lv_iconst (v := 1) hx hb d_M_domain_92 (by decide) ?_
              refine lv_isub hx hb d_M_domain_93 ?_
              refine lv_i2l hx hb d_M_domain_94 rfl ?_
              obtain ⟨q489, hc, hf⟩ := z_b hf
              refine vp_callSi (z_cr (va_runS (As := [.long x5.toInt64, .long (0 : Int64), .long ((x1 - (1 : Int32)).toInt64)]) (rest := [.ref aX]) ⟨hx, hb, hml, hown, hts⟩ (c_M_in l x5.toInt64 (0 : Int64) ((x1 - (1 : Int32)).toInt64) q489 hc) (cw_M_55 hts ⟨Nat.le_of_ble_eq_true rfl, Nat.le_of_ble_eq_true rfl⟩) ⟨zb0, zp0⟩ rfl rfl hl.1 rfl (lv_room (Nat.le_of_ble_eq_true rfl)) d_M_domain_95 ⟨Nat.zero_le _, Nat.zero_le _⟩)) (fun r490 hv => ?_)
              have hv := hv.symm
              subst hv
              refine lv_if_eq (tgt := 105) hx hb d_M_domain_98 (by decide) (fun hc => ?_) (fun hc => ?_)
              · have hf := z_t hc hf
                refine lv_iconst (v := 2) hx hb d_M_domain_105 (by decide) ?_
                refine pf_M_50 (v := .int (2 : Int32)) hx hb hts hown hK hP hD hS hN_X rfl rfl (Nat.le_of_ble_eq_true rfl) d_M_domain_106 (fun ws H locs hP hD hS hN_X hfr => ?_)
                have hN_X : ws[21]? = some (aX, .inr (7, [.int (2 : Int32), .int X_side, .ref aXpicture, .ref aXhalf, .int X_many, .ref aXblocks, .int X_found, .int X_encodedBits, .ref aXencoded, .int X_fedMany, .ref aXfed, .int X_readAt, .int X_why, .int X_tried, .int X_waiting, .ref aXpile, .int X_decoded, .ref aXnews, .ref aXolds, .ref aXhalves, .ref aXds, .ref aXrs, .ref aXbest, .long X_bestError])) := hN_X
                have hN_Xpicture := (hfr _ (by decide)).trans hN_Xpicture
                have hN_Xhalf := (hfr _ (by decide)).trans hN_Xhalf
                have hN_Xds := (hfr _ (by decide)).trans hN_Xds
                have hw := z_fr (by decide) hw hfr
                refine lv_aload_n hx hb d_M_domain_109 rfl (lv_at hl 1 rfl) ?_
                refine gf_M_50 (v := .int (2 : Int32)) hx hb hts hown hK hP hN_X rfl d_M_domain_110 ?_
                refine lv_if_le (tgt := 118) hx hb d_M_domain_113 (by decide) (fun hc => ?_) (fun hc => ?_)
                · have hf := z_t hc hf
                  refine lv_aload_n hx hb d_M_domain_118 rfl (lv_at hl 1 rfl) ?_
                  refine gf_M_7 (v := .ref aXpicture) hx hb hts hown hK hP hN_X rfl d_M_domain_119 ?_
                  refine lv_aload_n hx hb d_M_domain_122 rfl (lv_at hl 1 rfl) ?_
                  refine gf_M_46 (v := .int X_side) hx hb hts hown hK hP hN_X rfl d_M_domain_123 ?_
                  refine lv_aload_n hx hb d_M_domain_126 rfl (lv_at hl 1 rfl) ?_
                  refine gf_M_13 (v := .ref aXhalf) hx hb hts hown hK hP hN_X rfl d_M_domain_127 ?_
                  obtain ⟨q491, hc, hf⟩ := z_b hf
                  have hFc := z_free hD hS hA
                  refine va_callv (va_runS (As := [.ref aXpicture, .int X_side, .ref aXhalf]) (rest := []) ⟨hx, hb, hml, hown, hts⟩ (c_M_halve l dC dI cI cL _ X_side hN_Xpicture hN_Xhalf (by decide) q491 hc) (cw_M_133 hts ⟨Nat.le_of_ble_eq_true rfl, Nat.le_of_ble_eq_true rfl⟩) ⟨zbM, (zpM hP hK hZ hD)⟩ rfl rfl hl.1 rfl (lv_room (Nat.le_of_ble_eq_true rfl)) d_M_domain_130 ⟨Nat.zero_le _, Nat.zero_le _⟩) hS (fun q _ h => hFc q h) hFc (fun ws t H locs ht hvm hu hB hz1 hk1 hS => ?_)
                  obtain ⟨hN_Xhalf, hfr⟩ := hu
                  obtain ⟨hP, -, hD1⟩ := hB
                  rw [ht] at hP
                  have hD := hD1.weaken (fun _ _ _ h => hFc _ h)
                  have hN_Xhalf : ws[23]? = some (aXhalf, .inl (cI, Xhalf_n, .inl q491)) := hN_Xhalf
                  have hN_X := (hfr _ (by decide)).trans hN_X
                  have hN_Xpicture := (hfr _ (by decide)).trans hN_Xpicture
                  have hN_Xds := (hfr _ (by decide)).trans hN_Xds
                  have hw := z_frC (by decide) hw hfr
                  refine lv_aload_n hx hb d_M_domain_133 rfl (lv_at hl 1 rfl) ?_
                  refine lv_iload_n hx hb d_M_domain_134 rfl (lv_at hl 2 rfl) ?_
                  refine lv_iload_n hx hb d_M_domain_135 rfl (lv_at hl 3 rfl) ?_
                  refine lv_iload_n hx hb d_M_domain_136 rfl (lv_at hl 4 rfl) ?_
                  obtain ⟨q492, hc, hf⟩ := z_b hf
                  have hFc := z_free hD hS hA
                  refine va_callv (va_runV (As := [.int x1, .int x2, .int x3]) (rest := []) ⟨hx, hb, hml, hown, hts⟩ (c_M_layDomain l dC dI cI cL _ x1 x2 x3 hN_X hN_Xhalf hN_Xds q492 hc) (cw_M_105 hts ⟨Nat.le_of_ble_eq_true rfl, Nat.le_of_ble_eq_true rfl⟩) ⟨zbM, va_recv hK hP (ci := 7) rfl hN_X, (zpM hP hK hZ hD)⟩ rfl rfl hl.1 rfl (lv_room (Nat.le_of_ble_eq_true rfl)) d_M_domain_137 ⟨Nat.zero_le _, Nat.zero_le _⟩) hS (fun q _ h => hFc q h) hFc (fun ws t H locs ht hvm hu hB hz1 hk1 hS => ?_)
                  obtain ⟨hN_Xds, hfr⟩ := hu
                  obtain ⟨hP, -, hD1⟩ := hB
                  rw [ht] at hP
                  have hD := hD1.weaken (fun _ _ _ h => hFc _ h)
                  have hN_Xds : ws[31]? = some (aXds, .inl (cI, Xds_n, .inl q492)) := hN_Xds
                  have hN_X := (hfr _ (by decide)).trans hN_X
                  have hN_Xpicture := (hfr _ (by decide)).trans hN_Xpicture
                  have hN_Xhalf := (hfr _ (by decide)).trans hN_Xhalf
                  have hw := z_frC (by decide) hw hfr
                  refine lv_aload_n hx hb d_M_domain_140 rfl (lv_at hl 1 rfl) ?_
                  refine gf_M_37 (v := .ref aXds) hx hb hts hown hK hP hN_X rfl d_M_domain_141 ?_
                  refine lv_iload_n hx hb d_M_domain_144 rfl (lv_at hl 2 rfl) ?_
                  refine lv_iload hx hb d_M_domain_145 (lv_at hl 6 rfl) ?_
                  refine lv_imul hx hb d_M_domain_147 ?_
                  refine lv_iload hx hb d_M_domain_148 (lv_at hl 5 rfl) ?_
                  refine lv_iadd hx hb d_M_domain_150 ?_
                  obtain ⟨hin, hf⟩ := z_no hf
                  refine va_iald hx hb hK hP _ 0 hN_Xds rfl hin d_M_domain_151 ?_
                  obtain rfl := Option.some.inj hf
                  exact W.iret hx hb hr (fun t ht hW => ⟨⟨_, ws, rfl, ⟨rfl, hN_X, hN_Xhalf, hN_Xds, hw⟩, by rw [ht]; exact hP, va_K.moved hW.alike hK, hD⟩, hS.F ht⟩) hS.2.2 d_M_domain_152
                · have hf := z_f hc hf
                  refine lv_iconst (v := 0) hx hb d_M_domain_116 (by decide) ?_
                  obtain rfl := Option.some.inj hf
                  exact W.iret hx hb hr (fun t ht hW => ⟨⟨_, ws, rfl, ⟨rfl, hN_X, hN_Xhalf, hN_Xds, hw⟩, by rw [ht]; exact hP, va_K.moved hW.alike hK, hD⟩, hS.F ht⟩) hS.2.2 d_M_domain_117
              · have hf := z_f hc hf
                refine lv_iconst (v := 0) hx hb d_M_domain_101 (by decide) ?_
                refine lv_goto (tgt := 106) hx hb d_M_domain_102 (by decide) ?_
                refine pf_M_50 (v := .int (0 : Int32)) hx hb hts hown hK hP hD hS hN_X rfl rfl (Nat.le_of_ble_eq_true rfl) d_M_domain_106 (fun ws H locs hP hD hS hN_X hfr => ?_)
                have hN_X : ws[21]? = some (aX, .inr (7, [.int (0 : Int32), .int X_side, .ref aXpicture, .ref aXhalf, .int X_many, .ref aXblocks, .int X_found, .int X_encodedBits, .ref aXencoded, .int X_fedMany, .ref aXfed, .int X_readAt, .int X_why, .int X_tried, .int X_waiting, .ref aXpile, .int X_decoded, .ref aXnews, .ref aXolds, .ref aXhalves, .ref aXds, .ref aXrs, .ref aXbest, .long X_bestError])) := hN_X
                have hN_Xpicture := (hfr _ (by decide)).trans hN_Xpicture
                have hN_Xhalf := (hfr _ (by decide)).trans hN_Xhalf
                have hN_Xds := (hfr _ (by decide)).trans hN_Xds
                have hw := z_fr (by decide) hw hfr
                refine lv_aload_n hx hb d_M_domain_109 rfl (lv_at hl 1 rfl) ?_
                refine gf_M_50 (v := .int (0 : Int32)) hx hb hts hown hK hP hN_X rfl d_M_domain_110 ?_
                refine lv_if_le (tgt := 118) hx hb d_M_domain_113 (by decide) (fun hc => ?_) (fun hc => ?_)
                · have hf := z_t hc hf
                  refine lv_aload_n hx hb d_M_domain_118 rfl (lv_at hl 1 rfl) ?_
                  refine gf_M_7 (v := .ref aXpicture) hx hb hts hown hK hP hN_X rfl d_M_domain_119 ?_
                  refine lv_aload_n hx hb d_M_domain_122 rfl (lv_at hl 1 rfl) ?_
                  refine gf_M_46 (v := .int X_side) hx hb hts hown hK hP hN_X rfl d_M_domain_123 ?_
                  refine lv_aload_n hx hb d_M_domain_126 rfl (lv_at hl 1 rfl) ?_
                  refine gf_M_13 (v := .ref aXhalf) hx hb hts hown hK hP hN_X rfl d_M_domain_127 ?_
                  obtain ⟨q493, hc, hf⟩ := z_b hf
                  have hFc := z_free hD hS hA
                  refine va_callv (va_runS (As := [.ref aXpicture, .int X_side, .ref aXhalf]) (rest := []) ⟨hx, hb, hml, hown, hts⟩ (c_M_halve l dC dI cI cL _ X_side hN_Xpicture hN_Xhalf (by decide) q493 hc) (cw_M_133 hts ⟨Nat.le_of_ble_eq_true rfl, Nat.le_of_ble_eq_true rfl⟩) ⟨zbM, (zpM hP hK hZ hD)⟩ rfl rfl hl.1 rfl (lv_room (Nat.le_of_ble_eq_true rfl)) d_M_domain_130 ⟨Nat.zero_le _, Nat.zero_le _⟩) hS (fun q _ h => hFc q h) hFc (fun ws t H locs ht hvm hu hB hz1 hk1 hS => ?_)
                  obtain ⟨hN_Xhalf, hfr⟩ := hu
                  obtain ⟨hP, -, hD1⟩ := hB
                  rw [ht] at hP
                  have hD := hD1.weaken (fun _ _ _ h => hFc _ h)
                  have hN_Xhalf : ws[23]? = some (aXhalf, .inl (cI, Xhalf_n, .inl q493)) := hN_Xhalf
                  have hN_X := (hfr _ (by decide)).trans hN_X
                  have hN_Xpicture := (hfr _ (by decide)).trans hN_Xpicture
                  have hN_Xds := (hfr _ (by decide)).trans hN_Xds
                  have hw := z_frC (by decide) hw hfr
                  refine lv_aload_n hx hb d_M_domain_133 rfl (lv_at hl 1 rfl) ?_
                  refine lv_iload_n hx hb d_M_domain_134 rfl (lv_at hl 2 rfl) ?_
                  refine lv_iload_n hx hb d_M_domain_135 rfl (lv_at hl 3 rfl) ?_
                  refine lv_iload_n hx hb d_M_domain_136 rfl (lv_at hl 4 rfl) ?_
                  obtain ⟨q494, hc, hf⟩ := z_b hf
                  have hFc := z_free hD hS hA
                  refine va_callv (va_runV (As := [.int x1, .int x2, .int x3]) (rest := []) ⟨hx, hb, hml, hown, hts⟩ (c_M_layDomain l dC dI cI cL _ x1 x2 x3 hN_X hN_Xhalf hN_Xds q494 hc) (cw_M_105 hts ⟨Nat.le_of_ble_eq_true rfl, Nat.le_of_ble_eq_true rfl⟩) ⟨zbM, va_recv hK hP (ci := 7) rfl hN_X, (zpM hP hK hZ hD)⟩ rfl rfl hl.1 rfl (lv_room (Nat.le_of_ble_eq_true rfl)) d_M_domain_137 ⟨Nat.zero_le _, Nat.zero_le _⟩) hS (fun q _ h => hFc q h) hFc (fun ws t H locs ht hvm hu hB hz1 hk1 hS => ?_)
                  obtain ⟨hN_Xds, hfr⟩ := hu
                  obtain ⟨hP, -, hD1⟩ := hB
                  rw [ht] at hP
                  have hD := hD1.weaken (fun _ _ _ h => hFc _ h)
                  have hN_Xds : ws[31]? = some (aXds, .inl (cI, Xds_n, .inl q494)) := hN_Xds
                  have hN_X := (hfr _ (by decide)).trans hN_X
                  have hN_Xpicture := (hfr _ (by decide)).trans hN_Xpicture
                  have hN_Xhalf := (hfr _ (by decide)).trans hN_Xhalf
                  have hw := z_frC (by decide) hw hfr
                  refine lv_aload_n hx hb d_M_domain_140 rfl (lv_at hl 1 rfl) ?_
                  refine gf_M_37 (v := .ref aXds) hx hb hts hown hK hP hN_X rfl d_M_domain_141 ?_
                  refine lv_iload_n hx hb d_M_domain_144 rfl (lv_at hl 2 rfl) ?_
                  refine lv_iload hx hb d_M_domain_145 (lv_at hl 6 rfl) ?_
                  refine lv_imul hx hb d_M_domain_147 ?_
                  refine lv_iload hx hb d_M_domain_148 (lv_at hl 5 rfl) ?_
                  refine lv_iadd hx hb d_M_domain_150 ?_
                  obtain ⟨hin, hf⟩ := z_no hf
                  refine va_iald hx hb hK hP _ 0 hN_Xds rfl hin d_M_domain_151 ?_
                  obtain rfl := Option.some.inj hf
                  exact W.iret hx hb hr (fun t ht hW => ⟨⟨_, ws, rfl, ⟨rfl, hN_X, hN_Xhalf, hN_Xds, hw⟩, by rw [ht]; exact hP, va_K.moved hW.alike hK, hD⟩, hS.F ht⟩) hS.2.2 d_M_domain_152
                · have hf := z_f hc hf
                  refine lv_iconst (v := 0) hx hb d_M_domain_116 (by decide) ?_
                  obtain rfl := Option.some.inj hf
                  exact W.iret hx hb hr (fun t ht hW => ⟨⟨_, ws, rfl, ⟨rfl, hN_X, hN_Xhalf, hN_Xds, hw⟩, by rw [ht]; exact hP, va_K.moved hW.alike hK, hD⟩, hS.F ht⟩) hS.2.2 d_M_domain_117
      · have hf := z_t hc hf
        refine lv_iconst (v := 1) hx hb d_M_domain_30 (by decide) ?_
        refine lv_goto (tgt := 35) hx hb d_M_domain_31 (by decide) ?_
        refine pf_M_50 (v := .int (1 : Int32)) hx hb hts hown hK hP hD hS hN_X rfl rfl (Nat.le_of_ble_eq_true rfl) d_M_domain_35 (fun ws H locs hP hD hS hN_X hfr => ?_)
        have hN_X : ws[21]? = some (aX, .inr (7, [.int (1 : Int32), .int X_side, .ref aXpicture, .ref aXhalf, .int X_many, .ref aXblocks, .int X_found, .int X_encodedBits, .ref aXencoded, .int X_fedMany, .ref aXfed, .int X_readAt, .int X_why, .int X_tried, .int X_waiting, .ref aXpile, .int X_decoded, .ref aXnews, .ref aXolds, .ref aXhalves, .ref aXds, .ref aXrs, .ref aXbest, .long X_bestError])) := hN_X
        have hN_Xpicture := (hfr _ (by decide)).trans hN_Xpicture
        have hN_Xhalf := (hfr _ (by decide)).trans hN_Xhalf
        have hN_Xds := (hfr _ (by decide)).trans hN_Xds
        have hw := z_fr (by decide) hw hfr
        refine lv_aload_n hx hb d_M_domain_38 rfl (lv_at hl 0 rfl) ?_
        refine gf_M_50 (v := .int (1 : Int32)) hx hb hts hown hK hP hN_X rfl d_M_domain_39 ?_
        refine lv_if_ne (tgt := 109) hx hb d_M_domain_42 (by decide) (fun hc => ?_) (fun hc => ?_)
        · have hf := z_f hc hf
          refine lv_aload_n hx hb d_M_domain_109 rfl (lv_at hl 0 rfl) ?_
          refine gf_M_50 (v := .int (1 : Int32)) hx hb hts hown hK hP hN_X rfl d_M_domain_110 ?_
          refine lv_if_le (tgt := 118) hx hb d_M_domain_113 (by decide) (fun hc => ?_) (fun hc => ?_)
          · have hf := z_t hc hf
            refine lv_aload_n hx hb d_M_domain_118 rfl (lv_at hl 0 rfl) ?_
            refine gf_M_7 (v := .ref aXpicture) hx hb hts hown hK hP hN_X rfl d_M_domain_119 ?_
            refine lv_aload_n hx hb d_M_domain_122 rfl (lv_at hl 0 rfl) ?_
            refine gf_M_46 (v := .int X_side) hx hb hts hown hK hP hN_X rfl d_M_domain_123 ?_
            refine lv_aload_n hx hb d_M_domain_126 rfl (lv_at hl 0 rfl) ?_
            refine gf_M_13 (v := .ref aXhalf) hx hb hts hown hK hP hN_X rfl d_M_domain_127 ?_
            obtain ⟨q495, hc, hf⟩ := z_b hf
            have hFc := z_free hD hS hA
            refine va_callv (va_runS (As := [.ref aXpicture, .int X_side, .ref aXhalf]) (rest := []) ⟨hx, hb, hml, hown, hts⟩ (c_M_halve l dC dI cI cL _ X_side hN_Xpicture hN_Xhalf (by decide) q495 hc) (cw_M_133 hts ⟨Nat.le_of_ble_eq_true rfl, Nat.le_of_ble_eq_true rfl⟩) ⟨zbM, (zpM hP hK hZ hD)⟩ rfl rfl hl.1 rfl (lv_room (Nat.le_of_ble_eq_true rfl)) d_M_domain_130 ⟨Nat.zero_le _, Nat.zero_le _⟩) hS (fun q _ h => hFc q h) hFc (fun ws t H locs ht hvm hu hB hz1 hk1 hS => ?_)
            obtain ⟨hN_Xhalf, hfr⟩ := hu
            obtain ⟨hP, -, hD1⟩ := hB
            rw [ht] at hP
            have hD := hD1.weaken (fun _ _ _ h => hFc _ h)
            have hN_Xhalf : ws[23]? = some (aXhalf, .inl (cI, Xhalf_n, .inl q495)) := hN_Xhalf
            have hN_X := (hfr _ (by decide)).trans hN_X
            have hN_Xpicture := (hfr _ (by decide)).trans hN_Xpicture
            have hN_Xds := (hfr _ (by decide)).trans hN_Xds
            have hw := z_frC (by decide) hw hfr
            refine lv_aload_n hx hb d_M_domain_133 rfl (lv_at hl 0 rfl) ?_
            refine lv_iload_n hx hb d_M_domain_134 rfl (lv_at hl 1 rfl) ?_
            refine lv_iload_n hx hb d_M_domain_135 rfl (lv_at hl 2 rfl) ?_
            refine lv_iload_n hx hb d_M_domain_136 rfl (lv_at hl 3 rfl) ?_
            obtain ⟨q496, hc, hf⟩ := z_b hf
            have hFc := z_free hD hS hA
            refine va_callv (va_runV (As := [.int x1, .int x2, .int x3]) (rest := []) ⟨hx, hb, hml, hown, hts⟩ (c_M_layDomain l dC dI cI cL _ x1 x2 x3 hN_X hN_Xhalf hN_Xds q496 hc) (cw_M_105 hts ⟨Nat.le_of_ble_eq_true rfl, Nat.le_of_ble_eq_true rfl⟩) ⟨zbM, va_recv hK hP (ci := 7) rfl hN_X, (zpM hP hK hZ hD)⟩ rfl rfl hl.1 rfl (lv_room (Nat.le_of_ble_eq_true rfl)) d_M_domain_137 ⟨Nat.zero_le _, Nat.zero_le _⟩) hS (fun q _ h => hFc q h) hFc (fun ws t H locs ht hvm hu hB hz1 hk1 hS => ?_)
            obtain ⟨hN_Xds, hfr⟩ := hu
            obtain ⟨hP, -, hD1⟩ := hB
            rw [ht] at hP
            have hD := hD1.weaken (fun _ _ _ h => hFc _ h)
            have hN_Xds : ws[31]? = some (aXds, .inl (cI, Xds_n, .inl q496)) := hN_Xds
            have hN_X := (hfr _ (by decide)).trans hN_X
            have hN_Xpicture := (hfr _ (by decide)).trans hN_Xpicture
            have hN_Xhalf := (hfr _ (by decide)).trans hN_Xhalf
            have hw := z_frC (by decide) hw hfr
            refine lv_aload_n hx hb d_M_domain_140 rfl (lv_at hl 0 rfl) ?_
            refine gf_M_37 (v := .ref aXds) hx hb hts hown hK hP hN_X rfl d_M_domain_141 ?_
            refine lv_iload_n hx hb d_M_domain_144 rfl (lv_at hl 1 rfl) ?_
            refine lv_iload hx hb d_M_domain_145 (lv_at hl 5 rfl) ?_
            refine lv_imul hx hb d_M_domain_147 ?_
            refine lv_iload hx hb d_M_domain_148 (lv_at hl 4 rfl) ?_
            refine lv_iadd hx hb d_M_domain_150 ?_
            obtain ⟨hin, hf⟩ := z_no hf
            refine va_iald hx hb hK hP _ 0 hN_Xds rfl hin d_M_domain_151 ?_
            obtain rfl := Option.some.inj hf
            exact W.iret hx hb hr (fun t ht hW => ⟨⟨_, ws, rfl, ⟨rfl, hN_X, hN_Xhalf, hN_Xds, hw⟩, by rw [ht]; exact hP, va_K.moved hW.alike hK, hD⟩, hS.F ht⟩) hS.2.2 d_M_domain_152
          · have hf := z_f hc hf
            refine lv_iconst (v := 0) hx hb d_M_domain_116 (by decide) ?_
            obtain rfl := Option.some.inj hf
            exact W.iret hx hb hr (fun t ht hW => ⟨⟨_, ws, rfl, ⟨rfl, hN_X, hN_Xhalf, hN_Xds, hw⟩, by rw [ht]; exact hP, va_K.moved hW.alike hK, hD⟩, hS.F ht⟩) hS.2.2 d_M_domain_117
        · have hf := z_t hc hf
          refine lv_aload_n hx hb d_M_domain_45 rfl (lv_at hl 0 rfl) ?_
          refine lv_iload_n hx hb d_M_domain_46 rfl (lv_at hl 1 rfl) ?_
          obtain ⟨q497, hc, hf⟩ := z_b hf
          refine vp_callSi (z_cr (va_runV (As := [.int x1]) (rest := []) ⟨hx, hb, hml, hown, hts⟩ (c_M_domains l dC dI cI cL x1 hN_X q497 hc) (cw_M_69 hts ⟨Nat.le_of_ble_eq_true rfl, Nat.le_of_ble_eq_true rfl⟩) ⟨zbR, va_recv hK hP (ci := 7) rfl hN_X, (zpR hP hK hZ)⟩ rfl rfl hl.1 rfl (lv_room (Nat.le_of_ble_eq_true rfl)) d_M_domain_47 ⟨Nat.zero_le _, Nat.zero_le _⟩)) (fun r498 hv => ?_)
          have hv := hv.symm
          subst hv
          refine lv_aload_n hx hb d_M_domain_50 rfl (lv_at hl 0 rfl) ?_
          refine lv_iload_n hx hb d_M_domain_51 rfl (lv_at hl 1 rfl) ?_
          obtain ⟨q499, hc, hf⟩ := z_b hf
          refine vp_callSi (z_cr (va_runV (As := [.int x1]) (rest := [.int q497]) ⟨hx, hb, hml, hown, hts⟩ (c_M_domains l dC dI cI cL x1 hN_X q499 hc) (cw_M_69 hts ⟨Nat.le_of_ble_eq_true rfl, Nat.le_of_ble_eq_true rfl⟩) ⟨zbR, va_recv hK hP (ci := 7) rfl hN_X, (zpR hP hK hZ)⟩ rfl rfl hl.1 rfl (lv_room (Nat.le_of_ble_eq_true rfl)) d_M_domain_52 ⟨Nat.zero_le _, Nat.zero_le _⟩)) (fun r500 hv => ?_)
          have hv := hv.symm
          subst hv
          refine lv_imul hx hb d_M_domain_55 ?_
          refine lv_istore (lv' := [(6, .int (q497 * q499)), (0, .ref aX), (1, .int x1), (2, .int x2), (3, .int x3), (4, .int x4), (5, .int x5)]) hx hb d_M_domain_56 hl (by decide) rfl (fun ls hl => ?_)
          refine lv_aload_n hx hb d_M_domain_58 rfl (lv_at hl 1 rfl) ?_
          refine lv_iload_n hx hb d_M_domain_59 rfl (lv_at hl 3 rfl) ?_
          refine lv_i2l hx hb d_M_domain_60 rfl ?_
          refine lv_lconst (v := 0) hx hb d_M_domain_61 (by decide) ?_
          refine lv_iload hx hb d_M_domain_62 (lv_at hl 0 rfl) ?_
          refine lv_iconst (v := 1) hx hb d_M_domain_64 (by decide) ?_
          refine lv_isub hx hb d_M_domain_65 ?_
          refine lv_i2l hx hb d_M_domain_66 rfl ?_
          obtain ⟨q501, hc, hf⟩ := z_b hf
          refine vp_callSi (z_cr (va_runS (As := [.long x2.toInt64, .long (0 : Int64), .long (((q497 * q499) - (1 : Int32)).toInt64)]) (rest := [.ref aX]) ⟨hx, hb, hml, hown, hts⟩ (c_M_in l x2.toInt64 (0 : Int64) (((q497 * q499) - (1 : Int32)).toInt64) q501 hc) (cw_M_55 hts ⟨Nat.le_of_ble_eq_true rfl, Nat.le_of_ble_eq_true rfl⟩) ⟨zb0, zp0⟩ rfl rfl hl.1 rfl (lv_room (Nat.le_of_ble_eq_true rfl)) d_M_domain_67 ⟨Nat.zero_le _, Nat.zero_le _⟩)) (fun r502 hv => ?_)
          have hv := hv.symm
          subst hv
          refine lv_if_eq (tgt := 105) hx hb d_M_domain_70 (by decide) (fun hc => ?_) (fun hc => ?_)
          · have hf := z_t hc hf
            refine lv_iconst (v := 2) hx hb d_M_domain_105 (by decide) ?_
            refine pf_M_50 (v := .int (2 : Int32)) hx hb hts hown hK hP hD hS hN_X rfl rfl (Nat.le_of_ble_eq_true rfl) d_M_domain_106 (fun ws H locs hP hD hS hN_X hfr => ?_)
            have hN_X : ws[21]? = some (aX, .inr (7, [.int (2 : Int32), .int X_side, .ref aXpicture, .ref aXhalf, .int X_many, .ref aXblocks, .int X_found, .int X_encodedBits, .ref aXencoded, .int X_fedMany, .ref aXfed, .int X_readAt, .int X_why, .int X_tried, .int X_waiting, .ref aXpile, .int X_decoded, .ref aXnews, .ref aXolds, .ref aXhalves, .ref aXds, .ref aXrs, .ref aXbest, .long X_bestError])) := hN_X
            have hN_Xpicture := (hfr _ (by decide)).trans hN_Xpicture
            have hN_Xhalf := (hfr _ (by decide)).trans hN_Xhalf
            have hN_Xds := (hfr _ (by decide)).trans hN_Xds
            have hw := z_fr (by decide) hw hfr
            refine lv_aload_n hx hb d_M_domain_109 rfl (lv_at hl 1 rfl) ?_
            refine gf_M_50 (v := .int (2 : Int32)) hx hb hts hown hK hP hN_X rfl d_M_domain_110 ?_
            refine lv_if_le (tgt := 118) hx hb d_M_domain_113 (by decide) (fun hc => ?_) (fun hc => ?_)
            · have hf := z_t hc hf
              refine lv_aload_n hx hb d_M_domain_118 rfl (lv_at hl 1 rfl) ?_
              refine gf_M_7 (v := .ref aXpicture) hx hb hts hown hK hP hN_X rfl d_M_domain_119 ?_
              refine lv_aload_n hx hb d_M_domain_122 rfl (lv_at hl 1 rfl) ?_
              refine gf_M_46 (v := .int X_side) hx hb hts hown hK hP hN_X rfl d_M_domain_123 ?_
              refine lv_aload_n hx hb d_M_domain_126 rfl (lv_at hl 1 rfl) ?_
              refine gf_M_13 (v := .ref aXhalf) hx hb hts hown hK hP hN_X rfl d_M_domain_127 ?_
              obtain ⟨q503, hc, hf⟩ := z_b hf
              have hFc := z_free hD hS hA
              refine va_callv (va_runS (As := [.ref aXpicture, .int X_side, .ref aXhalf]) (rest := []) ⟨hx, hb, hml, hown, hts⟩ (c_M_halve l dC dI cI cL _ X_side hN_Xpicture hN_Xhalf (by decide) q503 hc) (cw_M_133 hts ⟨Nat.le_of_ble_eq_true rfl, Nat.le_of_ble_eq_true rfl⟩) ⟨zbM, (zpM hP hK hZ hD)⟩ rfl rfl hl.1 rfl (lv_room (Nat.le_of_ble_eq_true rfl)) d_M_domain_130 ⟨Nat.zero_le _, Nat.zero_le _⟩) hS (fun q _ h => hFc q h) hFc (fun ws t H locs ht hvm hu hB hz1 hk1 hS => ?_)
              obtain ⟨hN_Xhalf, hfr⟩ := hu
              obtain ⟨hP, -, hD1⟩ := hB
              rw [ht] at hP
              have hD := hD1.weaken (fun _ _ _ h => hFc _ h)
              have hN_Xhalf : ws[23]? = some (aXhalf, .inl (cI, Xhalf_n, .inl q503)) := hN_Xhalf
              have hN_X := (hfr _ (by decide)).trans hN_X
              have hN_Xpicture := (hfr _ (by decide)).trans hN_Xpicture
              have hN_Xds := (hfr _ (by decide)).trans hN_Xds
              have hw := z_frC (by decide) hw hfr
              refine lv_aload_n hx hb d_M_domain_133 rfl (lv_at hl 1 rfl) ?_
              refine lv_iload_n hx hb d_M_domain_134 rfl (lv_at hl 2 rfl) ?_
              refine lv_iload_n hx hb d_M_domain_135 rfl (lv_at hl 3 rfl) ?_
              refine lv_iload_n hx hb d_M_domain_136 rfl (lv_at hl 4 rfl) ?_
              obtain ⟨q504, hc, hf⟩ := z_b hf
              have hFc := z_free hD hS hA
              refine va_callv (va_runV (As := [.int x1, .int x2, .int x3]) (rest := []) ⟨hx, hb, hml, hown, hts⟩ (c_M_layDomain l dC dI cI cL _ x1 x2 x3 hN_X hN_Xhalf hN_Xds q504 hc) (cw_M_105 hts ⟨Nat.le_of_ble_eq_true rfl, Nat.le_of_ble_eq_true rfl⟩) ⟨zbM, va_recv hK hP (ci := 7) rfl hN_X, (zpM hP hK hZ hD)⟩ rfl rfl hl.1 rfl (lv_room (Nat.le_of_ble_eq_true rfl)) d_M_domain_137 ⟨Nat.zero_le _, Nat.zero_le _⟩) hS (fun q _ h => hFc q h) hFc (fun ws t H locs ht hvm hu hB hz1 hk1 hS => ?_)
              obtain ⟨hN_Xds, hfr⟩ := hu
              obtain ⟨hP, -, hD1⟩ := hB
              rw [ht] at hP
              have hD := hD1.weaken (fun _ _ _ h => hFc _ h)
              have hN_Xds : ws[31]? = some (aXds, .inl (cI, Xds_n, .inl q504)) := hN_Xds
              have hN_X := (hfr _ (by decide)).trans hN_X
              have hN_Xpicture := (hfr _ (by decide)).trans hN_Xpicture
              have hN_Xhalf := (hfr _ (by decide)).trans hN_Xhalf
              have hw := z_frC (by decide) hw hfr
              refine lv_aload_n hx hb d_M_domain_140 rfl (lv_at hl 1 rfl) ?_
              refine gf_M_37 (v := .ref aXds) hx hb hts hown hK hP hN_X rfl d_M_domain_141 ?_
              refine lv_iload_n hx hb d_M_domain_144 rfl (lv_at hl 2 rfl) ?_
              refine lv_iload hx hb d_M_domain_145 (lv_at hl 6 rfl) ?_
              refine lv_imul hx hb d_M_domain_147 ?_
              refine lv_iload hx hb d_M_domain_148 (lv_at hl 5 rfl) ?_
              refine lv_iadd hx hb d_M_domain_150 ?_
              obtain ⟨hin, hf⟩ := z_no hf
              refine va_iald hx hb hK hP _ 0 hN_Xds rfl hin d_M_domain_151 ?_
              obtain rfl := Option.some.inj hf
              exact W.iret hx hb hr (fun t ht hW => ⟨⟨_, ws, rfl, ⟨rfl, hN_X, hN_Xhalf, hN_Xds, hw⟩, by rw [ht]; exact hP, va_K.moved hW.alike hK, hD⟩, hS.F ht⟩) hS.2.2 d_M_domain_152
            · have hf := z_f hc hf
              refine lv_iconst (v := 0) hx hb d_M_domain_116 (by decide) ?_
              obtain rfl := Option.some.inj hf
              exact W.iret hx hb hr (fun t ht hW => ⟨⟨_, ws, rfl, ⟨rfl, hN_X, hN_Xhalf, hN_Xds, hw⟩, by rw [ht]; exact hP, va_K.moved hW.alike hK, hD⟩, hS.F ht⟩) hS.2.2 d_M_domain_117
          · have hf := z_f hc hf
            refine lv_iload hx hb d_M_domain_73 (lv_at hl 5 rfl) ?_
            refine lv_i2l hx hb d_M_domain_75 rfl ?_
            refine lv_lconst (v := 0) hx hb d_M_domain_76 (by decide) ?_
            refine lv_iload_n hx hb d_M_domain_77 rfl (lv_at hl 2 rfl) ?_
            refine lv_iconst (v := 1) hx hb d_M_domain_78 (by decide) ?_
            refine lv_isub hx hb d_M_domain_79 ?_
            refine lv_i2l hx hb d_M_domain_80 rfl ?_
            obtain ⟨q505, hc, hf⟩ := z_b hf
            refine vp_callSi (z_cr (va_runS (As := [.long x4.toInt64, .long (0 : Int64), .long ((x1 - (1 : Int32)).toInt64)]) (rest := [.ref aX]) ⟨hx, hb, hml, hown, hts⟩ (c_M_in l x4.toInt64 (0 : Int64) ((x1 - (1 : Int32)).toInt64) q505 hc) (cw_M_55 hts ⟨Nat.le_of_ble_eq_true rfl, Nat.le_of_ble_eq_true rfl⟩) ⟨zb0, zp0⟩ rfl rfl hl.1 rfl (lv_room (Nat.le_of_ble_eq_true rfl)) d_M_domain_81 ⟨Nat.zero_le _, Nat.zero_le _⟩)) (fun r506 hv => ?_)
            have hv := hv.symm
            subst hv
            refine lv_if_eq (tgt := 105) hx hb d_M_domain_84 (by decide) (fun hc => ?_) (fun hc => ?_)
            · have hf := z_t hc hf
              refine lv_iconst (v := 2) hx hb d_M_domain_105 (by decide) ?_
              refine pf_M_50 (v := .int (2 : Int32)) hx hb hts hown hK hP hD hS hN_X rfl rfl (Nat.le_of_ble_eq_true rfl) d_M_domain_106 (fun ws H locs hP hD hS hN_X hfr => ?_)
              have hN_X : ws[21]? = some (aX, .inr (7, [.int (2 : Int32), .int X_side, .ref aXpicture, .ref aXhalf, .int X_many, .ref aXblocks, .int X_found, .int X_encodedBits, .ref aXencoded, .int X_fedMany, .ref aXfed, .int X_readAt, .int X_why, .int X_tried, .int X_waiting, .ref aXpile, .int X_decoded, .ref aXnews, .ref aXolds, .ref aXhalves, .ref aXds, .ref aXrs, .ref aXbest, .long X_bestError])) := hN_X
              have hN_Xpicture := (hfr _ (by decide)).trans hN_Xpicture
              have hN_Xhalf := (hfr _ (by decide)).trans hN_Xhalf
              have hN_Xds := (hfr _ (by decide)).trans hN_Xds
              have hw := z_fr (by decide) hw hfr
              refine lv_aload_n hx hb d_M_domain_109 rfl (lv_at hl 1 rfl) ?_
              refine gf_M_50 (v := .int (2 : Int32)) hx hb hts hown hK hP hN_X rfl d_M_domain_110 ?_
              refine lv_if_le (tgt := 118) hx hb d_M_domain_113 (by decide) (fun hc => ?_) (fun hc => ?_)
              · have hf := z_t hc hf
                refine lv_aload_n hx hb d_M_domain_118 rfl (lv_at hl 1 rfl) ?_
                refine gf_M_7 (v := .ref aXpicture) hx hb hts hown hK hP hN_X rfl d_M_domain_119 ?_
                refine lv_aload_n hx hb d_M_domain_122 rfl (lv_at hl 1 rfl) ?_
                refine gf_M_46 (v := .int X_side) hx hb hts hown hK hP hN_X rfl d_M_domain_123 ?_
                refine lv_aload_n hx hb d_M_domain_126 rfl (lv_at hl 1 rfl) ?_
                refine gf_M_13 (v := .ref aXhalf) hx hb hts hown hK hP hN_X rfl d_M_domain_127 ?_
                obtain ⟨q507, hc, hf⟩ := z_b hf
                have hFc := z_free hD hS hA
                refine va_callv (va_runS (As := [.ref aXpicture, .int X_side, .ref aXhalf]) (rest := []) ⟨hx, hb, hml, hown, hts⟩ (c_M_halve l dC dI cI cL _ X_side hN_Xpicture hN_Xhalf (by decide) q507 hc) (cw_M_133 hts ⟨Nat.le_of_ble_eq_true rfl, Nat.le_of_ble_eq_true rfl⟩) ⟨zbM, (zpM hP hK hZ hD)⟩ rfl rfl hl.1 rfl (lv_room (Nat.le_of_ble_eq_true rfl)) d_M_domain_130 ⟨Nat.zero_le _, Nat.zero_le _⟩) hS (fun q _ h => hFc q h) hFc (fun ws t H locs ht hvm hu hB hz1 hk1 hS => ?_)
                obtain ⟨hN_Xhalf, hfr⟩ := hu
                obtain ⟨hP, -, hD1⟩ := hB
                rw [ht] at hP
                have hD := hD1.weaken (fun _ _ _ h => hFc _ h)
                have hN_Xhalf : ws[23]? = some (aXhalf, .inl (cI, Xhalf_n, .inl q507)) := hN_Xhalf
                have hN_X := (hfr _ (by decide)).trans hN_X
                have hN_Xpicture := (hfr _ (by decide)).trans hN_Xpicture
                have hN_Xds := (hfr _ (by decide)).trans hN_Xds
                have hw := z_frC (by decide) hw hfr
                refine lv_aload_n hx hb d_M_domain_133 rfl (lv_at hl 1 rfl) ?_
                refine lv_iload_n hx hb d_M_domain_134 rfl (lv_at hl 2 rfl) ?_
                refine lv_iload_n hx hb d_M_domain_135 rfl (lv_at hl 3 rfl) ?_
                refine lv_iload_n hx hb d_M_domain_136 rfl (lv_at hl 4 rfl) ?_
                obtain ⟨q508, hc, hf⟩ := z_b hf
                have hFc := z_free hD hS hA
                refine va_callv (va_runV (As := [.int x1, .int x2, .int x3]) (rest := []) ⟨hx, hb, hml, hown, hts⟩ (c_M_layDomain l dC dI cI cL _ x1 x2 x3 hN_X hN_Xhalf hN_Xds q508 hc) (cw_M_105 hts ⟨Nat.le_of_ble_eq_true rfl, Nat.le_of_ble_eq_true rfl⟩) ⟨zbM, va_recv hK hP (ci := 7) rfl hN_X, (zpM hP hK hZ hD)⟩ rfl rfl hl.1 rfl (lv_room (Nat.le_of_ble_eq_true rfl)) d_M_domain_137 ⟨Nat.zero_le _, Nat.zero_le _⟩) hS (fun q _ h => hFc q h) hFc (fun ws t H locs ht hvm hu hB hz1 hk1 hS => ?_)
                obtain ⟨hN_Xds, hfr⟩ := hu
                obtain ⟨hP, -, hD1⟩ := hB
                rw [ht] at hP
                have hD := hD1.weaken (fun _ _ _ h => hFc _ h)
                have hN_Xds : ws[31]? = some (aXds, .inl (cI, Xds_n, .inl q508)) := hN_Xds
                have hN_X := (hfr _ (by decide)).trans hN_X
                have hN_Xpicture := (hfr _ (by decide)).trans hN_Xpicture
                have hN_Xhalf := (hfr _ (by decide)).trans hN_Xhalf
                have hw := z_frC (by decide) hw hfr
                refine lv_aload_n hx hb d_M_domain_140 rfl (lv_at hl 1 rfl) ?_
                refine gf_M_37 (v := .ref aXds) hx hb hts hown hK hP hN_X rfl d_M_domain_141 ?_
                refine lv_iload_n hx hb d_M_domain_144 rfl (lv_at hl 2 rfl) ?_
                refine lv_iload hx hb d_M_domain_145 (lv_at hl 6 rfl) ?_
                refine lv_imul hx hb d_M_domain_147 ?_
                refine lv_iload hx hb d_M_domain_148 (lv_at hl 5 rfl) ?_
                refine lv_iadd hx hb d_M_domain_150 ?_
                obtain ⟨hin, hf⟩ := z_no hf
                refine va_iald hx hb hK hP _ 0 hN_Xds rfl hin d_M_domain_151 ?_
                obtain rfl := Option.some.inj hf
                exact W.iret hx hb hr (fun t ht hW => ⟨⟨_, ws, rfl, ⟨rfl, hN_X, hN_Xhalf, hN_Xds, hw⟩, by rw [ht]; exact hP, va_K.moved hW.alike hK, hD⟩, hS.F ht⟩) hS.2.2 d_M_domain_152
              · have hf := z_f hc hf
                refine lv_iconst (v := 0) hx hb d_M_domain_116 (by decide) ?_
                obtain rfl := Option.some.inj hf
                exact W.iret hx hb hr (fun t ht hW => ⟨⟨_, ws, rfl, ⟨rfl, hN_X, hN_Xhalf, hN_Xds, hw⟩, by rw [ht]; exact hP, va_K.moved hW.alike hK, hD⟩, hS.F ht⟩) hS.2.2 d_M_domain_117
            · have hf := z_f hc hf
              refine lv_iload hx hb d_M_domain_87 (lv_at hl 6 rfl) ?_
              refine lv_i2l hx hb d_M_domain_89 rfl ?_
              refine lv_lconst (v := 0) hx hb d_M_domain_90 (by decide) ?_
              refine lv_iload_n hx hb d_M_domain_91 rfl (lv_at hl 2 rfl) ?_
              refine lv_iconst (v := 1) hx hb d_M_domain_92 (by decide) ?_
              refine lv_isub hx hb d_M_domain_93 ?_
              refine lv_i2l hx hb d_M_domain_94 rfl ?_
              obtain ⟨q509, hc, hf⟩ := z_b hf
              refine vp_callSi (z_cr (va_runS (As := [.long x5.toInt64, .long (0 : Int64), .long ((x1 - (1 : Int32)).toInt64)]) (rest := [.ref aX]) ⟨hx, hb, hml, hown, hts⟩ (c_M_in l x5.toInt64 (0 : Int64) ((x1 - (1 : Int32)).toInt64) q509 hc) (cw_M_55 hts ⟨Nat.le_of_ble_eq_true rfl, Nat.le_of_ble_eq_true rfl⟩) ⟨zb0, zp0⟩ rfl rfl hl.1 rfl (lv_room (Nat.le_of_ble_eq_true rfl)) d_M_domain_95 ⟨Nat.zero_le _, Nat.zero_le _⟩)) (fun r510 hv => ?_)
              have hv := hv.symm
              subst hv
              refine lv_if_eq (tgt := 105) hx hb d_M_domain_98 (by decide) (fun hc => ?_) (fun hc => ?_)
              · have hf := z_t hc hf
                refine lv_iconst (v := 2) hx hb d_M_domain_105 (by decide) ?_
                refine pf_M_50 (v := .int (2 : Int32)) hx hb hts hown hK hP hD hS hN_X rfl rfl (Nat.le_of_ble_eq_true rfl) d_M_domain_106 (fun ws H locs hP hD hS hN_X hfr => ?_)
                have hN_X : ws[21]? = some (aX, .inr (7, [.int (2 : Int32), .int X_side, .ref aXpicture, .ref aXhalf, .int X_many, .ref aXblocks, .int X_found, .int X_encodedBits, .ref aXencoded, .int X_fedMany, .ref aXfed, .int X_readAt, .int X_why, .int X_tried, .int X_waiting, .ref aXpile, .int X_decoded, .ref aXnews, .ref aXolds, .ref aXhalves, .ref aXds, .ref aXrs, .ref aXbest, .long X_bestError])) := hN_X
                have hN_Xpicture := (hfr _ (by decide)).trans hN_Xpicture
                have hN_Xhalf := (hfr _ (by decide)).trans hN_Xhalf
                have hN_Xds := (hfr _ (by decide)).trans hN_Xds
                have hw := z_fr (by decide) hw hfr
                refine lv_aload_n hx hb d_M_domain_109 rfl (lv_at hl 1 rfl) ?_
                refine gf_M_50 (v := .int (2 : Int32)) hx hb hts hown hK hP hN_X rfl d_M_domain_110 ?_
                refine lv_if_le (tgt := 118) hx hb d_M_domain_113 (by decide) (fun hc => ?_) (fun hc => ?_)
                · have hf := z_t hc hf
                  refine lv_aload_n hx hb d_M_domain_118 rfl (lv_at hl 1 rfl) ?_
                  refine gf_M_7 (v := .ref aXpicture) hx hb hts hown hK hP hN_X rfl d_M_domain_119 ?_
                  refine lv_aload_n hx hb d_M_domain_122 rfl (lv_at hl 1 rfl) ?_
                  refine gf_M_46 (v := .int X_side) hx hb hts hown hK hP hN_X rfl d_M_domain_123 ?_
                  refine lv_aload_n hx hb d_M_domain_126 rfl (lv_at hl 1 rfl) ?_
                  refine gf_M_13 (v := .ref aXhalf) hx hb hts hown hK hP hN_X rfl d_M_domain_127 ?_
                  obtain ⟨q511, hc, hf⟩ := z_b hf
                  have hFc := z_free hD hS hA
                  refine va_callv (va_runS (As := [.ref aXpicture, .int X_side, .ref aXhalf]) (rest := []) ⟨hx, hb, hml, hown, hts⟩ (c_M_halve l dC dI cI cL _ X_side hN_Xpicture hN_Xhalf (by decide) q511 hc) (cw_M_133 hts ⟨Nat.le_of_ble_eq_true rfl, Nat.le_of_ble_eq_true rfl⟩) ⟨zbM, (zpM hP hK hZ hD)⟩ rfl rfl hl.1 rfl (lv_room (Nat.le_of_ble_eq_true rfl)) d_M_domain_130 ⟨Nat.zero_le _, Nat.zero_le _⟩) hS (fun q _ h => hFc q h) hFc (fun ws t H locs ht hvm hu hB hz1 hk1 hS => ?_)
                  obtain ⟨hN_Xhalf, hfr⟩ := hu
                  obtain ⟨hP, -, hD1⟩ := hB
                  rw [ht] at hP
                  have hD := hD1.weaken (fun _ _ _ h => hFc _ h)
                  have hN_Xhalf : ws[23]? = some (aXhalf, .inl (cI, Xhalf_n, .inl q511)) := hN_Xhalf
                  have hN_X := (hfr _ (by decide)).trans hN_X
                  have hN_Xpicture := (hfr _ (by decide)).trans hN_Xpicture
                  have hN_Xds := (hfr _ (by decide)).trans hN_Xds
                  have hw := z_frC (by decide) hw hfr
                  refine lv_aload_n hx hb d_M_domain_133 rfl (lv_at hl 1 rfl) ?_
                  refine lv_iload_n hx hb d_M_domain_134 rfl (lv_at hl 2 rfl) ?_
                  refine lv_iload_n hx hb d_M_domain_135 rfl (lv_at hl 3 rfl) ?_
                  refine lv_iload_n hx hb d_M_domain_136 rfl (lv_at hl 4 rfl) ?_
                  obtain ⟨q512, hc, hf⟩ := z_b hf
                  have hFc := z_free hD hS hA
                  refine va_callv (va_runV (As := [.int x1, .int x2, .int x3]) (rest := []) ⟨hx, hb, hml, hown, hts⟩ (c_M_layDomain l dC dI cI cL _ x1 x2 x3 hN_X hN_Xhalf hN_Xds q512 hc) (cw_M_105 hts ⟨Nat.le_of_ble_eq_true rfl, Nat.le_of_ble_eq_true rfl⟩) ⟨zbM, va_recv hK hP (ci := 7) rfl hN_X, (zpM hP hK hZ hD)⟩ rfl rfl hl.1 rfl (lv_room (Nat.le_of_ble_eq_true rfl)) d_M_domain_137 ⟨Nat.zero_le _, Nat.zero_le _⟩) hS (fun q _ h => hFc q h) hFc (fun ws t H locs ht hvm hu hB hz1 hk1 hS => ?_)
                  obtain ⟨hN_Xds, hfr⟩ := hu
                  obtain ⟨hP, -, hD1⟩ := hB
                  rw [ht] at hP
                  have hD := hD1.weaken (fun _ _ _ h => hFc _ h)
                  have hN_Xds : ws[31]? = some (aXds, .inl (cI, Xds_n, .inl q512)) := hN_Xds
                  have hN_X := (hfr _ (by decide)).trans hN_X
                  have hN_Xpicture := (hfr _ (by decide)).trans hN_Xpicture
                  have hN_Xhalf := (hfr _ (by decide)).trans hN_Xhalf
                  have hw := z_frC (by decide) hw hfr
                  refine lv_aload_n hx hb d_M_domain_140 rfl (lv_at hl 1 rfl) ?_
                  refine gf_M_37 (v := .ref aXds) hx hb hts hown hK hP hN_X rfl d_M_domain_141 ?_
                  refine lv_iload_n hx hb d_M_domain_144 rfl (lv_at hl 2 rfl) ?_
                  refine lv_iload hx hb d_M_domain_145 (lv_at hl 6 rfl) ?_
                  refine lv_imul hx hb d_M_domain_147 ?_
                  refine lv_iload hx hb d_M_domain_148 (lv_at hl 5 rfl) ?_
                  refine lv_iadd hx hb d_M_domain_150 ?_
                  obtain ⟨hin, hf⟩ := z_no hf
                  refine va_iald hx hb hK hP _ 0 hN_Xds rfl hin d_M_domain_151 ?_
                  obtain rfl := Option.some.inj hf
                  exact W.iret hx hb hr (fun t ht hW => ⟨⟨_, ws, rfl, ⟨rfl, hN_X, hN_Xhalf, hN_Xds, hw⟩, by rw [ht]; exact hP, va_K.moved hW.alike hK, hD⟩, hS.F ht⟩) hS.2.2 d_M_domain_152
                · have hf := z_f hc hf
                  refine lv_iconst (v := 0) hx hb d_M_domain_116 (by decide) ?_
                  obtain rfl := Option.some.inj hf
                  exact W.iret hx hb hr (fun t ht hW => ⟨⟨_, ws, rfl, ⟨rfl, hN_X, hN_Xhalf, hN_Xds, hw⟩, by rw [ht]; exact hP, va_K.moved hW.alike hK, hD⟩, hS.F ht⟩) hS.2.2 d_M_domain_117
              · have hf := z_f hc hf
                refine lv_iconst (v := 0) hx hb d_M_domain_101 (by decide) ?_
                refine lv_goto (tgt := 106) hx hb d_M_domain_102 (by decide) ?_
                refine pf_M_50 (v := .int (0 : Int32)) hx hb hts hown hK hP hD hS hN_X rfl rfl (Nat.le_of_ble_eq_true rfl) d_M_domain_106 (fun ws H locs hP hD hS hN_X hfr => ?_)
                have hN_X : ws[21]? = some (aX, .inr (7, [.int (0 : Int32), .int X_side, .ref aXpicture, .ref aXhalf, .int X_many, .ref aXblocks, .int X_found, .int X_encodedBits, .ref aXencoded, .int X_fedMany, .ref aXfed, .int X_readAt, .int X_why, .int X_tried, .int X_waiting, .ref aXpile, .int X_decoded, .ref aXnews, .ref aXolds, .ref aXhalves, .ref aXds, .ref aXrs, .ref aXbest, .long X_bestError])) := hN_X
                have hN_Xpicture := (hfr _ (by decide)).trans hN_Xpicture
                have hN_Xhalf := (hfr _ (by decide)).trans hN_Xhalf
                have hN_Xds := (hfr _ (by decide)).trans hN_Xds
                have hw := z_fr (by decide) hw hfr
                refine lv_aload_n hx hb d_M_domain_109 rfl (lv_at hl 1 rfl) ?_
                refine gf_M_50 (v := .int (0 : Int32)) hx hb hts hown hK hP hN_X rfl d_M_domain_110 ?_
                refine lv_if_le (tgt := 118) hx hb d_M_domain_113 (by decide) (fun hc => ?_) (fun hc => ?_)
                · have hf := z_t hc hf
                  refine lv_aload_n hx hb d_M_domain_118 rfl (lv_at hl 1 rfl) ?_
                  refine gf_M_7 (v := .ref aXpicture) hx hb hts hown hK hP hN_X rfl d_M_domain_119 ?_
                  refine lv_aload_n hx hb d_M_domain_122 rfl (lv_at hl 1 rfl) ?_
                  refine gf_M_46 (v := .int X_side) hx hb hts hown hK hP hN_X rfl d_M_domain_123 ?_
                  refine lv_aload_n hx hb d_M_domain_126 rfl (lv_at hl 1 rfl) ?_
                  refine gf_M_13 (v := .ref aXhalf) hx hb hts hown hK hP hN_X rfl d_M_domain_127 ?_
                  obtain ⟨q513, hc, hf⟩ := z_b hf
                  have hFc := z_free hD hS hA
                  refine va_callv (va_runS (As := [.ref aXpicture, .int X_side, .ref aXhalf]) (rest := []) ⟨hx, hb, hml, hown, hts⟩ (c_M_halve l dC dI cI cL _ X_side hN_Xpicture hN_Xhalf (by decide) q513 hc) (cw_M_133 hts ⟨Nat.le_of_ble_eq_true rfl, Nat.le_of_ble_eq_true rfl⟩) ⟨zbM, (zpM hP hK hZ hD)⟩ rfl rfl hl.1 rfl (lv_room (Nat.le_of_ble_eq_true rfl)) d_M_domain_130 ⟨Nat.zero_le _, Nat.zero_le _⟩) hS (fun q _ h => hFc q h) hFc (fun ws t H locs ht hvm hu hB hz1 hk1 hS => ?_)
                  obtain ⟨hN_Xhalf, hfr⟩ := hu
                  obtain ⟨hP, -, hD1⟩ := hB
                  rw [ht] at hP
                  have hD := hD1.weaken (fun _ _ _ h => hFc _ h)
                  have hN_Xhalf : ws[23]? = some (aXhalf, .inl (cI, Xhalf_n, .inl q513)) := hN_Xhalf
                  have hN_X := (hfr _ (by decide)).trans hN_X
                  have hN_Xpicture := (hfr _ (by decide)).trans hN_Xpicture
                  have hN_Xds := (hfr _ (by decide)).trans hN_Xds
                  have hw := z_frC (by decide) hw hfr
                  refine lv_aload_n hx hb d_M_domain_133 rfl (lv_at hl 1 rfl) ?_
                  refine lv_iload_n hx hb d_M_domain_134 rfl (lv_at hl 2 rfl) ?_
                  refine lv_iload_n hx hb d_M_domain_135 rfl (lv_at hl 3 rfl) ?_
                  refine lv_iload_n hx hb d_M_domain_136 rfl (lv_at hl 4 rfl) ?_
                  obtain ⟨q514, hc, hf⟩ := z_b hf
                  have hFc := z_free hD hS hA
                  refine va_callv (va_runV (As := [.int x1, .int x2, .int x3]) (rest := []) ⟨hx, hb, hml, hown, hts⟩ (c_M_layDomain l dC dI cI cL _ x1 x2 x3 hN_X hN_Xhalf hN_Xds q514 hc) (cw_M_105 hts ⟨Nat.le_of_ble_eq_true rfl, Nat.le_of_ble_eq_true rfl⟩) ⟨zbM, va_recv hK hP (ci := 7) rfl hN_X, (zpM hP hK hZ hD)⟩ rfl rfl hl.1 rfl (lv_room (Nat.le_of_ble_eq_true rfl)) d_M_domain_137 ⟨Nat.zero_le _, Nat.zero_le _⟩) hS (fun q _ h => hFc q h) hFc (fun ws t H locs ht hvm hu hB hz1 hk1 hS => ?_)
                  obtain ⟨hN_Xds, hfr⟩ := hu
                  obtain ⟨hP, -, hD1⟩ := hB
                  rw [ht] at hP
                  have hD := hD1.weaken (fun _ _ _ h => hFc _ h)
                  have hN_Xds : ws[31]? = some (aXds, .inl (cI, Xds_n, .inl q514)) := hN_Xds
                  have hN_X := (hfr _ (by decide)).trans hN_X
                  have hN_Xpicture := (hfr _ (by decide)).trans hN_Xpicture
                  have hN_Xhalf := (hfr _ (by decide)).trans hN_Xhalf
                  have hw := z_frC (by decide) hw hfr
                  refine lv_aload_n hx hb d_M_domain_140 rfl (lv_at hl 1 rfl) ?_
                  refine gf_M_37 (v := .ref aXds) hx hb hts hown hK hP hN_X rfl d_M_domain_141 ?_
                  refine lv_iload_n hx hb d_M_domain_144 rfl (lv_at hl 2 rfl) ?_
                  refine lv_iload hx hb d_M_domain_145 (lv_at hl 6 rfl) ?_
                  refine lv_imul hx hb d_M_domain_147 ?_
                  refine lv_iload hx hb d_M_domain_148 (lv_at hl 5 rfl) ?_
                  refine lv_iadd hx hb d_M_domain_150 ?_
                  obtain ⟨hin, hf⟩ := z_no hf
                  refine va_iald hx hb hK hP _ 0 hN_Xds rfl hin d_M_domain_151 ?_
                  obtain rfl := Option.some.inj hf
                  exact W.iret hx hb hr (fun t ht hW => ⟨⟨_, ws, rfl, ⟨rfl, hN_X, hN_Xhalf, hN_Xds, hw⟩, by rw [ht]; exact hP, va_K.moved hW.alike hK, hD⟩, hS.F ht⟩) hS.2.2 d_M_domain_152
                · have hf := z_f hc hf
                  refine lv_iconst (v := 0) hx hb d_M_domain_116 (by decide) ?_
                  obtain rfl := Option.some.inj hf
                  exact W.iret hx hb hr (fun t ht hW => ⟨⟨_, ws, rfl, ⟨rfl, hN_X, hN_Xhalf, hN_Xds, hw⟩, by rw [ht]; exact hP, va_K.moved hW.alike hK, hD⟩, hS.F ht⟩) hS.2.2 d_M_domain_117
