section
def FU : Nat := 1048576
def f_G_has (x1 : Int32) (x2 : Int32) (G_side : Int32) : Option (Int32) := if x1 < 0 then (some (0 : Int32)) else (if G_side ≤ x1 then (some (0 : Int32)) else (if x2 < 0 then (some (0 : Int32)) else (if G_side ≤ x2 then (some (0 : Int32)) else (some (1 : Int32)))))
def f_G_sample (x1 : Int32) (x2 : Int32) (G_side : Int32) (GA_n : Nat) (GA_f : Nat → Int32) : Option (Int32) := if x1 < 0 then (some (0 : Int32)) else (if G_side ≤ x1 then (some (0 : Int32)) else (if x2 < 0 then (some (0 : Int32)) else (if G_side ≤ x2 then (some (0 : Int32)) else (if ((x2 * G_side) + x1) < 0 ∨ GA_n ≤ ((x2 * G_side) + x1).toNatClampNeg then none else (some (GA_f ((x2 * G_side) + x1).toNatClampNeg))))))
def f_G_set (x1 : Int32) (x2 : Int32) (x3 : Int32) (G_side : Int32) (GA_n : Nat) (GA_f : Nat → Int32) : Option (Nat → Int32) := (f_G_has x1 x2 G_side).bind (fun q1 => if q1 = 0 then (some GA_f) else (if ((x2 * G_side) + x1) < 0 ∨ GA_n ≤ ((x2 * G_side) + x1).toNatClampNeg then none else (some (upd GA_f ((x2 * G_side) + x1).toNatClampNeg x3))))
def f_F_put (x1 : Int32) (x2 : Int32) (x3 : Int32) (P_side : Int32) (PA_n : Nat) (PA_f : Nat → Int32) : Option (Nat ⊕ (Int32 × (Nat → Int32))) := (f_G_has x1 x2 P_side).bind (fun q3 => if q3 = 0 then (some (.inl 1)) else (if x3 < 0 then (some (.inl 2)) else (if x3 ≤ (255 : Int32) then ((f_G_sample x1 x2 P_side PA_n PA_f).bind (fun q5 => (f_G_set x1 x2 x3 P_side PA_n PA_f).bind (fun q7 => some (.inr (q5, q7))))) else (some (.inl 2)))))
def f_K_fact (x1 : Int32) (x2 : Int32) (K_count : Int32) (KA_n : Nat) (KA_f : Nat → Int32) : Option (Int32) := if x1 < 0 then (some ((-1) : Int32)) else (if K_count ≤ x1 then (some ((-1) : Int32)) else (if x2 < 0 then (some ((-1) : Int32)) else (if x2 < (8 : Int32) then (if (((8 : Int32) * x1) + x2) < 0 ∨ KA_n ≤ (((8 : Int32) * x1) + x2).toNatClampNeg then none else (some (KA_f (((8 : Int32) * x1) + x2).toNatClampNeg))) else (some ((-1) : Int32)))))
def f_F_block (x1 : Int32) (x2 : Int32) (K_count : Int32) (KA_n : Nat) (KA_f : Nat → Int32) : Option (Nat ⊕ (Int32)) := if x1 < 0 then (some (.inl 1)) else (if x1 < K_count then (if x2 < 0 then (some (.inl 2)) else (if x2 < (8 : Int32) then ((f_K_fact x1 x2 K_count KA_n KA_f).bind (fun q8 => some (.inr q8))) else (some (.inl 2)))) else (some (.inl 1)))
def f_B_bytes (B_filled : Int32) : Option (Int32) := some (((B_filled + (8 : Int32)) - (1 : Int32)) / (8 : Int32))
def f_B_byteOf (x1 : Int32) (BA_n : Nat) (BA_f : Nat → Int32) : Option (Int32) := if x1 < 0 then (some (0 : Int32)) else (if (nI BA_n) ≤ x1 then (some (0 : Int32)) else (if x1 < 0 ∨ BA_n ≤ x1.toNatClampNeg then none else (some (BA_f x1.toNatClampNeg))))
def f_F_byteAt (x1 : Int32) (C_filled : Int32) (CA_n : Nat) (CA_f : Nat → Int32) : Option (Nat ⊕ (Int32)) := if x1 < 0 then (some (.inl 1)) else ((f_B_bytes C_filled).bind (fun q10 => if x1 < q10 then ((f_B_byteOf x1 CA_n CA_f).bind (fun q12 => some (.inr q12))) else (some (.inl 1))))
def f_B_appendBit (x1 : Int32) (B_filled : Int32) (BA_n : Nat) (BA_f : Nat → Int32) : Option (Int32 × (Nat → Int32)) := if (B_filled / (8 : Int32)) < 0 then (some (B_filled, BA_f)) else (if (B_filled / (8 : Int32)) < (nI BA_n) then (if (B_filled - B_filled / (8 : Int32) * (8 : Int32)) = 0 then (if (B_filled / (8 : Int32)) < 0 ∨ BA_n ≤ (B_filled / (8 : Int32)).toNatClampNeg then none else (some ((B_filled + (1 : Int32)), (upd BA_f (B_filled / (8 : Int32)).toNatClampNeg ((0 : Int32) ||| (x1 <<< (((7 : Int32) - (B_filled - B_filled / (8 : Int32) * (8 : Int32))) &&& 31))))))) else (if (B_filled / (8 : Int32)) < 0 ∨ BA_n ≤ (B_filled / (8 : Int32)).toNatClampNeg then none else (if (B_filled / (8 : Int32)) < 0 ∨ BA_n ≤ (B_filled / (8 : Int32)).toNatClampNeg then none else (some ((B_filled + (1 : Int32)), (upd BA_f (B_filled / (8 : Int32)).toNatClampNeg ((BA_f (B_filled / (8 : Int32)).toNatClampNeg) ||| (x1 <<< (((7 : Int32) - (B_filled - B_filled / (8 : Int32) * (8 : Int32))) &&& 31))))))))) else (some (B_filled, BA_f)))
def f_B_append_4 (p1 : Int32) (p2 : Int32) (BA_n : Nat) : Nat → Int32 → Int32 → (Nat → Int32) → Option (Int32 × Int32 × (Nat → Int32))
  | 0, _, _, _ => none
  | n + 1, v3, B_filled, BA_f => if v3 < 0 then (some (v3, B_filled, BA_f)) else ((f_B_appendBit ((p1 >>> (v3 &&& 31)) &&& (1 : Int32)) B_filled BA_n BA_f).bind (fun q14 => f_B_append_4 p1 p2 BA_n n (v3 + (-1)) q14.1 q14.2))
def f_B_append (x1 : Int32) (x2 : Int32) (B_filled : Int32) (BA_n : Nat) (BA_f : Nat → Int32) : Option (Int32 × (Nat → Int32)) := (f_B_append_4 x1 x2 BA_n FU (x2 - (1 : Int32)) B_filled BA_f).bind (fun q15 => some (q15.2.1, q15.2.2))
def f_F_feed (x1 : Int32) (I_filled : Int32) (IA_n : Nat) (IA_f : Nat → Int32) : Option (Nat ⊕ (Int32 × Int32 × (Nat → Int32))) := if x1 < 0 then (some (.inl 2)) else (if x1 ≤ (255 : Int32) then ((f_B_bytes I_filled).bind (fun q21 => if q21 < (2000 : Int32) then ((f_B_append x1 (8 : Int32) I_filled IA_n IA_f).bind (fun q23 => (f_B_bytes q23.1).bind (fun q24 => some (.inr (q24, q23.1, q23.2))))) else (some (.inl 4)))) else (some (.inl 2)))
def f_F_pass_35 (p1 : Int32) (CA_n : Nat) (CA_f : Nat → Int32) (IA_n : Nat) : Nat → Int32 → Int32 → (Nat → Int32) → Option (Int32 × Int32 × (Nat → Int32))
  | 0, _, _, _ => none
  | n + 1, v2, I_filled, IA_f => if p1 ≤ v2 then (some (v2, I_filled, IA_f)) else ((f_B_byteOf v2 CA_n CA_f).bind (fun q30 => (f_B_append q30 (8 : Int32) I_filled IA_n IA_f).bind (fun q32 => f_F_pass_35 p1 CA_n CA_f IA_n n (v2 + 1) q32.1 q32.2)))
def f_F_pass (C_filled : Int32) (CA_n : Nat) (CA_f : Nat → Int32) (I_filled : Int32) (IA_n : Nat) (IA_f : Nat → Int32) : Option (Nat ⊕ (Int32 × Int32 × (Nat → Int32))) := (f_B_bytes C_filled).bind (fun q26 => (f_B_bytes I_filled).bind (fun q28 => if (q28 + q26) ≤ (2000 : Int32) then ((f_F_pass_35 q26 CA_n CA_f IA_n FU (0 : Int32) I_filled IA_f).bind (fun q33 => (f_B_bytes q33.2.1).bind (fun q41 => some (.inr (q41, q33.2.1, q33.2.2))))) else (some (.inl 4))))
def f_F_at (x1 : Int32) (x2 : Int32) (N_side : Int32) (NA_n : Nat) (NA_f : Nat → Int32) : Option (Nat ⊕ (Int32)) := (f_G_has x1 x2 N_side).bind (fun q43 => if q43 = 0 then (some (.inl 1)) else ((f_G_sample x1 x2 N_side NA_n NA_f).bind (fun q45 => some (.inr q45))))
def f_F_missed_39 (p3 : Int32) (O_side : Int32) (P_side : Int32) (PA_n : Nat) (PA_f : Nat → Int32) (N_side : Int32) (NA_n : Nat) (NA_f : Nat → Int32) : Nat → Int64 → Int32 → Option (Int64 × Int32)
  | 0, _, _ => none
  | n + 1, v1, v4 => if O_side ≤ v4 then (some (v1, v4)) else ((f_G_sample v4 p3 P_side PA_n PA_f).bind (fun q47 => (f_G_sample v4 p3 N_side NA_n NA_f).bind (fun q49 => f_F_missed_39 p3 O_side P_side PA_n PA_f N_side NA_n NA_f n (v1 + ((q47 - q49).toInt64 * (q47 - q49).toInt64)) (v4 + 1))))
def f_F_missed_28 (O_side : Int32) (P_side : Int32) (PA_n : Nat) (PA_f : Nat → Int32) (N_side : Int32) (NA_n : Nat) (NA_f : Nat → Int32) : Nat → Int64 → Int32 → Option (Int64 × Int32)
  | 0, _, _ => none
  | n + 1, v1, v3 => if O_side ≤ v3 then (some (v1, v3)) else ((f_F_missed_39 v3 O_side P_side PA_n PA_f N_side NA_n NA_f FU v1 (0 : Int32)).bind (fun q51 => f_F_missed_28 O_side P_side PA_n PA_f N_side NA_n NA_f n q51.1 (v3 + 1)))
def f_F_missed (O_side : Int32) (P_side : Int32) (PA_n : Nat) (PA_f : Nat → Int32) (N_side : Int32) (NA_n : Nat) (NA_f : Nat → Int32) : Option (Nat ⊕ (Int64)) := if N_side = O_side then ((f_F_missed_28 O_side P_side PA_n PA_f N_side NA_n NA_f FU (0 : Int64) (0 : Int32)).bind (fun q59 => some (.inr q59.1))) else (some (.inl 3))
def f_F_isSize (x1 : Int32) : Option (Int32) := if x1 = (2 : Int32) then (some (1 : Int32)) else (if x1 = (4 : Int32) then (some (1 : Int32)) else (if x1 = (8 : Int32) then (some (1 : Int32)) else (if x1 = (16 : Int32) then (some (1 : Int32)) else (some (0 : Int32)))))
def f_F_acrossOf (x1 : Int32) : Option (Int32) := some (x1 &&& (1 : Int32))
def f_F_downOf (x1 : Int32) : Option (Int32) := some (x1 >>> ((1 : Int32) &&& 31))
def f_G_sum_15 (p1 : Int32) (p2 : Int32) (p3 : Int32) (p5 : Int32) (G_side : Int32) (GA_n : Nat) (GA_f : Nat → Int32) : Nat → Int32 → Int32 → Option (Int32 × Int32)
  | 0, _, _ => none
  | n + 1, v4, v6 => if p3 ≤ v6 then (some (v4, v6)) else ((f_G_sample (p1 + v6) (p2 + p5) G_side GA_n GA_f).bind (fun q71 => f_G_sum_15 p1 p2 p3 p5 G_side GA_n GA_f n (v4 + q71) (v6 + 1)))
def f_G_sum_6 (p1 : Int32) (p2 : Int32) (p3 : Int32) (G_side : Int32) (GA_n : Nat) (GA_f : Nat → Int32) : Nat → Int32 → Int32 → Option (Int32 × Int32)
  | 0, _, _ => none
  | n + 1, v4, v5 => if p3 ≤ v5 then (some (v4, v5)) else ((f_G_sum_15 p1 p2 p3 v5 G_side GA_n GA_f FU v4 (0 : Int32)).bind (fun q73 => f_G_sum_6 p1 p2 p3 G_side GA_n GA_f n q73.1 (v5 + 1)))
def f_G_sum (x1 : Int32) (x2 : Int32) (x3 : Int32) (G_side : Int32) (GA_n : Nat) (GA_f : Nat → Int32) : Option (Int32) := (f_G_sum_6 x1 x2 x3 G_side GA_n GA_f FU (0 : Int32) (0 : Int32)).bind (fun q79 => some q79.1)
def f_G_brightestQuarter_14 (p1 : Int32) (p2 : Int32) (p3 : Int32) (p4 : Int32) (G_side : Int32) (GA_n : Nat) (GA_f : Nat → Int32) : Nat → Int32 → Int32 → Int32 → Option (Int32 × Int32 × Int32)
  | 0, _, _, _ => none
  | n + 1, v5, v6, v7 => if (4 : Int32) ≤ v7 then (some (v5, v6, v7)) else ((f_F_acrossOf v7).bind (fun q89 => (f_F_downOf v7).bind (fun q91 => (f_G_sum (p1 + (q89 * p4)) (p2 + (q91 * p4)) p4 G_side GA_n GA_f).bind (fun q93 => if q93 ≤ v6 then (f_G_brightestQuarter_14 p1 p2 p3 p4 G_side GA_n GA_f n v5 v6 (v7 + 1)) else (f_G_brightestQuarter_14 p1 p2 p3 p4 G_side GA_n GA_f n v7 q93 (v7 + 1))))))
def f_G_brightestQuarter (x1 : Int32) (x2 : Int32) (x3 : Int32) (G_side : Int32) (GA_n : Nat) (GA_f : Nat → Int32) : Option (Int32) := (f_G_brightestQuarter_14 x1 x2 x3 (x3 / (2 : Int32)) G_side GA_n GA_f FU (0 : Int32) ((-1) : Int32) (0 : Int32)).bind (fun q95 => some q95.1)
def f_F_kind (x1 : Int32) (x2 : Int32) (x3 : Int32) (O_side : Int32) (P_side : Int32) (PA_n : Nat) (PA_f : Nat → Int32) : Option (Nat ⊕ (Int32)) := (f_F_isSize x3).bind (fun q106 => if q106 = 0 then (some (.inl 2)) else (if x1 < 0 then (some (.inl 1)) else (if (O_side - x3) < x1 then (some (.inl 1)) else (if x2 < 0 then (some (.inl 1)) else (if x2 ≤ (O_side - x3) then ((f_G_brightestQuarter x1 x2 x3 P_side PA_n PA_f).bind (fun q108 => some (.inr q108))) else (some (.inl 1)))))))
def f_F_domainsAcross (x1 : Int32) (x2 : Int32) : Option (Int32) := if x2 < (1 : Int32) then (some (0 : Int32)) else (if x2 ≤ x1 then (if x2 = 0 then none else (some ((x1 / x2) - (1 : Int32)))) else (some (0 : Int32)))
def f_F_domainsOf (x1 : Int32) (x2 : Int32) : Option (Int32) := (f_F_domainsAcross x1 x2).bind (fun q110 => some (q110 * q110))
def f_G_becomeHalfOf_29 (p2 : Int32) (G_side : Int32) (GA_n : Nat) (yG_side : Int32) (yGA_n : Nat) (yGA_f : Nat → Int32) : Nat → Int32 → (Nat → Int32) → Option (Int32 × (Nat → Int32))
  | 0, _, _ => none
  | n + 1, v3, GA_f => if G_side ≤ v3 then (some (v3, GA_f)) else ((f_G_sum ((2 : Int32) * v3) ((2 : Int32) * p2) (2 : Int32) yG_side yGA_n yGA_f).bind (fun q112 => (f_G_set v3 p2 ((q112 + (2 : Int32)) / (4 : Int32)) G_side GA_n GA_f).bind (fun q114 => f_G_becomeHalfOf_29 p2 G_side GA_n yG_side yGA_n yGA_f n (v3 + 1) q114)))
def f_G_becomeHalfOf_19 (G_side : Int32) (GA_n : Nat) (yG_side : Int32) (yGA_n : Nat) (yGA_f : Nat → Int32) : Nat → Int32 → (Nat → Int32) → Option (Int32 × (Nat → Int32))
  | 0, _, _ => none
  | n + 1, v2, GA_f => if G_side ≤ v2 then (some (v2, GA_f)) else ((f_G_becomeHalfOf_29 v2 G_side GA_n yG_side yGA_n yGA_f FU (0 : Int32) GA_f).bind (fun q115 => f_G_becomeHalfOf_19 G_side GA_n yG_side yGA_n yGA_f n (v2 + 1) q115.2))
def f_G_becomeHalfOf (G_mostSide : Int32) (G_side : Int32) (GA_n : Nat) (GA_f : Nat → Int32) (yG_side : Int32) (yGA_n : Nat) (yGA_f : Nat → Int32) : Option (Int32 × (Nat → Int32)) := (f_G_becomeHalfOf_19 (if G_mostSide < (yG_side / (2 : Int32)) then G_mostSide else (yG_side / (2 : Int32))) GA_n yG_side yGA_n yGA_f FU (0 : Int32) GA_f).bind (fun q122 => some ((if G_mostSide < (yG_side / (2 : Int32)) then G_mostSide else (yG_side / (2 : Int32))), q122.2))
def f_V_sourceDown (x1 : Int32) (x2 : Int32) (x3 : Int32) (x4 : Int32) : Option (Int32) := if (x2 &&& (3 : Int32)) = 0 then (if (x2 &&& (3 : Int32)) = 0 then (some x4) else (if (x2 &&& (3 : Int32)) = (3 : Int32) then (some x4) else (some ((x1 - (1 : Int32)) - x4)))) else (if (x2 &&& (3 : Int32)) = (2 : Int32) then (if (x2 &&& (3 : Int32)) = 0 then (some x4) else (if (x2 &&& (3 : Int32)) = (3 : Int32) then (some x4) else (some ((x1 - (1 : Int32)) - x4)))) else (if (x2 &&& (3 : Int32)) = 0 then (some x3) else (if (x2 &&& (3 : Int32)) = (3 : Int32) then (some x3) else (some ((x1 - (1 : Int32)) - x3)))))
def f_V_sourceAcross (x1 : Int32) (x2 : Int32) (x3 : Int32) (x4 : Int32) : Option (Int32) := if (x2 &&& (3 : Int32)) = 0 then (if (2 : Int32) ≤ (x2 &&& (3 : Int32)) then (if (4 : Int32) ≤ x2 then (some ((x1 - (1 : Int32)) - ((x1 - (1 : Int32)) - x3))) else (some ((x1 - (1 : Int32)) - x3))) else (if (4 : Int32) ≤ x2 then (some ((x1 - (1 : Int32)) - x3)) else (some x3))) else (if (x2 &&& (3 : Int32)) = (2 : Int32) then (if (2 : Int32) ≤ (x2 &&& (3 : Int32)) then (if (4 : Int32) ≤ x2 then (some ((x1 - (1 : Int32)) - ((x1 - (1 : Int32)) - x3))) else (some ((x1 - (1 : Int32)) - x3))) else (if (4 : Int32) ≤ x2 then (some ((x1 - (1 : Int32)) - x3)) else (some x3))) else (if (2 : Int32) ≤ (x2 &&& (3 : Int32)) then (if (4 : Int32) ≤ x2 then (some ((x1 - (1 : Int32)) - ((x1 - (1 : Int32)) - x4))) else (some ((x1 - (1 : Int32)) - x4))) else (if (4 : Int32) ≤ x2 then (some ((x1 - (1 : Int32)) - x4)) else (some x4))))
def f_V_cellFor (x1 : Int32) (x2 : Int32) (x3 : Int32) (x4 : Int32) (V_left : Int32) (V_top : Int32) (H_side : Int32) : Option (Int32) := (f_V_sourceDown x1 x2 x3 x4).bind (fun q133 => (f_V_sourceAcross x1 x2 x3 x4).bind (fun q135 => some ((((V_top + q133) * H_side) + V_left) + q135)))
def f_V_aim (x1 : Int32) (x2 : Int32) (x3 : Int32) (V_left : Int32) (V_top : Int32) (V_start : Int32) (H_side : Int32) : Option (Int32 × Int32 × Int32 × Int32 × Int32) := (f_F_domainsAcross ((2 : Int32) * H_side) x1).bind (fun q137 => if (1 : Int32) ≤ q137 then (if q137 = 0 then none else (if (1 : Int32) ≤ q137 then (if q137 = 0 then none else ((f_V_cellFor x1 x3 (0 : Int32) (0 : Int32) ((x2 - x2 / q137 * q137) * (x1 / (2 : Int32))) ((x2 / q137) * (x1 / (2 : Int32))) H_side).bind (fun q139 => (f_V_cellFor x1 x3 (1 : Int32) (0 : Int32) ((x2 - x2 / q137 * q137) * (x1 / (2 : Int32))) ((x2 / q137) * (x1 / (2 : Int32))) H_side).bind (fun q141 => (f_V_cellFor x1 x3 (0 : Int32) (1 : Int32) ((x2 - x2 / q137 * q137) * (x1 / (2 : Int32))) ((x2 / q137) * (x1 / (2 : Int32))) H_side).bind (fun q143 => some (((x2 - x2 / q137 * q137) * (x1 / (2 : Int32))), ((x2 / q137) * (x1 / (2 : Int32))), q139, (q141 - q139), (q143 - q139))))))) else ((f_V_cellFor x1 x3 (0 : Int32) (0 : Int32) ((x2 - x2 / q137 * q137) * (x1 / (2 : Int32))) (0 : Int32) H_side).bind (fun q145 => (f_V_cellFor x1 x3 (1 : Int32) (0 : Int32) ((x2 - x2 / q137 * q137) * (x1 / (2 : Int32))) (0 : Int32) H_side).bind (fun q147 => (f_V_cellFor x1 x3 (0 : Int32) (1 : Int32) ((x2 - x2 / q137 * q137) * (x1 / (2 : Int32))) (0 : Int32) H_side).bind (fun q149 => some (((x2 - x2 / q137 * q137) * (x1 / (2 : Int32))), (0 : Int32), q145, (q147 - q145), (q149 - q145)))))))) else (if (1 : Int32) ≤ q137 then (if q137 = 0 then none else ((f_V_cellFor x1 x3 (0 : Int32) (0 : Int32) (0 : Int32) ((x2 / q137) * (x1 / (2 : Int32))) H_side).bind (fun q151 => (f_V_cellFor x1 x3 (1 : Int32) (0 : Int32) (0 : Int32) ((x2 / q137) * (x1 / (2 : Int32))) H_side).bind (fun q153 => (f_V_cellFor x1 x3 (0 : Int32) (1 : Int32) (0 : Int32) ((x2 / q137) * (x1 / (2 : Int32))) H_side).bind (fun q155 => some ((0 : Int32), ((x2 / q137) * (x1 / (2 : Int32))), q151, (q153 - q151), (q155 - q151))))))) else ((f_V_cellFor x1 x3 (0 : Int32) (0 : Int32) (0 : Int32) (0 : Int32) H_side).bind (fun q157 => (f_V_cellFor x1 x3 (1 : Int32) (0 : Int32) (0 : Int32) (0 : Int32) H_side).bind (fun q159 => (f_V_cellFor x1 x3 (0 : Int32) (1 : Int32) (0 : Int32) (0 : Int32) H_side).bind (fun q161 => some ((0 : Int32), (0 : Int32), q157, (q159 - q157), (q161 - q157))))))))
def f_V_sample (x1 : Int32) (x2 : Int32) (V_start : Int32) (V_stepAcross : Int32) (V_stepDown : Int32) (HA_n : Nat) (HA_f : Nat → Int32) : Option (Int32) := if ((V_start + (x1 * V_stepAcross)) + (x2 * V_stepDown)) < 0 then (some (0 : Int32)) else (if (nI HA_n) ≤ ((V_start + (x1 * V_stepAcross)) + (x2 * V_stepDown)) then (some (0 : Int32)) else (if ((V_start + (x1 * V_stepAcross)) + (x2 * V_stepDown)) < 0 ∨ HA_n ≤ ((V_start + (x1 * V_stepAcross)) + (x2 * V_stepDown)).toNatClampNeg then none else (some (HA_f ((V_start + (x1 * V_stepAcross)) + (x2 * V_stepDown)).toNatClampNeg))))
def f_F_domain (x1 : Int32) (x2 : Int32) (x3 : Int32) (x4 : Int32) (x5 : Int32) (O_side : Int32) (P_side : Int32) (PA_n : Nat) (PA_f : Nat → Int32) (H_mostSide : Int32) (H_side : Int32) (HA_n : Nat) (HA_f : Nat → Int32) (V_left : Int32) (V_top : Int32) (V_start : Int32) (V_stepAcross : Int32) (V_stepDown : Int32) : Option (Nat ⊕ (Int32 × Int32 × (Nat → Int32) × Int32 × Int32 × Int32 × Int32 × Int32)) := (f_F_isSize x1).bind (fun q163 => if q163 = 0 then (some (.inl 2)) else (if x1 ≤ (O_side / (2 : Int32)) then (if x3 < 0 then (some (.inl 2)) else (if x3 < (8 : Int32) then (if x2 < 0 then (some (.inl 1)) else ((f_F_domainsOf O_side x1).bind (fun q165 => if x2 < q165 then (if x4 < 0 then (some (.inl 1)) else (if x1 ≤ x4 then (some (.inl 1)) else (if x5 < 0 then (some (.inl 1)) else (if x5 < x1 then ((f_G_becomeHalfOf H_mostSide H_side HA_n HA_f P_side PA_n PA_f).bind (fun q167 => (f_V_aim x1 x2 x3 V_left V_top V_start q167.1).bind (fun q168 => (f_V_sample x4 x5 q168.2.2.1 q168.2.2.2.1 q168.2.2.2.2 HA_n q167.2).bind (fun q169 => some (.inr (q169, q167.1, q167.2, q168.1, q168.2.1, q168.2.2.1, q168.2.2.2.1, q168.2.2.2.2)))))) else (some (.inl 1)))))) else (some (.inl 1))))) else (some (.inl 2)))) else (some (.inl 2))))
def f_F_brought (x1 : Int64) (x2 : Int64) (x3 : Int64) : Option (Int64) := some (if (if x3 < x1 then x3 else x1) < x2 then x2 else (if x3 < x1 then x3 else x1))
def f_F_paint_18 (p1 : Int32) (p2 : Int32) (p3 : Int32) (p5 : Int32) (O_side : Int32) (P_side : Int32) (PA_n : Nat) : Nat → Int32 → Int32 → (Nat → Int32) → Option (Int32 × Int32 × (Nat → Int32))
  | 0, _, _, _ => none
  | n + 1, v4, v6, PA_f => if O_side ≤ v6 then (some (v4, v6, PA_f)) else ((f_F_brought ((p1.toInt64 + (p2.toInt64 * v6.toInt64)) + (p3.toInt64 * p5.toInt64)) (0 : Int64) (255 : Int64)).bind (fun q171 => (f_G_sample v6 p5 P_side PA_n PA_f).bind (fun q173 => if q171.toInt32 = q173 then ((f_G_set v6 p5 q171.toInt32 P_side PA_n PA_f).bind (fun q175 => f_F_paint_18 p1 p2 p3 p5 O_side P_side PA_n n v4 (v6 + 1) q175)) else ((f_G_set v6 p5 q171.toInt32 P_side PA_n PA_f).bind (fun q176 => f_F_paint_18 p1 p2 p3 p5 O_side P_side PA_n n (v4 + 1) (v6 + 1) q176)))))
def f_F_paint_6 (p1 : Int32) (p2 : Int32) (p3 : Int32) (O_side : Int32) (P_side : Int32) (PA_n : Nat) : Nat → Int32 → Int32 → (Nat → Int32) → Option (Int32 × Int32 × (Nat → Int32))
  | 0, _, _, _ => none
  | n + 1, v4, v5, PA_f => if O_side ≤ v5 then (some (v4, v5, PA_f)) else ((f_F_paint_18 p1 p2 p3 v5 O_side P_side PA_n FU v4 (0 : Int32) PA_f).bind (fun q177 => f_F_paint_6 p1 p2 p3 O_side P_side PA_n n q177.1 (v5 + 1) q177.2.2))
def f_F_paint (x1 : Int32) (x2 : Int32) (x3 : Int32) (O_side : Int32) (P_side : Int32) (PA_n : Nat) (PA_f : Nat → Int32) : Option (Int32 × (Nat → Int32)) := (f_F_paint_6 x1 x2 x3 O_side P_side PA_n FU (0 : Int32) (0 : Int32) PA_f).bind (fun q188 => some (q188.1, q188.2.2))
def f_S_start (P_side : Int32) (PA_n : Nat) (PA_f : Nat → Int32) (H_mostSide : Int32) (H_side : Int32) (HA_n : Nat) (HA_f : Nat → Int32) : Option (Int32 × Int32 × (Nat → Int32)) := (f_G_becomeHalfOf H_mostSide H_side HA_n HA_f P_side PA_n PA_f).bind (fun q204 => some ((0 : Int32), q204.1, q204.2))
def f_V_sourceQuarter (x1 : Int32) (x2 : Int32) : Option (Int32) := (f_F_acrossOf x2).bind (fun q205 => (f_F_downOf x2).bind (fun q207 => (f_V_sourceDown (2 : Int32) x1 q205 q207).bind (fun q209 => (f_V_sourceAcross (2 : Int32) x1 q205 q207).bind (fun q211 => some (((2 : Int32) * q209) + q211)))))
def f_S_takeBlock_35 (p1 : Int32) (p2 : Int32) (p3 : Int32) (p4 : Int32) (R_n : Nat) : Nat → Int32 → (Nat → Int32) → Option (Int32 × (Nat → Int32))
  | 0, _, _ => none
  | n + 1, v5, R_f => if (8 : Int32) ≤ v5 then (some (v5, R_f)) else ((f_V_sourceQuarter v5 p4).bind (fun q215 => if v5 < 0 ∨ R_n ≤ v5.toNatClampNeg then none else (f_S_takeBlock_35 p1 p2 p3 p4 R_n n (v5 + 1) (upd R_f v5.toNatClampNeg q215))))
def f_S_takeBlock_91 (p1 : Int32) (p2 : Int32) (p3 : Int32) (p4 : Int32) (p6 : Int32) (P_side : Int32) (PA_n : Nat) (PA_f : Nat → Int32) (W_n : Nat) : Nat → Int32 → Int32 → (Nat → Int32) → Option (Int32 × Int32 × (Nat → Int32))
  | 0, _, _, _ => none
  | n + 1, v5, v7, W_f => if p3 ≤ v7 then (some (v5, v7, W_f)) else (if (nI W_n) ≤ v5 then (some (v5, v7, W_f)) else ((f_G_sample (p1 + v7) (p2 + p6) P_side PA_n PA_f).bind (fun q225 => if v5 < 0 ∨ W_n ≤ v5.toNatClampNeg then none else (f_S_takeBlock_91 p1 p2 p3 p4 p6 P_side PA_n PA_f W_n n (v5 + 1) (v7 + 1) (upd W_f v5.toNatClampNeg q225)))))
def f_S_takeBlock_82 (p1 : Int32) (p2 : Int32) (p3 : Int32) (p4 : Int32) (P_side : Int32) (PA_n : Nat) (PA_f : Nat → Int32) (W_n : Nat) : Nat → Int32 → Int32 → (Nat → Int32) → Option (Int32 × Int32 × (Nat → Int32))
  | 0, _, _, _ => none
  | n + 1, v5, v6, W_f => if p3 ≤ v6 then (some (v5, v6, W_f)) else ((f_S_takeBlock_91 p1 p2 p3 p4 v6 P_side PA_n PA_f W_n FU v5 (0 : Int32) W_f).bind (fun q227 => f_S_takeBlock_82 p1 p2 p3 p4 P_side PA_n PA_f W_n n q227.1 (v6 + 1) q227.2.2))
def f_S_takeBlock (x1 : Int32) (x2 : Int32) (x3 : Int32) (P_side : Int32) (PA_n : Nat) (PA_f : Nat → Int32) (W_n : Nat) (W_f : Nat → Int32) (R_n : Nat) (R_f : Nat → Int32) : Option (Int32 × Int32 × Int32 × (Nat → Int32) × (Nat → Int32)) := (f_G_brightestQuarter x1 x2 x3 P_side PA_n PA_f).bind (fun q213 => (f_S_takeBlock_35 x1 x2 x3 q213 R_n FU (0 : Int32) R_f).bind (fun q217 => (f_G_sum x1 x2 x3 P_side PA_n PA_f).bind (fun q223 => (f_S_takeBlock_82 x1 x2 x3 q213 P_side PA_n PA_f W_n FU (0 : Int32) (0 : Int32) W_f).bind (fun q234 => some (x3, (if (nI W_n) < (x3 * x3) then (nI W_n) else (x3 * x3)), q223, q234.2.2, q217.2)))))
def f_T_become (x1 : Int32) (x2 : Int32) (x3 : Int32) (x4 : Int32) (x5 : Int32) : Option (Int32 × Int32 × Int32 × Int32 × Int32) := some (x1, x2, x3, x4, x5)
def f_S_measure_30 (p1 : Int32) (p2 : Int32) (H_side : Int32) (HA_n : Nat) (HA_f : Nat → Int32) (V_left : Int32) (V_top : Int32) (Q_n : Nat) : Nat → Int32 → Int32 → Int32 → (Nat → Int32) → Option (Int32 × Int32 × Int32 × (Nat → Int32))
  | 0, _, _, _, _ => none
  | n + 1, v3, v4, S_foundSum, Q_f => if (4 : Int32) ≤ v4 then (some (v3, v4, S_foundSum, Q_f)) else ((f_F_acrossOf v4).bind (fun q247 => (f_F_downOf v4).bind (fun q249 => (f_G_sum (V_left + (q247 * p2)) (V_top + (q249 * p2)) p2 H_side HA_n HA_f).bind (fun q251 => if v4 < 0 ∨ Q_n ≤ v4.toNatClampNeg then none else (f_S_measure_30 p1 p2 H_side HA_n HA_f V_left V_top Q_n n (if v3 < q251 then q251 else v3) (v4 + 1) (S_foundSum + q251) (upd Q_f v4.toNatClampNeg q251))))))
def f_S_measure_129 (p1 : Int32) (p2 : Int32) (p3 : Int32) (p4 : Int32) (S_size : Int32) (HA_n : Nat) (HA_f : Nat → Int32) (V_start : Int32) (V_stepAcross : Int32) (V_stepDown : Int32) : Nat → Int32 → Int32 → Option (Int32 × Int32)
  | 0, _, _ => none
  | n + 1, v5, S_foundSquares => if S_size ≤ v5 then (some (v5, S_foundSquares)) else ((f_V_sample v5 p4 V_start V_stepAcross V_stepDown HA_n HA_f).bind (fun q265 => f_S_measure_129 p1 p2 p3 p4 S_size HA_n HA_f V_start V_stepAcross V_stepDown n (v5 + 1) (S_foundSquares + (q265 * q265))))
def f_S_measure_117 (p1 : Int32) (p2 : Int32) (p3 : Int32) (S_size : Int32) (HA_n : Nat) (HA_f : Nat → Int32) (V_start : Int32) (V_stepAcross : Int32) (V_stepDown : Int32) : Nat → Int32 → Int32 → Option (Int32 × Int32)
  | 0, _, _ => none
  | n + 1, v4, S_foundSquares => if S_size ≤ v4 then (some (v4, S_foundSquares)) else ((f_S_measure_129 p1 p2 p3 v4 S_size HA_n HA_f V_start V_stepAcross V_stepDown FU (0 : Int32) S_foundSquares).bind (fun q267 => f_S_measure_117 p1 p2 p3 S_size HA_n HA_f V_start V_stepAcross V_stepDown n (v4 + 1) q267.2))
def f_S_measure (x1 : Int32) (S_size : Int32) (S_foundSum : Int32) (S_foundSquares : Int32) (H_side : Int32) (HA_n : Nat) (HA_f : Nat → Int32) (V_left : Int32) (V_top : Int32) (V_start : Int32) (V_stepAcross : Int32) (V_stepDown : Int32) (Q_n : Nat) (Q_f : Nat → Int32) : Option (Int32 × Int32 × Int32 × Int32 × Int32 × Int32 × Int32 × Int32 × (Nat → Int32)) := (f_V_aim S_size x1 (0 : Int32) V_left V_top V_start H_side).bind (fun q246 => (f_S_measure_30 x1 (S_size / (2 : Int32)) H_side HA_n HA_f q246.1 q246.2.1 Q_n FU (0 : Int32) (0 : Int32) (0 : Int32) Q_f).bind (fun q253 => (f_S_measure_117 x1 (S_size / (2 : Int32)) q253.1 S_size HA_n HA_f q246.2.2.1 q246.2.2.2.1 q246.2.2.2.2 FU (0 : Int32) (0 : Int32)).bind (fun q273 => some (q253.1, q253.2.2.1, q273.2, q246.1, q246.2.1, q246.2.2.1, q246.2.2.2.1, q246.2.2.2.2, q253.2.2.2))))
def f_S_takeDomain_14 (p2 : Int32) (S_size : Int32) (HA_n : Nat) (HA_f : Nat → Int32) (V_start : Int32) (V_stepAcross : Int32) (V_stepDown : Int32) (D_n : Nat) : Nat → Int32 → Int32 → (Nat → Int32) → Option (Int32 × Int32 × (Nat → Int32))
  | 0, _, _, _ => none
  | n + 1, v1, v3, D_f => if S_size ≤ v3 then (some (v1, v3, D_f)) else (if (nI D_n) ≤ v1 then (some (v1, v3, D_f)) else ((f_V_sample v3 p2 V_start V_stepAcross V_stepDown HA_n HA_f).bind (fun q283 => if v1 < 0 ∨ D_n ≤ v1.toNatClampNeg then none else (f_S_takeDomain_14 p2 S_size HA_n HA_f V_start V_stepAcross V_stepDown D_n n (v1 + 1) (v3 + 1) (upd D_f v1.toNatClampNeg q283)))))
def f_S_takeDomain_4 (S_size : Int32) (HA_n : Nat) (HA_f : Nat → Int32) (V_start : Int32) (V_stepAcross : Int32) (V_stepDown : Int32) (D_n : Nat) : Nat → Int32 → Int32 → (Nat → Int32) → Option (Int32 × Int32 × (Nat → Int32))
  | 0, _, _, _ => none
  | n + 1, v1, v2, D_f => if S_size ≤ v2 then (some (v1, v2, D_f)) else ((f_S_takeDomain_14 v2 S_size HA_n HA_f V_start V_stepAcross V_stepDown D_n FU v1 (0 : Int32) D_f).bind (fun q285 => f_S_takeDomain_4 S_size HA_n HA_f V_start V_stepAcross V_stepDown D_n n q285.1 (v2 + 1) q285.2.2))
def f_S_takeDomain (S_size : Int32) (HA_n : Nat) (HA_f : Nat → Int32) (V_start : Int32) (V_stepAcross : Int32) (V_stepDown : Int32) (D_n : Nat) (D_f : Nat → Int32) : Option (Nat → Int32) := (f_S_takeDomain_4 S_size HA_n HA_f V_start V_stepAcross V_stepDown D_n FU (0 : Int32) (0 : Int32) D_f).bind (fun q292 => some q292.2.2)
def f_JM_floorDiv1 (x1 : Int64) (x2 : Int64) : Option (Int64) := if x2 = 0 then none else (if 0 ≤ (lg_cmp (x1 ^^^ x2) (0 : Int64)) then (some (x1 / x2)) else (if (lg_cmp ((x1 / x2) * x2) x1) = 0 then (some (x1 / x2)) else (some ((x1 / x2) - (1 : Int64)))))
def f_F_nearest (x1 : Int64) (x2 : Int64) : Option (Int64) := if 0 < (lg_cmp x2 (0 : Int64)) then ((f_JM_floorDiv1 (((2 : Int64) * x1) + x2) ((2 : Int64) * x2)).bind (fun q304 => some q304)) else (some (0 : Int64))
def f_S_contrastWanted_37 (p1 : Int64) (S_count : Int32) (W_n : Nat) (W_f : Nat → Int32) (D_n : Nat) (D_f : Nat → Int32) : Nat → Int64 → Int32 → Option (Int64 × Int32)
  | 0, _, _ => none
  | n + 1, v3, v5 => if S_count ≤ v5 then (some (v3, v5)) else (if v5 < 0 ∨ W_n ≤ v5.toNatClampNeg then none else (if v5 < 0 ∨ D_n ≤ v5.toNatClampNeg then none else (f_S_contrastWanted_37 p1 S_count W_n W_f D_n D_f n (v3 + ((W_f v5.toNatClampNeg).toInt64 * (D_f v5.toNatClampNeg).toInt64)) (v5 + 1))))
def f_S_contrastWanted (S_count : Int32) (S_wantedSum : Int32) (S_foundSum : Int32) (S_foundSquares : Int32) (W_n : Nat) (W_f : Nat → Int32) (D_n : Nat) (D_f : Nat → Int32) : Option (Int32) := if 0 < (lg_cmp ((S_count.toInt64 * S_foundSquares.toInt64) - (S_foundSum.toInt64 * S_foundSum.toInt64)) (0 : Int64)) then ((f_S_contrastWanted_37 ((S_count.toInt64 * S_foundSquares.toInt64) - (S_foundSum.toInt64 * S_foundSum.toInt64)) S_count W_n W_f D_n D_f FU (0 : Int64) (0 : Int32)).bind (fun q306 => (f_F_nearest ((8 : Int64) * ((S_count.toInt64 * q306.1) - (S_foundSum.toInt64 * S_wantedSum.toInt64))) ((S_count.toInt64 * S_foundSquares.toInt64) - (S_foundSum.toInt64 * S_foundSum.toInt64))).bind (fun q310 => (f_F_brought q310 (-7 : Int64) (7 : Int64)).bind (fun q312 => some q312.toInt32)))) else (some (0 : Int32))
def f_JM_floorDiv0 (x1 : Int32) (x2 : Int32) : Option (Int32) := if x2 = 0 then none else (if 0 ≤ (x1 ^^^ x2) then (some (x1 / x2)) else (if ((x1 / x2) * x2) = x1 then (some (x1 / x2)) else (some ((x1 / x2) - (1 : Int32)))))
def f_F_dimmed (x1 : Int32) (x2 : Int32) : Option (Int32) := (f_JM_floorDiv0 (x2 * x1) (8 : Int32)).bind (fun q314 => some q314)
def f_S_tryTurn_31 (p1 : Int32) (p2 : Int32) (p3 : Int32) (S_count : Int32) (W_n : Nat) (W_f : Nat → Int32) (D_n : Nat) (D_f : Nat → Int32) : Nat → Int32 → Int32 → Int32 → Option (Int32 × Int32 × Int32)
  | 0, _, _, _ => none
  | n + 1, v4, v5, v6 => if S_count ≤ v6 then (some (v4, v5, v6)) else (if v6 < 0 ∨ W_n ≤ v6.toNatClampNeg then none else (if v6 < 0 ∨ D_n ≤ v6.toNatClampNeg then none else ((f_F_dimmed (D_f v6.toNatClampNeg) p3).bind (fun q320 => f_S_tryTurn_31 p1 p2 p3 S_count W_n W_f D_n D_f n (v4 + ((W_f v6.toNatClampNeg) - q320)) (v5 + (((W_f v6.toNatClampNeg) - q320) * ((W_f v6.toNatClampNeg) - q320))) (v6 + 1)))))
def f_S_tryTurn (x1 : Int32) (x2 : Int32) (S_size : Int32) (S_count : Int32) (S_wantedSum : Int32) (S_foundSum : Int32) (S_foundSquares : Int32) (H_side : Int32) (HA_n : Nat) (HA_f : Nat → Int32) (V_left : Int32) (V_top : Int32) (V_start : Int32) (V_stepAcross : Int32) (V_stepDown : Int32) (W_n : Nat) (W_f : Nat → Int32) (D_n : Nat) (D_f : Nat → Int32) (E_domain : Int32) (E_turn : Int32) (E_contrast : Int32) (E_offset : Int32) (E_error : Int32) : Option (Int32 × Int32 × Int32 × Int32 × Int32 × (Nat → Int32) × Int32 × Int32 × Int32 × Int32 × Int32) := (f_V_aim S_size x1 x2 V_left V_top V_start H_side).bind (fun q316 => (f_S_takeDomain S_size HA_n HA_f q316.2.2.1 q316.2.2.2.1 q316.2.2.2.2 D_n D_f).bind (fun q317 => (f_S_contrastWanted S_count S_wantedSum S_foundSum S_foundSquares W_n W_f D_n q317).bind (fun q318 => (f_S_tryTurn_31 x1 x2 q318 S_count W_n W_f D_n q317 FU (0 : Int32) (0 : Int32) (0 : Int32)).bind (fun q322 => (f_F_nearest q322.1.toInt64 S_count.toInt64).bind (fun q329 => if E_error = ((-1) : Int32) then ((f_T_become x1 x2 q318 q329.toInt32 ((q322.2.1 - (((2 : Int32) * q329.toInt32) * q322.1)) + ((S_count * q329.toInt32) * q329.toInt32))).bind (fun q331 => some (q316.1, q316.2.1, q316.2.2.1, q316.2.2.2.1, q316.2.2.2.2, q317, q331.1, q331.2.1, q331.2.2.1, q331.2.2.2.1, q331.2.2.2.2))) else (if E_error ≤ ((q322.2.1 - (((2 : Int32) * q329.toInt32) * q322.1)) + ((S_count * q329.toInt32) * q329.toInt32)) then (some (q316.1, q316.2.1, q316.2.2.1, q316.2.2.2.1, q316.2.2.2.2, q317, E_domain, E_turn, E_contrast, E_offset, E_error)) else ((f_T_become x1 x2 q318 q329.toInt32 ((q322.2.1 - (((2 : Int32) * q329.toInt32) * q322.1)) + ((S_count * q329.toInt32) * q329.toInt32))).bind (fun q332 => some (q316.1, q316.2.1, q316.2.2.1, q316.2.2.2.1, q316.2.2.2.2, q317, q332.1, q332.2.1, q332.2.2.1, q332.2.2.2.1, q332.2.2.2.2)))))))))
def f_S_findBest_53 (p1 : Int32) (p2 : Int32) (p3 : Int32) (p4 : Int32) (p5 : Int32) (p6 : Int32) (S_size : Int32) (S_count : Int32) (S_wantedSum : Int32) (S_foundSum : Int32) (S_foundSquares : Int32) (H_side : Int32) (HA_n : Nat) (HA_f : Nat → Int32) (W_n : Nat) (W_f : Nat → Int32) (D_n : Nat) (Q_n : Nat) (Q_f : Nat → Int32) (R_n : Nat) (R_f : Nat → Int32) : Nat → Int32 → Int32 → Int32 → Int32 → Int32 → Int32 → Int32 → (Nat → Int32) → Int32 → Int32 → Int32 → Int32 → Int32 → Option (Int32 × Int32 × Int32 × Int32 × Int32 × Int32 × Int32 × (Nat → Int32) × Int32 × Int32 × Int32 × Int32 × Int32)
  | 0, _, _, _, _, _, _, _, _, _, _, _, _, _ => none
  | n + 1, v7, S_tried, V_left, V_top, V_start, V_stepAcross, V_stepDown, D_f, E_domain, E_turn, E_contrast, E_offset, E_error => if (8 : Int32) ≤ v7 then (some (v7, S_tried, V_left, V_top, V_start, V_stepAcross, V_stepDown, D_f, E_domain, E_turn, E_contrast, E_offset, E_error)) else (if v7 < 0 ∨ R_n ≤ v7.toNatClampNeg then none else (if ((R_f v7.toNatClampNeg) &&& (3 : Int32)) < 0 ∨ Q_n ≤ ((R_f v7.toNatClampNeg) &&& (3 : Int32)).toNatClampNeg then none else (if (Q_f ((R_f v7.toNatClampNeg) &&& (3 : Int32)).toNatClampNeg) = p6 then ((f_S_tryTurn p5 v7 S_size S_count S_wantedSum S_foundSum S_foundSquares H_side HA_n HA_f V_left V_top V_start V_stepAcross V_stepDown W_n W_f D_n D_f E_domain E_turn E_contrast E_offset E_error).bind (fun q338 => f_S_findBest_53 p1 p2 p3 p4 p5 p6 S_size S_count S_wantedSum S_foundSum S_foundSquares H_side HA_n HA_f W_n W_f D_n Q_n Q_f R_n R_f n (v7 + 1) (S_tried + (1 : Int32)) q338.1 q338.2.1 q338.2.2.1 q338.2.2.2.1 q338.2.2.2.2.1 q338.2.2.2.2.2.1 q338.2.2.2.2.2.2.1 q338.2.2.2.2.2.2.2.1 q338.2.2.2.2.2.2.2.2.1 q338.2.2.2.2.2.2.2.2.2.1 q338.2.2.2.2.2.2.2.2.2.2)) else (f_S_findBest_53 p1 p2 p3 p4 p5 p6 S_size S_count S_wantedSum S_foundSum S_foundSquares H_side HA_n HA_f W_n W_f D_n Q_n Q_f R_n R_f n (v7 + 1) S_tried V_left V_top V_start V_stepAcross V_stepDown D_f E_domain E_turn E_contrast E_offset E_error))))
def f_S_findBest_35 (p1 : Int32) (p2 : Int32) (p3 : Int32) (p4 : Int32) (S_size : Int32) (S_count : Int32) (S_wantedSum : Int32) (H_side : Int32) (HA_n : Nat) (HA_f : Nat → Int32) (W_n : Nat) (W_f : Nat → Int32) (D_n : Nat) (Q_n : Nat) (R_n : Nat) (R_f : Nat → Int32) : Nat → Int32 → Int32 → Int32 → Int32 → Int32 → Int32 → Int32 → Int32 → Int32 → (Nat → Int32) → (Nat → Int32) → Int32 → Int32 → Int32 → Int32 → Int32 → Option (Int32 × Int32 × Int32 × Int32 × Int32 × Int32 × Int32 × Int32 × Int32 × (Nat → Int32) × (Nat → Int32) × Int32 × Int32 × Int32 × Int32 × Int32)
  | 0, _, _, _, _, _, _, _, _, _, _, _, _, _, _, _, _ => none
  | n + 1, v5, S_tried, S_foundSum, S_foundSquares, V_left, V_top, V_start, V_stepAcross, V_stepDown, D_f, Q_f, E_domain, E_turn, E_contrast, E_offset, E_error => if p4 ≤ v5 then (some (v5, S_tried, S_foundSum, S_foundSquares, V_left, V_top, V_start, V_stepAcross, V_stepDown, D_f, Q_f, E_domain, E_turn, E_contrast, E_offset, E_error)) else ((f_S_measure v5 S_size S_foundSum S_foundSquares H_side HA_n HA_f V_left V_top V_start V_stepAcross V_stepDown Q_n Q_f).bind (fun q337 => (f_S_findBest_53 p1 p2 p3 p4 v5 q337.1 S_size S_count S_wantedSum q337.2.1 q337.2.2.1 H_side HA_n HA_f W_n W_f D_n Q_n q337.2.2.2.2.2.2.2.2 R_n R_f FU (0 : Int32) S_tried q337.2.2.2.1 q337.2.2.2.2.1 q337.2.2.2.2.2.1 q337.2.2.2.2.2.2.1 q337.2.2.2.2.2.2.2.1 D_f E_domain E_turn E_contrast E_offset E_error).bind (fun q339 => f_S_findBest_35 p1 p2 p3 p4 S_size S_count S_wantedSum H_side HA_n HA_f W_n W_f D_n Q_n R_n R_f n (v5 + 1) q339.2.1 q337.2.1 q337.2.2.1 q339.2.2.1 q339.2.2.2.1 q339.2.2.2.2.1 q339.2.2.2.2.2.1 q339.2.2.2.2.2.2.1 q339.2.2.2.2.2.2.2.1 q337.2.2.2.2.2.2.2.2 q339.2.2.2.2.2.2.2.2.1 q339.2.2.2.2.2.2.2.2.2.1 q339.2.2.2.2.2.2.2.2.2.2.1 q339.2.2.2.2.2.2.2.2.2.2.2.1 q339.2.2.2.2.2.2.2.2.2.2.2.2)))
def f_S_findBest (x1 : Int32) (x2 : Int32) (x3 : Int32) (S_tried : Int32) (S_size : Int32) (S_count : Int32) (S_wantedSum : Int32) (S_foundSum : Int32) (S_foundSquares : Int32) (P_side : Int32) (PA_n : Nat) (PA_f : Nat → Int32) (H_side : Int32) (HA_n : Nat) (HA_f : Nat → Int32) (V_left : Int32) (V_top : Int32) (V_start : Int32) (V_stepAcross : Int32) (V_stepDown : Int32) (W_n : Nat) (W_f : Nat → Int32) (D_n : Nat) (D_f : Nat → Int32) (Q_n : Nat) (Q_f : Nat → Int32) (R_n : Nat) (R_f : Nat → Int32) (E_domain : Int32) (E_turn : Int32) (E_contrast : Int32) (E_offset : Int32) (E_error : Int32) : Option (Int32 × Int32 × Int32 × Int32 × Int32 × Int32 × Int32 × Int32 × Int32 × Int32 × Int32 × (Nat → Int32) × (Nat → Int32) × (Nat → Int32) × (Nat → Int32) × Int32 × Int32 × Int32 × Int32 × Int32) := (f_S_takeBlock x1 x2 x3 P_side PA_n PA_f W_n W_f R_n R_f).bind (fun q333 => (f_T_become (0 : Int32) (0 : Int32) (0 : Int32) (0 : Int32) ((-1) : Int32)).bind (fun q334 => (f_F_domainsOf P_side x3).bind (fun q335 => (f_S_findBest_35 x1 x2 x3 q335 q333.1 q333.2.1 q333.2.2.1 H_side HA_n HA_f W_n q333.2.2.2.1 D_n Q_n R_n q333.2.2.2.2 FU (0 : Int32) S_tried S_foundSum S_foundSquares V_left V_top V_start V_stepAcross V_stepDown D_f Q_f q334.1 q334.2.1 q334.2.2.1 q334.2.2.2.1 q334.2.2.2.2).bind (fun q355 => some (q355.2.1, q333.1, q333.2.1, q333.2.2.1, q355.2.2.1, q355.2.2.2.1, q355.2.2.2.2.1, q355.2.2.2.2.2.1, q355.2.2.2.2.2.2.1, q355.2.2.2.2.2.2.2.1, q355.2.2.2.2.2.2.2.2.1, q333.2.2.2.1, q355.2.2.2.2.2.2.2.2.2.1, q355.2.2.2.2.2.2.2.2.2.2.1, q333.2.2.2.2, q355.2.2.2.2.2.2.2.2.2.2.2.1, q355.2.2.2.2.2.2.2.2.2.2.2.2.1, q355.2.2.2.2.2.2.2.2.2.2.2.2.2.1, q355.2.2.2.2.2.2.2.2.2.2.2.2.2.2.1, q355.2.2.2.2.2.2.2.2.2.2.2.2.2.2.2)))))
def f_K_wipe : Option (Int32) := some (0 : Int32)
def f_B_wipe : Option (Int32 × Int32) := some ((0 : Int32), (0 : Int32))
def f_F_sizeNumber_2 (p0 : Int32) : Nat → Int32 → Option (Int32)
  | 0, _ => none
  | n + 1, v1 => if (4 : Int32) ≤ v1 then (some v1) else (if p0 ≤ ((1 : Int32) <<< (v1 &&& 31)) then (some v1) else (f_F_sizeNumber_2 p0 n (v1 + 1)))
def f_F_sizeNumber (x1 : Int32) : Option (Int32) := (f_F_sizeNumber_2 x1 FU (1 : Int32)).bind (fun q390 => some q390)
def f_K_add (x1 : Int32) (x2 : Int32) (x3 : Int32) (K_count : Int32) (KA_n : Nat) (KA_f : Nat → Int32) (yT_domain : Int32) (yT_turn : Int32) (yT_contrast : Int32) (yT_offset : Int32) (yT_error : Int32) : Option (Int32 × (Nat → Int32)) := if (((8 : Int32) * K_count) + (7 : Int32)) < (nI KA_n) then (if (((8 : Int32) * K_count) + (0 : Int32)) < 0 ∨ KA_n ≤ (((8 : Int32) * K_count) + (0 : Int32)).toNatClampNeg then none else (if (((8 : Int32) * K_count) + (1 : Int32)) < 0 ∨ KA_n ≤ (((8 : Int32) * K_count) + (1 : Int32)).toNatClampNeg then none else (if (((8 : Int32) * K_count) + (2 : Int32)) < 0 ∨ KA_n ≤ (((8 : Int32) * K_count) + (2 : Int32)).toNatClampNeg then none else (if (((8 : Int32) * K_count) + (3 : Int32)) < 0 ∨ KA_n ≤ (((8 : Int32) * K_count) + (3 : Int32)).toNatClampNeg then none else (if (((8 : Int32) * K_count) + (4 : Int32)) < 0 ∨ KA_n ≤ (((8 : Int32) * K_count) + (4 : Int32)).toNatClampNeg then none else (if (((8 : Int32) * K_count) + (5 : Int32)) < 0 ∨ KA_n ≤ (((8 : Int32) * K_count) + (5 : Int32)).toNatClampNeg then none else (if (((8 : Int32) * K_count) + (6 : Int32)) < 0 ∨ KA_n ≤ (((8 : Int32) * K_count) + (6 : Int32)).toNatClampNeg then none else (if (((8 : Int32) * K_count) + (7 : Int32)) < 0 ∨ KA_n ≤ (((8 : Int32) * K_count) + (7 : Int32)).toNatClampNeg then none else (some ((K_count + (1 : Int32)), (upd (upd (upd (upd (upd (upd (upd (upd KA_f (((8 : Int32) * K_count) + (0 : Int32)).toNatClampNeg x1) (((8 : Int32) * K_count) + (1 : Int32)).toNatClampNeg x2) (((8 : Int32) * K_count) + (2 : Int32)).toNatClampNeg x3) (((8 : Int32) * K_count) + (3 : Int32)).toNatClampNeg yT_domain) (((8 : Int32) * K_count) + (4 : Int32)).toNatClampNeg yT_turn) (((8 : Int32) * K_count) + (5 : Int32)).toNatClampNeg yT_contrast) (((8 : Int32) * K_count) + (6 : Int32)).toNatClampNeg yT_offset) (((8 : Int32) * K_count) + (7 : Int32)).toNatClampNeg yT_error))))))))))) else (some (K_count, KA_f))
def f_F_domainBits_11 (p1 : Int32) (p2 : Int32) : Nat → Int32 → Option (Int32)
  | 0, _ => none
  | n + 1, v3 => if (8 : Int32) ≤ v3 then (some v3) else (if p2 ≤ ((1 : Int32) <<< (v3 &&& 31)) then (some v3) else (f_F_domainBits_11 p1 p2 n (v3 + 1)))
def f_F_domainBits (x1 : Int32) (O_side : Int32) : Option (Int32) := (f_F_domainsOf O_side x1).bind (fun q393 => (f_F_domainBits_11 x1 q393 FU (0 : Int32)).bind (fun q395 => some q395))
def f_F_writeFit (x1 : Int32) (O_side : Int32) (E_domain : Int32) (E_turn : Int32) (E_contrast : Int32) (E_offset : Int32) (C_filled : Int32) (CA_n : Nat) (CA_f : Nat → Int32) : Option (Int32 × (Nat → Int32)) := (f_F_domainBits x1 O_side).bind (fun q398 => (f_B_append E_domain q398 C_filled CA_n CA_f).bind (fun q400 => (f_B_append E_turn (3 : Int32) q400.1 CA_n q400.2).bind (fun q401 => (f_B_append (E_contrast + (7 : Int32)) (4 : Int32) q401.1 CA_n q401.2).bind (fun q402 => (f_B_append (E_offset + (256 : Int32)) (10 : Int32) q402.1 CA_n q402.2).bind (fun q403 => some (q403.1, q403.2))))))
def f_F_encodeSquare_J62 (rec : Int32 → Int32 → Int32 → Int32 → Int32 → Int32 → Int32 → Nat → (Nat → Int32) → Int32 → Nat → (Nat → Int32) → Int32 → Int32 → Int32 → Int32 → Int32 → Int32 → Int32 → Int32 → Int32 → Int32 → Int32 → Nat → (Nat → Int32) → Nat → (Nat → Int32) → Nat → (Nat → Int32) → Nat → (Nat → Int32) → Int32 → Int32 → Int32 → Int32 → Int32 → Int32 → Nat → (Nat → Int32) → Int32 → Nat → (Nat → Int32) → Option (Int32 × Int32 × Int32 × Int32 × Int32 × Int32 × Int32 × Int32 × Int32 × Int32 × Int32 × (Nat → Int32) × (Nat → Int32) × (Nat → Int32) × (Nat → Int32) × Int32 × Int32 × Int32 × Int32 × Int32 × Int32 × (Nat → Int32) × Int32 × (Nat → Int32))) (p1 : Int32) (p2 : Int32) (p3 : Int32) (p4 : Int32) (p5 : Int32) (p6 : Int32) (O_side : Int32) (P_side : Int32) (PA_n : Nat) (PA_f : Nat → Int32) (H_side : Int32) (HA_n : Nat) (HA_f : Nat → Int32) (V_left : Int32) (V_top : Int32) (V_start : Int32) (V_stepAcross : Int32) (V_stepDown : Int32) (S_tried : Int32) (S_size : Int32) (S_count : Int32) (S_wantedSum : Int32) (S_foundSum : Int32) (S_foundSquares : Int32) (W_n : Nat) (W_f : Nat → Int32) (D_n : Nat) (D_f : Nat → Int32) (Q_n : Nat) (Q_f : Nat → Int32) (R_n : Nat) (R_f : Nat → Int32) (E_domain : Int32) (E_turn : Int32) (E_contrast : Int32) (E_offset : Int32) (E_error : Int32) (K_count : Int32) (KA_n : Nat) (KA_f : Nat → Int32) (C_filled : Int32) (CA_n : Nat) (CA_f : Nat → Int32) : Option (Int32 × Int32 × Int32 × Int32 × Int32 × Int32 × Int32 × Int32 × Int32 × Int32 × Int32 × (Nat → Int32) × (Nat → Int32) × (Nat → Int32) × (Nat → Int32) × Int32 × Int32 × Int32 × Int32 × Int32 × Int32 × (Nat → Int32) × Int32 × (Nat → Int32)) := if p6 = 0 then ((f_K_add p1 p2 p3 K_count KA_n KA_f E_domain E_turn E_contrast E_offset E_error).bind (fun q405 => (f_F_writeFit p3 O_side E_domain E_turn E_contrast E_offset C_filled CA_n CA_f).bind (fun q406 => some (V_left, V_top, V_start, V_stepAcross, V_stepDown, S_tried, S_size, S_count, S_wantedSum, S_foundSum, S_foundSquares, W_f, D_f, Q_f, R_f, E_domain, E_turn, E_contrast, E_offset, E_error, q405.1, q405.2, q406.1, q406.2)))) else ((rec p1 p2 (p3 / (2 : Int32)) p4 p5 O_side P_side PA_n PA_f H_side HA_n HA_f V_left V_top V_start V_stepAcross V_stepDown S_tried S_size S_count S_wantedSum S_foundSum S_foundSquares W_n W_f D_n D_f Q_n Q_f R_n R_f E_domain E_turn E_contrast E_offset E_error K_count KA_n KA_f C_filled CA_n CA_f).bind (fun q407 => some (q407.1, q407.2.1, q407.2.2.1, q407.2.2.2.1, q407.2.2.2.2.1, q407.2.2.2.2.2.1, q407.2.2.2.2.2.2.1, q407.2.2.2.2.2.2.2.1, q407.2.2.2.2.2.2.2.2.1, q407.2.2.2.2.2.2.2.2.2.1, q407.2.2.2.2.2.2.2.2.2.2.1, q407.2.2.2.2.2.2.2.2.2.2.2.1, q407.2.2.2.2.2.2.2.2.2.2.2.2.1, q407.2.2.2.2.2.2.2.2.2.2.2.2.2.1, q407.2.2.2.2.2.2.2.2.2.2.2.2.2.2.1, q407.2.2.2.2.2.2.2.2.2.2.2.2.2.2.2.1, q407.2.2.2.2.2.2.2.2.2.2.2.2.2.2.2.2.1, q407.2.2.2.2.2.2.2.2.2.2.2.2.2.2.2.2.2.1, q407.2.2.2.2.2.2.2.2.2.2.2.2.2.2.2.2.2.2.1, q407.2.2.2.2.2.2.2.2.2.2.2.2.2.2.2.2.2.2.2.1, q407.2.2.2.2.2.2.2.2.2.2.2.2.2.2.2.2.2.2.2.2.1, q407.2.2.2.2.2.2.2.2.2.2.2.2.2.2.2.2.2.2.2.2.2.1, q407.2.2.2.2.2.2.2.2.2.2.2.2.2.2.2.2.2.2.2.2.2.2.1, q407.2.2.2.2.2.2.2.2.2.2.2.2.2.2.2.2.2.2.2.2.2.2.2)))
def f_F_encodeSquare_J58 (rec : Int32 → Int32 → Int32 → Int32 → Int32 → Int32 → Int32 → Nat → (Nat → Int32) → Int32 → Nat → (Nat → Int32) → Int32 → Int32 → Int32 → Int32 → Int32 → Int32 → Int32 → Int32 → Int32 → Int32 → Int32 → Nat → (Nat → Int32) → Nat → (Nat → Int32) → Nat → (Nat → Int32) → Nat → (Nat → Int32) → Int32 → Int32 → Int32 → Int32 → Int32 → Int32 → Nat → (Nat → Int32) → Int32 → Nat → (Nat → Int32) → Option (Int32 × Int32 × Int32 × Int32 × Int32 × Int32 × Int32 × Int32 × Int32 × Int32 × Int32 × (Nat → Int32) × (Nat → Int32) × (Nat → Int32) × (Nat → Int32) × Int32 × Int32 × Int32 × Int32 × Int32 × Int32 × (Nat → Int32) × Int32 × (Nat → Int32))) (p1 : Int32) (p2 : Int32) (p3 : Int32) (p4 : Int32) (p5 : Int32) (p6 : Int32) (O_side : Int32) (P_side : Int32) (PA_n : Nat) (PA_f : Nat → Int32) (H_side : Int32) (HA_n : Nat) (HA_f : Nat → Int32) (V_left : Int32) (V_top : Int32) (V_start : Int32) (V_stepAcross : Int32) (V_stepDown : Int32) (S_tried : Int32) (S_size : Int32) (S_count : Int32) (S_wantedSum : Int32) (S_foundSum : Int32) (S_foundSquares : Int32) (W_n : Nat) (W_f : Nat → Int32) (D_n : Nat) (D_f : Nat → Int32) (Q_n : Nat) (Q_f : Nat → Int32) (R_n : Nat) (R_f : Nat → Int32) (E_domain : Int32) (E_turn : Int32) (E_contrast : Int32) (E_offset : Int32) (E_error : Int32) (K_count : Int32) (KA_n : Nat) (KA_f : Nat → Int32) (C_filled : Int32) (CA_n : Nat) (CA_f : Nat → Int32) (s0 : Int32) : Option (Int32 × Int32 × Int32 × Int32 × Int32 × Int32 × Int32 × Int32 × Int32 × Int32 × Int32 × (Nat → Int32) × (Nat → Int32) × (Nat → Int32) × (Nat → Int32) × Int32 × Int32 × Int32 × Int32 × Int32 × Int32 × (Nat → Int32) × Int32 × (Nat → Int32)) := (f_B_append s0 (1 : Int32) C_filled CA_n CA_f).bind (fun q408 => if p6 = 0 then ((f_K_add p1 p2 p3 K_count KA_n KA_f E_domain E_turn E_contrast E_offset E_error).bind (fun q409 => (f_F_writeFit p3 O_side E_domain E_turn E_contrast E_offset q408.1 CA_n q408.2).bind (fun q410 => some (V_left, V_top, V_start, V_stepAcross, V_stepDown, S_tried, S_size, S_count, S_wantedSum, S_foundSum, S_foundSquares, W_f, D_f, Q_f, R_f, E_domain, E_turn, E_contrast, E_offset, E_error, q409.1, q409.2, q410.1, q410.2)))) else ((rec p1 p2 (p3 / (2 : Int32)) p4 p5 O_side P_side PA_n PA_f H_side HA_n HA_f V_left V_top V_start V_stepAcross V_stepDown S_tried S_size S_count S_wantedSum S_foundSum S_foundSquares W_n W_f D_n D_f Q_n Q_f R_n R_f E_domain E_turn E_contrast E_offset E_error K_count KA_n KA_f q408.1 CA_n q408.2).bind (fun q411 => some (q411.1, q411.2.1, q411.2.2.1, q411.2.2.2.1, q411.2.2.2.2.1, q411.2.2.2.2.2.1, q411.2.2.2.2.2.2.1, q411.2.2.2.2.2.2.2.1, q411.2.2.2.2.2.2.2.2.1, q411.2.2.2.2.2.2.2.2.2.1, q411.2.2.2.2.2.2.2.2.2.2.1, q411.2.2.2.2.2.2.2.2.2.2.2.1, q411.2.2.2.2.2.2.2.2.2.2.2.2.1, q411.2.2.2.2.2.2.2.2.2.2.2.2.2.1, q411.2.2.2.2.2.2.2.2.2.2.2.2.2.2.1, q411.2.2.2.2.2.2.2.2.2.2.2.2.2.2.2.1, q411.2.2.2.2.2.2.2.2.2.2.2.2.2.2.2.2.1, q411.2.2.2.2.2.2.2.2.2.2.2.2.2.2.2.2.2.1, q411.2.2.2.2.2.2.2.2.2.2.2.2.2.2.2.2.2.2.1, q411.2.2.2.2.2.2.2.2.2.2.2.2.2.2.2.2.2.2.2.1, q411.2.2.2.2.2.2.2.2.2.2.2.2.2.2.2.2.2.2.2.2.1, q411.2.2.2.2.2.2.2.2.2.2.2.2.2.2.2.2.2.2.2.2.2.1, q411.2.2.2.2.2.2.2.2.2.2.2.2.2.2.2.2.2.2.2.2.2.2.1, q411.2.2.2.2.2.2.2.2.2.2.2.2.2.2.2.2.2.2.2.2.2.2.2))))
def f_F_encodeSquare_J36 (rec : Int32 → Int32 → Int32 → Int32 → Int32 → Int32 → Int32 → Nat → (Nat → Int32) → Int32 → Nat → (Nat → Int32) → Int32 → Int32 → Int32 → Int32 → Int32 → Int32 → Int32 → Int32 → Int32 → Int32 → Int32 → Nat → (Nat → Int32) → Nat → (Nat → Int32) → Nat → (Nat → Int32) → Nat → (Nat → Int32) → Int32 → Int32 → Int32 → Int32 → Int32 → Int32 → Nat → (Nat → Int32) → Int32 → Nat → (Nat → Int32) → Option (Int32 × Int32 × Int32 × Int32 × Int32 × Int32 × Int32 × Int32 × Int32 × Int32 × Int32 × (Nat → Int32) × (Nat → Int32) × (Nat → Int32) × (Nat → Int32) × Int32 × Int32 × Int32 × Int32 × Int32 × Int32 × (Nat → Int32) × Int32 × (Nat → Int32))) (p1 : Int32) (p2 : Int32) (p3 : Int32) (p4 : Int32) (p5 : Int32) (O_side : Int32) (P_side : Int32) (PA_n : Nat) (PA_f : Nat → Int32) (H_side : Int32) (HA_n : Nat) (HA_f : Nat → Int32) (V_left : Int32) (V_top : Int32) (V_start : Int32) (V_stepAcross : Int32) (V_stepDown : Int32) (S_tried : Int32) (S_size : Int32) (S_count : Int32) (S_wantedSum : Int32) (S_foundSum : Int32) (S_foundSquares : Int32) (W_n : Nat) (W_f : Nat → Int32) (D_n : Nat) (D_f : Nat → Int32) (Q_n : Nat) (Q_f : Nat → Int32) (R_n : Nat) (R_f : Nat → Int32) (E_domain : Int32) (E_turn : Int32) (E_contrast : Int32) (E_offset : Int32) (E_error : Int32) (K_count : Int32) (KA_n : Nat) (KA_f : Nat → Int32) (C_filled : Int32) (CA_n : Nat) (CA_f : Nat → Int32) (s0 : Int32) : Option (Int32 × Int32 × Int32 × Int32 × Int32 × Int32 × Int32 × Int32 × Int32 × Int32 × Int32 × (Nat → Int32) × (Nat → Int32) × (Nat → Int32) × (Nat → Int32) × Int32 × Int32 × Int32 × Int32 × Int32 × Int32 × (Nat → Int32) × Int32 × (Nat → Int32)) := if p3 ≤ p4 then (f_F_encodeSquare_J62 rec p1 p2 p3 p4 p5 s0 O_side P_side PA_n PA_f H_side HA_n HA_f V_left V_top V_start V_stepAcross V_stepDown S_tried S_size S_count S_wantedSum S_foundSum S_foundSquares W_n W_f D_n D_f Q_n Q_f R_n R_f E_domain E_turn E_contrast E_offset E_error K_count KA_n KA_f C_filled CA_n CA_f) else (if s0 = 0 then (f_F_encodeSquare_J58 rec p1 p2 p3 p4 p5 s0 O_side P_side PA_n PA_f H_side HA_n HA_f V_left V_top V_start V_stepAcross V_stepDown S_tried S_size S_count S_wantedSum S_foundSum S_foundSquares W_n W_f D_n D_f Q_n Q_f R_n R_f E_domain E_turn E_contrast E_offset E_error K_count KA_n KA_f C_filled CA_n CA_f (0 : Int32)) else (f_F_encodeSquare_J58 rec p1 p2 p3 p4 p5 s0 O_side P_side PA_n PA_f H_side HA_n HA_f V_left V_top V_start V_stepAcross V_stepDown S_tried S_size S_count S_wantedSum S_foundSum S_foundSquares W_n W_f D_n D_f Q_n Q_f R_n R_f E_domain E_turn E_contrast E_offset E_error K_count KA_n KA_f C_filled CA_n CA_f (1 : Int32)))
def f_F_encodeSquare (rec : Int32 → Int32 → Int32 → Int32 → Int32 → Int32 → Int32 → Nat → (Nat → Int32) → Int32 → Nat → (Nat → Int32) → Int32 → Int32 → Int32 → Int32 → Int32 → Int32 → Int32 → Int32 → Int32 → Int32 → Int32 → Nat → (Nat → Int32) → Nat → (Nat → Int32) → Nat → (Nat → Int32) → Nat → (Nat → Int32) → Int32 → Int32 → Int32 → Int32 → Int32 → Int32 → Nat → (Nat → Int32) → Int32 → Nat → (Nat → Int32) → Option (Int32 × Int32 × Int32 × Int32 × Int32 × Int32 × Int32 × Int32 × Int32 × Int32 × Int32 × (Nat → Int32) × (Nat → Int32) × (Nat → Int32) × (Nat → Int32) × Int32 × Int32 × Int32 × Int32 × Int32 × Int32 × (Nat → Int32) × Int32 × (Nat → Int32))) (x1 : Int32) (x2 : Int32) (x3 : Int32) (x4 : Int32) (x5 : Int32) (O_side : Int32) (P_side : Int32) (PA_n : Nat) (PA_f : Nat → Int32) (H_side : Int32) (HA_n : Nat) (HA_f : Nat → Int32) (V_left : Int32) (V_top : Int32) (V_start : Int32) (V_stepAcross : Int32) (V_stepDown : Int32) (S_tried : Int32) (S_size : Int32) (S_count : Int32) (S_wantedSum : Int32) (S_foundSum : Int32) (S_foundSquares : Int32) (W_n : Nat) (W_f : Nat → Int32) (D_n : Nat) (D_f : Nat → Int32) (Q_n : Nat) (Q_f : Nat → Int32) (R_n : Nat) (R_f : Nat → Int32) (E_domain : Int32) (E_turn : Int32) (E_contrast : Int32) (E_offset : Int32) (E_error : Int32) (K_count : Int32) (KA_n : Nat) (KA_f : Nat → Int32) (C_filled : Int32) (CA_n : Nat) (CA_f : Nat → Int32) : Option (Int32 × Int32 × Int32 × Int32 × Int32 × Int32 × Int32 × Int32 × Int32 × Int32 × Int32 × (Nat → Int32) × (Nat → Int32) × (Nat → Int32) × (Nat → Int32) × Int32 × Int32 × Int32 × Int32 × Int32 × Int32 × (Nat → Int32) × Int32 × (Nat → Int32)) := (f_S_findBest x1 x2 x3 S_tried S_size S_count S_wantedSum S_foundSum S_foundSquares P_side PA_n PA_f H_side HA_n HA_f V_left V_top V_start V_stepAcross V_stepDown W_n W_f D_n D_f Q_n Q_f R_n R_f E_domain E_turn E_contrast E_offset E_error).bind (fun q404 => if x3 ≤ x4 then (f_F_encodeSquare_J36 rec x1 x2 x3 x4 x5 O_side P_side PA_n PA_f H_side HA_n HA_f q404.2.2.2.2.2.2.1 q404.2.2.2.2.2.2.2.1 q404.2.2.2.2.2.2.2.2.1 q404.2.2.2.2.2.2.2.2.2.1 q404.2.2.2.2.2.2.2.2.2.2.1 q404.1 q404.2.1 q404.2.2.1 q404.2.2.2.1 q404.2.2.2.2.1 q404.2.2.2.2.2.1 W_n q404.2.2.2.2.2.2.2.2.2.2.2.1 D_n q404.2.2.2.2.2.2.2.2.2.2.2.2.1 Q_n q404.2.2.2.2.2.2.2.2.2.2.2.2.2.1 R_n q404.2.2.2.2.2.2.2.2.2.2.2.2.2.2.1 q404.2.2.2.2.2.2.2.2.2.2.2.2.2.2.2.1 q404.2.2.2.2.2.2.2.2.2.2.2.2.2.2.2.2.1 q404.2.2.2.2.2.2.2.2.2.2.2.2.2.2.2.2.2.1 q404.2.2.2.2.2.2.2.2.2.2.2.2.2.2.2.2.2.2.1 q404.2.2.2.2.2.2.2.2.2.2.2.2.2.2.2.2.2.2.2 K_count KA_n KA_f C_filled CA_n CA_f (0 : Int32)) else (if q404.2.2.2.2.2.2.2.2.2.2.2.2.2.2.2.2.2.2.2 ≤ x5 then (f_F_encodeSquare_J36 rec x1 x2 x3 x4 x5 O_side P_side PA_n PA_f H_side HA_n HA_f q404.2.2.2.2.2.2.1 q404.2.2.2.2.2.2.2.1 q404.2.2.2.2.2.2.2.2.1 q404.2.2.2.2.2.2.2.2.2.1 q404.2.2.2.2.2.2.2.2.2.2.1 q404.1 q404.2.1 q404.2.2.1 q404.2.2.2.1 q404.2.2.2.2.1 q404.2.2.2.2.2.1 W_n q404.2.2.2.2.2.2.2.2.2.2.2.1 D_n q404.2.2.2.2.2.2.2.2.2.2.2.2.1 Q_n q404.2.2.2.2.2.2.2.2.2.2.2.2.2.1 R_n q404.2.2.2.2.2.2.2.2.2.2.2.2.2.2.1 q404.2.2.2.2.2.2.2.2.2.2.2.2.2.2.2.1 q404.2.2.2.2.2.2.2.2.2.2.2.2.2.2.2.2.1 q404.2.2.2.2.2.2.2.2.2.2.2.2.2.2.2.2.2.1 q404.2.2.2.2.2.2.2.2.2.2.2.2.2.2.2.2.2.2.1 q404.2.2.2.2.2.2.2.2.2.2.2.2.2.2.2.2.2.2.2 K_count KA_n KA_f C_filled CA_n CA_f (0 : Int32)) else (f_F_encodeSquare_J36 rec x1 x2 x3 x4 x5 O_side P_side PA_n PA_f H_side HA_n HA_f q404.2.2.2.2.2.2.1 q404.2.2.2.2.2.2.2.1 q404.2.2.2.2.2.2.2.2.1 q404.2.2.2.2.2.2.2.2.2.1 q404.2.2.2.2.2.2.2.2.2.2.1 q404.1 q404.2.1 q404.2.2.1 q404.2.2.2.1 q404.2.2.2.2.1 q404.2.2.2.2.2.1 W_n q404.2.2.2.2.2.2.2.2.2.2.2.1 D_n q404.2.2.2.2.2.2.2.2.2.2.2.2.1 Q_n q404.2.2.2.2.2.2.2.2.2.2.2.2.2.1 R_n q404.2.2.2.2.2.2.2.2.2.2.2.2.2.2.1 q404.2.2.2.2.2.2.2.2.2.2.2.2.2.2.2.1 q404.2.2.2.2.2.2.2.2.2.2.2.2.2.2.2.2.1 q404.2.2.2.2.2.2.2.2.2.2.2.2.2.2.2.2.2.1 q404.2.2.2.2.2.2.2.2.2.2.2.2.2.2.2.2.2.2.1 q404.2.2.2.2.2.2.2.2.2.2.2.2.2.2.2.2.2.2.2 K_count KA_n KA_f C_filled CA_n CA_f (1 : Int32))))
def f_F_encodeQuarters_9 (rec : Int32 → Int32 → Int32 → Int32 → Int32 → Int32 → Int32 → Nat → (Nat → Int32) → Int32 → Nat → (Nat → Int32) → Int32 → Int32 → Int32 → Int32 → Int32 → Int32 → Int32 → Int32 → Int32 → Int32 → Int32 → Nat → (Nat → Int32) → Nat → (Nat → Int32) → Nat → (Nat → Int32) → Nat → (Nat → Int32) → Int32 → Int32 → Int32 → Int32 → Int32 → Int32 → Nat → (Nat → Int32) → Int32 → Nat → (Nat → Int32) → Option (Int32 × Int32 × Int32 × Int32 × Int32 × Int32 × Int32 × Int32 × Int32 × Int32 × Int32 × (Nat → Int32) × (Nat → Int32) × (Nat → Int32) × (Nat → Int32) × Int32 × Int32 × Int32 × Int32 × Int32 × Int32 × (Nat → Int32) × Int32 × (Nat → Int32))) (p1 : Int32) (p2 : Int32) (p3 : Int32) (p4 : Int32) (p5 : Int32) (O_side : Int32) (P_side : Int32) (PA_n : Nat) (PA_f : Nat → Int32) (H_side : Int32) (HA_n : Nat) (HA_f : Nat → Int32) (W_n : Nat) (D_n : Nat) (Q_n : Nat) (R_n : Nat) (KA_n : Nat) (CA_n : Nat) : Nat → Int32 → Int32 → Int32 → Int32 → Int32 → Int32 → Int32 → Int32 → Int32 → Int32 → Int32 → Int32 → (Nat → Int32) → (Nat → Int32) → (Nat → Int32) → (Nat → Int32) → Int32 → Int32 → Int32 → Int32 → Int32 → Int32 → (Nat → Int32) → Int32 → (Nat → Int32) → Option (Int32 × Int32 × Int32 × Int32 × Int32 × Int32 × Int32 × Int32 × Int32 × Int32 × Int32 × Int32 × (Nat → Int32) × (Nat → Int32) × (Nat → Int32) × (Nat → Int32) × Int32 × Int32 × Int32 × Int32 × Int32 × Int32 × (Nat → Int32) × Int32 × (Nat → Int32))
  | 0, _, _, _, _, _, _, _, _, _, _, _, _, _, _, _, _, _, _, _, _, _, _, _, _, _ => none
  | n + 1, v6, V_left, V_top, V_start, V_stepAcross, V_stepDown, S_tried, S_size, S_count, S_wantedSum, S_foundSum, S_foundSquares, W_f, D_f, Q_f, R_f, E_domain, E_turn, E_contrast, E_offset, E_error, K_count, KA_f, C_filled, CA_f => if (4 : Int32) ≤ v6 then (some (v6, V_left, V_top, V_start, V_stepAcross, V_stepDown, S_tried, S_size, S_count, S_wantedSum, S_foundSum, S_foundSquares, W_f, D_f, Q_f, R_f, E_domain, E_turn, E_contrast, E_offset, E_error, K_count, KA_f, C_filled, CA_f)) else ((f_F_acrossOf v6).bind (fun q423 => (f_F_downOf v6).bind (fun q425 => (f_F_encodeSquare rec (p1 + (q423 * p3)) (p2 + (q425 * p3)) p3 p4 p5 O_side P_side PA_n PA_f H_side HA_n HA_f V_left V_top V_start V_stepAcross V_stepDown S_tried S_size S_count S_wantedSum S_foundSum S_foundSquares W_n W_f D_n D_f Q_n Q_f R_n R_f E_domain E_turn E_contrast E_offset E_error K_count KA_n KA_f C_filled CA_n CA_f).bind (fun q427 => f_F_encodeQuarters_9 rec p1 p2 p3 p4 p5 O_side P_side PA_n PA_f H_side HA_n HA_f W_n D_n Q_n R_n KA_n CA_n n (v6 + 1) q427.1 q427.2.1 q427.2.2.1 q427.2.2.2.1 q427.2.2.2.2.1 q427.2.2.2.2.2.1 q427.2.2.2.2.2.2.1 q427.2.2.2.2.2.2.2.1 q427.2.2.2.2.2.2.2.2.1 q427.2.2.2.2.2.2.2.2.2.1 q427.2.2.2.2.2.2.2.2.2.2.1 q427.2.2.2.2.2.2.2.2.2.2.2.1 q427.2.2.2.2.2.2.2.2.2.2.2.2.1 q427.2.2.2.2.2.2.2.2.2.2.2.2.2.1 q427.2.2.2.2.2.2.2.2.2.2.2.2.2.2.1 q427.2.2.2.2.2.2.2.2.2.2.2.2.2.2.2.1 q427.2.2.2.2.2.2.2.2.2.2.2.2.2.2.2.2.1 q427.2.2.2.2.2.2.2.2.2.2.2.2.2.2.2.2.2.1 q427.2.2.2.2.2.2.2.2.2.2.2.2.2.2.2.2.2.2.1 q427.2.2.2.2.2.2.2.2.2.2.2.2.2.2.2.2.2.2.2.1 q427.2.2.2.2.2.2.2.2.2.2.2.2.2.2.2.2.2.2.2.2.1 q427.2.2.2.2.2.2.2.2.2.2.2.2.2.2.2.2.2.2.2.2.2.1 q427.2.2.2.2.2.2.2.2.2.2.2.2.2.2.2.2.2.2.2.2.2.2.1 q427.2.2.2.2.2.2.2.2.2.2.2.2.2.2.2.2.2.2.2.2.2.2.2))))
def f_F_encodeQuarters : Nat → Int32 → Int32 → Int32 → Int32 → Int32 → Int32 → Int32 → Nat → (Nat → Int32) → Int32 → Nat → (Nat → Int32) → Int32 → Int32 → Int32 → Int32 → Int32 → Int32 → Int32 → Int32 → Int32 → Int32 → Int32 → Nat → (Nat → Int32) → Nat → (Nat → Int32) → Nat → (Nat → Int32) → Nat → (Nat → Int32) → Int32 → Int32 → Int32 → Int32 → Int32 → Int32 → Nat → (Nat → Int32) → Int32 → Nat → (Nat → Int32) → Option (Int32 × Int32 × Int32 × Int32 × Int32 × Int32 × Int32 × Int32 × Int32 × Int32 × Int32 × (Nat → Int32) × (Nat → Int32) × (Nat → Int32) × (Nat → Int32) × Int32 × Int32 × Int32 × Int32 × Int32 × Int32 × (Nat → Int32) × Int32 × (Nat → Int32))
  | 0, _, _, _, _, _, _, _, _, _, _, _, _, _, _, _, _, _, _, _, _, _, _, _, _, _, _, _, _, _, _, _, _, _, _, _, _, _, _, _, _, _, _ => none
  | d + 1, x1, x2, x3, x4, x5, O_side, P_side, PA_n, PA_f, H_side, HA_n, HA_f, V_left, V_top, V_start, V_stepAcross, V_stepDown, S_tried, S_size, S_count, S_wantedSum, S_foundSum, S_foundSquares, W_n, W_f, D_n, D_f, Q_n, Q_f, R_n, R_f, E_domain, E_turn, E_contrast, E_offset, E_error, K_count, KA_n, KA_f, C_filled, CA_n, CA_f => if (2 : Int32) ≤ x3 then ((f_F_encodeQuarters_9 (f_F_encodeQuarters d) x1 x2 x3 x4 x5 O_side P_side PA_n PA_f H_side HA_n HA_f W_n D_n Q_n R_n KA_n CA_n FU (0 : Int32) V_left V_top V_start V_stepAcross V_stepDown S_tried S_size S_count S_wantedSum S_foundSum S_foundSquares W_f D_f Q_f R_f E_domain E_turn E_contrast E_offset E_error K_count KA_f C_filled CA_f).bind (fun q428 => some (q428.2.1, q428.2.2.1, q428.2.2.2.1, q428.2.2.2.2.1, q428.2.2.2.2.2.1, q428.2.2.2.2.2.2.1, q428.2.2.2.2.2.2.2.1, q428.2.2.2.2.2.2.2.2.1, q428.2.2.2.2.2.2.2.2.2.1, q428.2.2.2.2.2.2.2.2.2.2.1, q428.2.2.2.2.2.2.2.2.2.2.2.1, q428.2.2.2.2.2.2.2.2.2.2.2.2.1, q428.2.2.2.2.2.2.2.2.2.2.2.2.2.1, q428.2.2.2.2.2.2.2.2.2.2.2.2.2.2.1, q428.2.2.2.2.2.2.2.2.2.2.2.2.2.2.2.1, q428.2.2.2.2.2.2.2.2.2.2.2.2.2.2.2.2.1, q428.2.2.2.2.2.2.2.2.2.2.2.2.2.2.2.2.2.1, q428.2.2.2.2.2.2.2.2.2.2.2.2.2.2.2.2.2.2.1, q428.2.2.2.2.2.2.2.2.2.2.2.2.2.2.2.2.2.2.2.1, q428.2.2.2.2.2.2.2.2.2.2.2.2.2.2.2.2.2.2.2.2.1, q428.2.2.2.2.2.2.2.2.2.2.2.2.2.2.2.2.2.2.2.2.2.1, q428.2.2.2.2.2.2.2.2.2.2.2.2.2.2.2.2.2.2.2.2.2.2.1, q428.2.2.2.2.2.2.2.2.2.2.2.2.2.2.2.2.2.2.2.2.2.2.2.1, q428.2.2.2.2.2.2.2.2.2.2.2.2.2.2.2.2.2.2.2.2.2.2.2.2))) else (some (V_left, V_top, V_start, V_stepAcross, V_stepDown, S_tried, S_size, S_count, S_wantedSum, S_foundSum, S_foundSquares, W_f, D_f, Q_f, R_f, E_domain, E_turn, E_contrast, E_offset, E_error, K_count, KA_f, C_filled, CA_f))
def f_F_encode (x1 : Int32) (x2 : Int32) (O_side : Int32) (P_side : Int32) (PA_n : Nat) (PA_f : Nat → Int32) (H_mostSide : Int32) (H_side : Int32) (HA_n : Nat) (HA_f : Nat → Int32) (V_left : Int32) (V_top : Int32) (V_start : Int32) (V_stepAcross : Int32) (V_stepDown : Int32) (S_tried : Int32) (S_size : Int32) (S_count : Int32) (S_wantedSum : Int32) (S_foundSum : Int32) (S_foundSquares : Int32) (W_n : Nat) (W_f : Nat → Int32) (D_n : Nat) (D_f : Nat → Int32) (Q_n : Nat) (Q_f : Nat → Int32) (R_n : Nat) (R_f : Nat → Int32) (E_domain : Int32) (E_turn : Int32) (E_contrast : Int32) (E_offset : Int32) (E_error : Int32) (K_count : Int32) (KA_n : Nat) (KA_f : Nat → Int32) (C_filled : Int32) (CA_n : Nat) (CA_f : Nat → Int32) : Option (Nat ⊕ (Int32 × Int32 × (Nat → Int32) × Int32 × Int32 × Int32 × Int32 × Int32 × Int32 × Int32 × Int32 × Int32 × Int32 × Int32 × (Nat → Int32) × (Nat → Int32) × (Nat → Int32) × (Nat → Int32) × Int32 × Int32 × Int32 × Int32 × Int32 × Int32 × (Nat → Int32) × Int32 × Int32 × (Nat → Int32))) := (f_F_isSize x1).bind (fun q460 => if q460 = 0 then (some (.inl 2)) else (if x1 ≤ (O_side / (2 : Int32)) then (if 0 ≤ x2 then ((f_K_wipe).bind (fun q462 => (f_B_wipe).bind (fun q463 => (f_S_start P_side PA_n PA_f H_mostSide H_side HA_n HA_f).bind (fun q464 => (f_F_sizeNumber x1).bind (fun q465 => (f_B_append q465 (3 : Int32) q463.1 CA_n CA_f).bind (fun q467 => (f_F_encodeQuarters 6 (0 : Int32) (0 : Int32) (O_side / (2 : Int32)) x1 x2 O_side P_side PA_n PA_f q464.2.1 HA_n q464.2.2 V_left V_top V_start V_stepAcross V_stepDown q464.1 S_size S_count S_wantedSum S_foundSum S_foundSquares W_n W_f D_n D_f Q_n Q_f R_n R_f E_domain E_turn E_contrast E_offset E_error q462 KA_n KA_f q467.1 CA_n q467.2).bind (fun q468 => some (.inr (q468.2.2.2.2.2.2.2.2.2.2.2.2.2.2.2.2.2.2.2.2.1, q464.2.1, q464.2.2, q468.1, q468.2.1, q468.2.2.1, q468.2.2.2.1, q468.2.2.2.2.1, q468.2.2.2.2.2.1, q468.2.2.2.2.2.2.1, q468.2.2.2.2.2.2.2.1, q468.2.2.2.2.2.2.2.2.1, q468.2.2.2.2.2.2.2.2.2.1, q468.2.2.2.2.2.2.2.2.2.2.1, q468.2.2.2.2.2.2.2.2.2.2.2.1, q468.2.2.2.2.2.2.2.2.2.2.2.2.1, q468.2.2.2.2.2.2.2.2.2.2.2.2.2.1, q468.2.2.2.2.2.2.2.2.2.2.2.2.2.2.1, q468.2.2.2.2.2.2.2.2.2.2.2.2.2.2.2.1, q468.2.2.2.2.2.2.2.2.2.2.2.2.2.2.2.2.1, q468.2.2.2.2.2.2.2.2.2.2.2.2.2.2.2.2.2.1, q468.2.2.2.2.2.2.2.2.2.2.2.2.2.2.2.2.2.2.1, q468.2.2.2.2.2.2.2.2.2.2.2.2.2.2.2.2.2.2.2.1, q468.2.2.2.2.2.2.2.2.2.2.2.2.2.2.2.2.2.2.2.2.1, q468.2.2.2.2.2.2.2.2.2.2.2.2.2.2.2.2.2.2.2.2.2.1, q468.2.2.2.2.2.2.2.2.2.2.2.2.2.2.2.2.2.2.2.2.2.2.1, q463.2, q468.2.2.2.2.2.2.2.2.2.2.2.2.2.2.2.2.2.2.2.2.2.2.2))))))))) else (some (.inl 2))) else (some (.inl 2))))
def f_B_rewind : Option (Int32) := some (0 : Int32)
def f_B_bitAt (x1 : Int32) (BA_n : Nat) (BA_f : Nat → Int32) : Option (Int32) := (f_B_byteOf (x1 / (8 : Int32)) BA_n BA_f).bind (fun q469 => some ((q469 >>> (((7 : Int32) - (x1 - x1 / (8 : Int32) * (8 : Int32))) &&& 31)) &&& (1 : Int32)))
def f_B_take_19 (p1 : Int32) (B_taken : Int32) (BA_n : Nat) (BA_f : Nat → Int32) : Nat → Int32 → Int32 → Option (Int32 × Int32)
  | 0, _, _ => none
  | n + 1, v2, v3 => if p1 ≤ v3 then (some (v2, v3)) else ((f_B_bitAt (B_taken + v3) BA_n BA_f).bind (fun q471 => f_B_take_19 p1 B_taken BA_n BA_f n (((2 : Int32) * v2) + q471) (v3 + 1)))
def f_B_take (x1 : Int32) (B_filled : Int32) (B_taken : Int32) (BA_n : Nat) (BA_f : Nat → Int32) : Option (Int32 × Int32) := if x1 ≤ (B_filled - B_taken) then ((f_B_take_19 x1 B_taken BA_n BA_f FU (0 : Int32) (0 : Int32)).bind (fun q473 => some (q473.1, (B_taken + x1)))) else (some (((-1) : Int32), B_taken))
def f_F_readFit (x1 : Int32) (O_side : Int32) (T_domain : Int32) (T_turn : Int32) (T_contrast : Int32) (T_offset : Int32) (T_error : Int32) (I_filled : Int32) (I_taken : Int32) (IA_n : Nat) (IA_f : Nat → Int32) : Option (Int32 × Int32 × Int32 × Int32 × Int32 × Int32 × Int32) := (f_F_domainBits x1 O_side).bind (fun q479 => (f_B_take q479 I_filled I_taken IA_n IA_f).bind (fun q481 => if q481.1 = ((-1) : Int32) then (some ((3 : Int32), T_domain, T_turn, T_contrast, T_offset, T_error, q481.2)) else ((f_F_domainsOf O_side x1).bind (fun q482 => if q481.1 < q482 then ((f_B_take (3 : Int32) I_filled q481.2 IA_n IA_f).bind (fun q484 => if q484.1 = ((-1) : Int32) then (some ((3 : Int32), T_domain, T_turn, T_contrast, T_offset, T_error, q484.2)) else ((f_B_take (4 : Int32) I_filled q484.2 IA_n IA_f).bind (fun q485 => if q485.1 = ((-1) : Int32) then (some ((3 : Int32), T_domain, T_turn, T_contrast, T_offset, T_error, q485.2)) else (if (q485.1 - (7 : Int32)) ≤ (7 : Int32) then ((f_B_take (10 : Int32) I_filled q485.2 IA_n IA_f).bind (fun q486 => if q486.1 = ((-1) : Int32) then (some ((3 : Int32), T_domain, T_turn, T_contrast, T_offset, T_error, q486.2)) else ((f_T_become q481.1 q484.1 (q485.1 - (7 : Int32)) (q486.1 - (256 : Int32)) ((-1) : Int32)).bind (fun q487 => some (((-1) : Int32), q487.1, q487.2.1, q487.2.2.1, q487.2.2.2.1, q487.2.2.2.2, q486.2))))) else (some ((2 : Int32), T_domain, T_turn, T_contrast, T_offset, T_error, q485.2))))))) else (some ((1 : Int32), T_domain, T_turn, T_contrast, T_offset, T_error, q481.2))))))
def f_F_readSquare (rec : Int32 → Int32 → Int32 → Int32 → Int32 → Int32 → Int32 → Nat → (Nat → Int32) → Int32 → Int32 → Int32 → Int32 → Int32 → Int32 → Int32 → Nat → (Nat → Int32) → Option (Int32 × Int32 × (Nat → Int32) × Int32 × Int32 × Int32 × Int32 × Int32 × Int32)) (x1 : Int32) (x2 : Int32) (x3 : Int32) (x4 : Int32) (x5 : Int32) (O_side : Int32) (K_count : Int32) (KA_n : Nat) (KA_f : Nat → Int32) (T_domain : Int32) (T_turn : Int32) (T_contrast : Int32) (T_offset : Int32) (T_error : Int32) (I_filled : Int32) (I_taken : Int32) (IA_n : Nat) (IA_f : Nat → Int32) : Option (Int32 × Int32 × (Nat → Int32) × Int32 × Int32 × Int32 × Int32 × Int32 × Int32) := if x3 ≤ x4 then (if (0 : Int32) = ((-1) : Int32) then (some ((3 : Int32), K_count, KA_f, T_domain, T_turn, T_contrast, T_offset, T_error, I_taken)) else (if (0 : Int32) = (1 : Int32) then ((rec x1 x2 (x3 / (2 : Int32)) x4 x5 O_side K_count KA_n KA_f T_domain T_turn T_contrast T_offset T_error I_filled I_taken IA_n IA_f).bind (fun q490 => some (q490.1, q490.2.1, q490.2.2.1, q490.2.2.2.1, q490.2.2.2.2.1, q490.2.2.2.2.2.1, q490.2.2.2.2.2.2.1, q490.2.2.2.2.2.2.2.1, q490.2.2.2.2.2.2.2.2))) else ((f_F_readFit x3 O_side T_domain T_turn T_contrast T_offset T_error I_filled I_taken IA_n IA_f).bind (fun q488 => if q488.1 = ((-1) : Int32) then (if x5 = 0 then (some (q488.1, K_count, KA_f, q488.2.1, q488.2.2.1, q488.2.2.2.1, q488.2.2.2.2.1, q488.2.2.2.2.2.1, q488.2.2.2.2.2.2)) else ((f_K_add x1 x2 x3 K_count KA_n KA_f q488.2.1 q488.2.2.1 q488.2.2.2.1 q488.2.2.2.2.1 q488.2.2.2.2.2.1).bind (fun q489 => some (q488.1, q489.1, q489.2, q488.2.1, q488.2.2.1, q488.2.2.2.1, q488.2.2.2.2.1, q488.2.2.2.2.2.1, q488.2.2.2.2.2.2)))) else (some (q488.1, K_count, KA_f, q488.2.1, q488.2.2.1, q488.2.2.2.1, q488.2.2.2.2.1, q488.2.2.2.2.2.1, q488.2.2.2.2.2.2)))))) else ((f_B_take (1 : Int32) I_filled I_taken IA_n IA_f).bind (fun q491 => if q491.1 = ((-1) : Int32) then (some ((3 : Int32), K_count, KA_f, T_domain, T_turn, T_contrast, T_offset, T_error, q491.2)) else (if q491.1 = (1 : Int32) then ((rec x1 x2 (x3 / (2 : Int32)) x4 x5 O_side K_count KA_n KA_f T_domain T_turn T_contrast T_offset T_error I_filled q491.2 IA_n IA_f).bind (fun q494 => some (q494.1, q494.2.1, q494.2.2.1, q494.2.2.2.1, q494.2.2.2.2.1, q494.2.2.2.2.2.1, q494.2.2.2.2.2.2.1, q494.2.2.2.2.2.2.2.1, q494.2.2.2.2.2.2.2.2))) else ((f_F_readFit x3 O_side T_domain T_turn T_contrast T_offset T_error I_filled q491.2 IA_n IA_f).bind (fun q492 => if q492.1 = ((-1) : Int32) then (if x5 = 0 then (some (q492.1, K_count, KA_f, q492.2.1, q492.2.2.1, q492.2.2.2.1, q492.2.2.2.2.1, q492.2.2.2.2.2.1, q492.2.2.2.2.2.2)) else ((f_K_add x1 x2 x3 K_count KA_n KA_f q492.2.1 q492.2.2.1 q492.2.2.2.1 q492.2.2.2.2.1 q492.2.2.2.2.2.1).bind (fun q493 => some (q492.1, q493.1, q493.2, q492.2.1, q492.2.2.1, q492.2.2.2.1, q492.2.2.2.2.1, q492.2.2.2.2.2.1, q492.2.2.2.2.2.2)))) else (some (q492.1, K_count, KA_f, q492.2.1, q492.2.2.1, q492.2.2.2.1, q492.2.2.2.2.1, q492.2.2.2.2.2.1, q492.2.2.2.2.2.2)))))))
def f_F_readQuarters_13 (rec : Int32 → Int32 → Int32 → Int32 → Int32 → Int32 → Int32 → Nat → (Nat → Int32) → Int32 → Int32 → Int32 → Int32 → Int32 → Int32 → Int32 → Nat → (Nat → Int32) → Option (Int32 × Int32 × (Nat → Int32) × Int32 × Int32 × Int32 × Int32 × Int32 × Int32)) (p1 : Int32) (p2 : Int32) (p3 : Int32) (p4 : Int32) (p5 : Int32) (O_side : Int32) (KA_n : Nat) (I_filled : Int32) (IA_n : Nat) (IA_f : Nat → Int32) : Nat → Int32 → Int32 → Int32 → (Nat → Int32) → Int32 → Int32 → Int32 → Int32 → Int32 → Int32 → Option (Int32 × Int32 × Int32 × (Nat → Int32) × Int32 × Int32 × Int32 × Int32 × Int32 × Int32)
  | 0, _, _, _, _, _, _, _, _, _, _ => none
  | n + 1, v6, v7, K_count, KA_f, T_domain, T_turn, T_contrast, T_offset, T_error, I_taken => if (4 : Int32) ≤ v7 then (some (v6, v7, K_count, KA_f, T_domain, T_turn, T_contrast, T_offset, T_error, I_taken)) else (if v6 = ((-1) : Int32) then ((f_F_acrossOf v7).bind (fun q495 => (f_F_downOf v7).bind (fun q497 => (f_F_readSquare rec (p1 + (q495 * p3)) (p2 + (q497 * p3)) p3 p4 p5 O_side K_count KA_n KA_f T_domain T_turn T_contrast T_offset T_error I_filled I_taken IA_n IA_f).bind (fun q499 => f_F_readQuarters_13 rec p1 p2 p3 p4 p5 O_side KA_n I_filled IA_n IA_f n q499.1 (v7 + 1) q499.2.1 q499.2.2.1 q499.2.2.2.1 q499.2.2.2.2.1 q499.2.2.2.2.2.1 q499.2.2.2.2.2.2.1 q499.2.2.2.2.2.2.2.1 q499.2.2.2.2.2.2.2.2)))) else (some (v6, v7, K_count, KA_f, T_domain, T_turn, T_contrast, T_offset, T_error, I_taken)))
def f_F_readQuarters : Nat → Int32 → Int32 → Int32 → Int32 → Int32 → Int32 → Int32 → Nat → (Nat → Int32) → Int32 → Int32 → Int32 → Int32 → Int32 → Int32 → Int32 → Nat → (Nat → Int32) → Option (Int32 × Int32 × (Nat → Int32) × Int32 × Int32 × Int32 × Int32 × Int32 × Int32)
  | 0, _, _, _, _, _, _, _, _, _, _, _, _, _, _, _, _, _, _ => none
  | d + 1, x1, x2, x3, x4, x5, O_side, K_count, KA_n, KA_f, T_domain, T_turn, T_contrast, T_offset, T_error, I_filled, I_taken, IA_n, IA_f => if (2 : Int32) ≤ x3 then ((f_F_readQuarters_13 (f_F_readQuarters d) x1 x2 x3 x4 x5 O_side KA_n I_filled IA_n IA_f FU ((-1) : Int32) (0 : Int32) K_count KA_f T_domain T_turn T_contrast T_offset T_error I_taken).bind (fun q500 => some (q500.1, q500.2.2.1, q500.2.2.2.1, q500.2.2.2.2.1, q500.2.2.2.2.2.1, q500.2.2.2.2.2.2.1, q500.2.2.2.2.2.2.2.1, q500.2.2.2.2.2.2.2.2.1, q500.2.2.2.2.2.2.2.2.2))) else (some ((0 : Int32), K_count, KA_f, T_domain, T_turn, T_contrast, T_offset, T_error, I_taken))
def f_B_restIsFilling_21 (B_filled : Int32) (BA_n : Nat) (BA_f : Nat → Int32) : Nat → Int32 → Option (Int32 ⊕ Int32)
  | 0, _ => none
  | n + 1, v1 => if B_filled ≤ v1 then (some (.inr (v1))) else ((f_B_bitAt v1 BA_n BA_f).bind (fun q517 => if q517 = 0 then (f_B_restIsFilling_21 B_filled BA_n BA_f n (v1 + 1)) else (some (.inl v1))))
def f_B_restIsFilling (B_filled : Int32) (B_taken : Int32) (BA_n : Nat) (BA_f : Nat → Int32) : Option (Int32) := if (B_filled - B_taken) < (8 : Int32) then ((f_B_restIsFilling_21 B_filled BA_n BA_f FU B_taken).bind (Sum.elim (fun a => some (0 : Int32)) (fun a => some (1 : Int32)))) else (some (0 : Int32))
def f_F_readWaiting (x1 : Int32) (O_side : Int32) (K_count : Int32) (KA_n : Nat) (KA_f : Nat → Int32) (T_domain : Int32) (T_turn : Int32) (T_contrast : Int32) (T_offset : Int32) (T_error : Int32) (I_filled : Int32) (I_taken : Int32) (IA_n : Nat) (IA_f : Nat → Int32) : Option (Int32 × Int32 × (Nat → Int32) × Int32 × Int32 × Int32 × Int32 × Int32 × Int32) := (f_B_rewind).bind (fun q524 => (f_B_take (3 : Int32) I_filled q524 IA_n IA_f).bind (fun q525 => if q525.1 = ((-1) : Int32) then (some ((3 : Int32), K_count, KA_f, T_domain, T_turn, T_contrast, T_offset, T_error, q525.2)) else ((f_F_isSize ((1 : Int32) <<< (q525.1 &&& 31))).bind (fun q526 => if q526 = 0 then (some ((0 : Int32), K_count, KA_f, T_domain, T_turn, T_contrast, T_offset, T_error, q525.2)) else (if ((1 : Int32) <<< (q525.1 &&& 31)) ≤ (O_side / (2 : Int32)) then ((f_F_readQuarters 6 (0 : Int32) (0 : Int32) (O_side / (2 : Int32)) ((1 : Int32) <<< (q525.1 &&& 31)) x1 O_side K_count KA_n KA_f T_domain T_turn T_contrast T_offset T_error I_filled q525.2 IA_n IA_f).bind (fun q528 => if q528.1 = ((-1) : Int32) then ((f_B_restIsFilling I_filled q528.2.2.2.2.2.2.2.2 IA_n IA_f).bind (fun q529 => if q529 = 0 then (some ((4 : Int32), q528.2.1, q528.2.2.1, q528.2.2.2.1, q528.2.2.2.2.1, q528.2.2.2.2.2.1, q528.2.2.2.2.2.2.1, q528.2.2.2.2.2.2.2.1, q528.2.2.2.2.2.2.2.2)) else (some (((-1) : Int32), q528.2.1, q528.2.2.1, q528.2.2.2.1, q528.2.2.2.2.1, q528.2.2.2.2.2.1, q528.2.2.2.2.2.2.1, q528.2.2.2.2.2.2.2.1, q528.2.2.2.2.2.2.2.2)))) else (some (q528.1, q528.2.1, q528.2.2.1, q528.2.2.2.1, q528.2.2.2.2.1, q528.2.2.2.2.2.1, q528.2.2.2.2.2.2.1, q528.2.2.2.2.2.2.2.1, q528.2.2.2.2.2.2.2.2)))) else (some ((0 : Int32), K_count, KA_f, T_domain, T_turn, T_contrast, T_offset, T_error, q525.2)))))))
def f_F_read (O_side : Int32) (K_count : Int32) (KA_n : Nat) (KA_f : Nat → Int32) (T_domain : Int32) (T_turn : Int32) (T_contrast : Int32) (T_offset : Int32) (T_error : Int32) (I_filled : Int32) (I_taken : Int32) (IA_n : Nat) (IA_f : Nat → Int32) : Option (Int32 × Int32 × (Nat → Int32) × Int32 × Int32 × Int32 × Int32 × Int32 × Int32 × Int32) := (f_F_readWaiting (0 : Int32) O_side K_count KA_n KA_f T_domain T_turn T_contrast T_offset T_error I_filled I_taken IA_n IA_f).bind (fun q531 => if q531.1 = ((-1) : Int32) then ((f_K_wipe).bind (fun q533 => (f_F_readWaiting (1 : Int32) O_side q533 KA_n q531.2.2.1 q531.2.2.2.1 q531.2.2.2.2.1 q531.2.2.2.2.2.1 q531.2.2.2.2.2.2.1 q531.2.2.2.2.2.2.2.1 I_filled q531.2.2.2.2.2.2.2.2 IA_n IA_f).bind (fun q534 => (f_B_wipe).bind (fun q535 => if q531.1 = ((-1) : Int32) then (some (q534.2.1, q534.2.1, q534.2.2.1, q534.2.2.2.1, q534.2.2.2.2.1, q534.2.2.2.2.2.1, q534.2.2.2.2.2.2.1, q534.2.2.2.2.2.2.2.1, q535.1, q535.2)) else (some ((((-1) : Int32) - q531.1), q534.2.1, q534.2.2.1, q534.2.2.2.1, q534.2.2.2.2.1, q534.2.2.2.2.2.1, q534.2.2.2.2.2.2.1, q534.2.2.2.2.2.2.2.1, q535.1, q535.2)))))) else ((f_B_wipe).bind (fun q532 => if q531.1 = ((-1) : Int32) then (some (q531.2.1, q531.2.1, q531.2.2.1, q531.2.2.2.1, q531.2.2.2.2.1, q531.2.2.2.2.2.1, q531.2.2.2.2.2.2.1, q531.2.2.2.2.2.2.2.1, q532.1, q532.2)) else (some ((((-1) : Int32) - q531.1), q531.2.1, q531.2.2.1, q531.2.2.2.1, q531.2.2.2.2.1, q531.2.2.2.2.2.1, q531.2.2.2.2.2.2.1, q531.2.2.2.2.2.2.2.1, q532.1, q532.2)))))
def f_JA_fill_5 (p1 : Int32) (p3 : Int32) (y0A_n : Nat) : Nat → Int32 → (Nat → Int32) → Option (Int32 × (Nat → Int32))
  | 0, _, _ => none
  | n + 1, v2, y0A_f => if p3 ≤ v2 then (some (v2, y0A_f)) else (if v2 < 0 ∨ y0A_n ≤ v2.toNatClampNeg then none else (f_JA_fill_5 p1 p3 y0A_n n (v2 + 1) (upd y0A_f v2.toNatClampNeg p1)))
def f_JA_fill (x1 : Int32) (y0A_n : Nat) (y0A_f : Nat → Int32) : Option (Nat → Int32) := (f_JA_fill_5 x1 (nI y0A_n) y0A_n FU (0 : Int32) y0A_f).bind (fun q536 => some q536.2)
def f_G_become (x1 : Int32) (x2 : Int32) (G_mostSide : Int32) (GA_n : Nat) (GA_f : Nat → Int32) : Option (Int32 × (Nat → Int32)) := (f_JA_fill x2 GA_n GA_f).bind (fun q540 => some ((if (0 : Int32) < (if G_mostSide < x1 then G_mostSide else x1) then (if G_mostSide < x1 then G_mostSide else x1) else (0 : Int32)), q540))
def f_F_decodeBlock_104 (p1 : Int32) (p2 : Int32) (p3 : Int32) (p4 : Int32) (p5 : Int32) (p6 : Int32) (p7 : Int32) (p9 : Int32) (N_side : Int32) (NA_n : Nat) (HA_n : Nat) (HA_f : Nat → Int32) (V_start : Int32) (V_stepAcross : Int32) (V_stepDown : Int32) : Nat → Int32 → Int32 → (Nat → Int32) → Option (Int32 × Int32 × (Nat → Int32))
  | 0, _, _, _ => none
  | n + 1, v8, v10, NA_f => if p5 ≤ v10 then (some (v8, v10, NA_f)) else ((f_V_sample v10 p9 V_start V_stepAcross V_stepDown HA_n HA_f).bind (fun q556 => (f_F_dimmed q556 p6).bind (fun q558 => (f_F_brought ((q558 + p7).toInt64) (0 : Int64) (255 : Int64)).bind (fun q560 => (f_G_sample (p3 + v10) (p4 + p9) N_side NA_n NA_f).bind (fun q562 => (f_G_set (p3 + v10) (p4 + p9) q560.toInt32 N_side NA_n NA_f).bind (fun q564 => f_F_decodeBlock_104 p1 p2 p3 p4 p5 p6 p7 p9 N_side NA_n HA_n HA_f V_start V_stepAcross V_stepDown n (if v8 < (if 0 ≤ (q560.toInt32 - q562) then (q560.toInt32 - q562) else 0 - (q560.toInt32 - q562)) then (if 0 ≤ (q560.toInt32 - q562) then (q560.toInt32 - q562) else 0 - (q560.toInt32 - q562)) else v8) (v10 + 1) q564))))))
def f_F_decodeBlock_94 (p1 : Int32) (p2 : Int32) (p3 : Int32) (p4 : Int32) (p5 : Int32) (p6 : Int32) (p7 : Int32) (N_side : Int32) (NA_n : Nat) (HA_n : Nat) (HA_f : Nat → Int32) (V_start : Int32) (V_stepAcross : Int32) (V_stepDown : Int32) : Nat → Int32 → Int32 → (Nat → Int32) → Option (Int32 × Int32 × (Nat → Int32))
  | 0, _, _, _ => none
  | n + 1, v8, v9, NA_f => if p5 ≤ v9 then (some (v8, v9, NA_f)) else ((f_F_decodeBlock_104 p1 p2 p3 p4 p5 p6 p7 v9 N_side NA_n HA_n HA_f V_start V_stepAcross V_stepDown FU v8 (0 : Int32) NA_f).bind (fun q565 => f_F_decodeBlock_94 p1 p2 p3 p4 p5 p6 p7 N_side NA_n HA_n HA_f V_start V_stepAcross V_stepDown n q565.1 (v9 + 1) q565.2.2))
def f_F_decodeBlock (x1 : Int32) (x2 : Int32) (N_side : Int32) (NA_n : Nat) (NA_f : Nat → Int32) (H_side : Int32) (HA_n : Nat) (HA_f : Nat → Int32) (V_left : Int32) (V_top : Int32) (V_start : Int32) (V_stepAcross : Int32) (V_stepDown : Int32) (K_count : Int32) (KA_n : Nat) (KA_f : Nat → Int32) : Option (Int32 × (Nat → Int32) × Int32 × Int32 × Int32 × Int32 × Int32) := (f_K_fact x1 (0 : Int32) K_count KA_n KA_f).bind (fun q541 => (f_K_fact x1 (1 : Int32) K_count KA_n KA_f).bind (fun q543 => (f_K_fact x1 (2 : Int32) K_count KA_n KA_f).bind (fun q545 => (f_K_fact x1 (5 : Int32) K_count KA_n KA_f).bind (fun q547 => (f_K_fact x1 (6 : Int32) K_count KA_n KA_f).bind (fun q549 => (f_K_fact x1 (3 : Int32) K_count KA_n KA_f).bind (fun q551 => (f_K_fact x1 (4 : Int32) K_count KA_n KA_f).bind (fun q553 => (f_V_aim (q545 <<< (x2 &&& 31)) q551 q553 V_left V_top V_start H_side).bind (fun q555 => (f_F_decodeBlock_94 x1 x2 (q541 <<< (x2 &&& 31)) (q543 <<< (x2 &&& 31)) (q545 <<< (x2 &&& 31)) q547 q549 N_side NA_n HA_n HA_f q555.2.2.1 q555.2.2.2.1 q555.2.2.2.2 FU (0 : Int32) (0 : Int32) NA_f).bind (fun q579 => some (q579.1, q579.2.2, q555.1, q555.2.1, q555.2.2.1, q555.2.2.2.1, q555.2.2.2.2))))))))))
def f_F_decodeRound_15 (p1 : Int32) (N_side : Int32) (NA_n : Nat) (H_side : Int32) (HA_n : Nat) (HA_f : Nat → Int32) (K_count : Int32) (KA_n : Nat) (KA_f : Nat → Int32) : Nat → Int32 → Int32 → (Nat → Int32) → Int32 → Int32 → Int32 → Int32 → Int32 → Option (Int32 × Int32 × (Nat → Int32) × Int32 × Int32 × Int32 × Int32 × Int32)
  | 0, _, _, _, _, _, _, _, _ => none
  | n + 1, v2, v3, NA_f, V_left, V_top, V_start, V_stepAcross, V_stepDown => if K_count ≤ v3 then (some (v2, v3, NA_f, V_left, V_top, V_start, V_stepAcross, V_stepDown)) else ((f_F_decodeBlock v3 p1 N_side NA_n NA_f H_side HA_n HA_f V_left V_top V_start V_stepAcross V_stepDown K_count KA_n KA_f).bind (fun q599 => f_F_decodeRound_15 p1 N_side NA_n H_side HA_n HA_f K_count KA_n KA_f n (if v2 < q599.1 then q599.1 else v2) (v3 + 1) q599.2.1 q599.2.2.1 q599.2.2.2.1 q599.2.2.2.2.1 q599.2.2.2.2.2.1 q599.2.2.2.2.2.2))
def f_F_decodeRound (x1 : Int32) (N_side : Int32) (NA_n : Nat) (NA_f : Nat → Int32) (H_mostSide : Int32) (H_side : Int32) (HA_n : Nat) (HA_f : Nat → Int32) (V_left : Int32) (V_top : Int32) (V_start : Int32) (V_stepAcross : Int32) (V_stepDown : Int32) (K_count : Int32) (KA_n : Nat) (KA_f : Nat → Int32) : Option (Int32 × (Nat → Int32) × Int32 × (Nat → Int32) × Int32 × Int32 × Int32 × Int32 × Int32) := (f_G_becomeHalfOf H_mostSide H_side HA_n HA_f N_side NA_n NA_f).bind (fun q598 => (f_F_decodeRound_15 x1 N_side NA_n q598.1 HA_n q598.2 K_count KA_n KA_f FU (0 : Int32) (0 : Int32) NA_f V_left V_top V_start V_stepAcross V_stepDown).bind (fun q600 => some (q600.1, q600.2.2.1, q598.1, q598.2, q600.2.2.2.1, q600.2.2.2.2.1, q600.2.2.2.2.2.1, q600.2.2.2.2.2.2.1, q600.2.2.2.2.2.2.2)))
def f_F_decode_81 (p1 : Int32) (p2 : Int32) (N_side : Int32) (NA_n : Nat) (H_mostSide : Int32) (HA_n : Nat) (K_count : Int32) (KA_n : Nat) (KA_f : Nat → Int32) : Nat → Int32 → Int32 → (Nat → Int32) → Int32 → (Nat → Int32) → Int32 → Int32 → Int32 → Int32 → Int32 → Option (Int32 × Int32 × (Nat → Int32) × Int32 × (Nat → Int32) × Int32 × Int32 × Int32 × Int32 × Int32)
  | 0, _, _, _, _, _, _, _, _, _, _ => none
  | n + 1, v3, v4, NA_f, H_side, HA_f, V_left, V_top, V_start, V_stepAcross, V_stepDown => if p1 ≤ v4 then (some (v3, v4, NA_f, H_side, HA_f, V_left, V_top, V_start, V_stepAcross, V_stepDown)) else ((f_F_decodeRound p2 N_side NA_n NA_f H_mostSide H_side HA_n HA_f V_left V_top V_start V_stepAcross V_stepDown K_count KA_n KA_f).bind (fun q612 => f_F_decode_81 p1 p2 N_side NA_n H_mostSide HA_n K_count KA_n KA_f n q612.1 (v4 + 1) q612.2.1 q612.2.2.1 q612.2.2.2.1 q612.2.2.2.2.1 q612.2.2.2.2.2.1 q612.2.2.2.2.2.2.1 q612.2.2.2.2.2.2.2.1 q612.2.2.2.2.2.2.2.2))
def f_F_decode (x1 : Int32) (x2 : Int32) (O_side : Int32) (N_mostSide : Int32) (N_side : Int32) (NA_n : Nat) (NA_f : Nat → Int32) (H_mostSide : Int32) (H_side : Int32) (HA_n : Nat) (HA_f : Nat → Int32) (V_left : Int32) (V_top : Int32) (V_start : Int32) (V_stepAcross : Int32) (V_stepDown : Int32) (K_count : Int32) (KA_n : Nat) (KA_f : Nat → Int32) : Option (Nat ⊕ (Int32 × Int32 × (Nat → Int32) × Int32 × (Nat → Int32) × Int32 × Int32 × Int32 × Int32 × Int32)) := if x1 < (1 : Int32) then (some (.inl 2)) else (if x1 ≤ (40 : Int32) then (if x2 < 0 then (some (.inl 2)) else (if x2 ≤ (1 : Int32) then (if K_count = 0 then (some (.inl 3)) else ((f_G_become (O_side <<< (x2 &&& 31)) (128 : Int32) N_mostSide NA_n NA_f).bind (fun q611 => (f_F_decode_81 x1 x2 q611.1 NA_n H_mostSide HA_n K_count KA_n KA_f FU (0 : Int32) (0 : Int32) q611.2 H_side HA_f V_left V_top V_start V_stepAcross V_stepDown).bind (fun q613 => some (.inr (q613.1, q611.1, q613.2.2.1, q613.2.2.2.1, q613.2.2.2.2.1, q613.2.2.2.2.2.1, q613.2.2.2.2.2.2.1, q613.2.2.2.2.2.2.2.1, q613.2.2.2.2.2.2.2.2.1, q613.2.2.2.2.2.2.2.2.2)))))) else (some (.inl 2)))) else (some (.inl 2)))
def f_F_told (x1 : Int32) (O_side : Int32) (N_side : Int32) (K_count : Int32) (C_filled : Int32) (I_filled : Int32) : Option (Int32) := if x1 = (0 : Int32) then (some O_side) else (if x1 = (1 : Int32) then (some K_count) else (if x1 = (2 : Int32) then ((f_B_bytes C_filled).bind (fun q626 => some q626)) else (if x1 = (3 : Int32) then ((f_B_bytes I_filled).bind (fun q628 => some q628)) else (if x1 = (4 : Int32) then (some N_side) else (some ((-1) : Int32))))))
def f_F_tried (S_tried : Int32) : Option (Int32) := some S_tried
def f_F_clear (O_side : Int32) (P_mostSide : Int32) (PA_n : Nat) (PA_f : Nat → Int32) (N_mostSide : Int32) (NA_n : Nat) (NA_f : Nat → Int32) : Option (Int32 × (Nat → Int32) × Int32 × (Nat → Int32) × Int32 × Int32 × Int32 × Int32 × Int32 × Int32) := (f_G_become O_side (0 : Int32) P_mostSide PA_n PA_f).bind (fun q630 => (f_G_become (0 : Int32) (0 : Int32) N_mostSide NA_n NA_f).bind (fun q631 => (f_K_wipe).bind (fun q632 => (f_B_wipe).bind (fun q633 => (f_B_wipe).bind (fun q634 => some (q630.1, q630.2, q631.1, q631.2, (0 : Int32), q632, q633.1, q633.2, q634.1, q634.2))))))
def f_M_thrown (X_code : Int32) : Option (Int32) := some X_code
def f_M_in (x1 : Int64) (x2 : Int64) (x3 : Int64) : Option (Int32) := if (lg_cmp x1 x2) < 0 then (some (0 : Int32)) else (if 0 < (lg_cmp x1 x3) then (some (0 : Int32)) else (some (1 : Int32)))
def f_M_isPlace (x1 : Int32) (x2 : Int32) (X_side : Int32) : Option (Int32) := (f_M_in x1.toInt64 (0 : Int64) ((X_side - (1 : Int32)).toInt64)).bind (fun q635 => if q635 = 0 then (some (0 : Int32)) else ((f_M_in x2.toInt64 (0 : Int64) ((X_side - (1 : Int32)).toInt64)).bind (fun q637 => if q637 = 0 then (some (0 : Int32)) else (some (1 : Int32)))))
def f_M_put (x1 : Int32) (x2 : Int32) (x3 : Int32) (X_code : Int32) (X_side : Int32) (Xpicture_n : Nat) (Xpicture_f : Nat → Int32) : Option (Int32 × Int32 × (Nat → Int32)) := (f_M_isPlace x1 x2 X_side).bind (fun q639 => if q639 = 0 then (if (1 : Int32) ≤ 0 then (if ((X_side * x2) + x1) < 0 ∨ Xpicture_n ≤ ((X_side * x2) + x1).toNatClampNeg then none else (if ((X_side * x2) + x1) < 0 ∨ Xpicture_n ≤ ((X_side * x2) + x1).toNatClampNeg then none else (some ((Xpicture_f ((X_side * x2) + x1).toNatClampNeg), (1 : Int32), (upd Xpicture_f ((X_side * x2) + x1).toNatClampNeg x3))))) else (some ((0 : Int32), (1 : Int32), Xpicture_f))) else ((f_M_in x3.toInt64 (0 : Int64) (255 : Int64)).bind (fun q641 => if q641 = 0 then (if (2 : Int32) ≤ 0 then (if ((X_side * x2) + x1) < 0 ∨ Xpicture_n ≤ ((X_side * x2) + x1).toNatClampNeg then none else (if ((X_side * x2) + x1) < 0 ∨ Xpicture_n ≤ ((X_side * x2) + x1).toNatClampNeg then none else (some ((Xpicture_f ((X_side * x2) + x1).toNatClampNeg), (2 : Int32), (upd Xpicture_f ((X_side * x2) + x1).toNatClampNeg x3))))) else (some ((0 : Int32), (2 : Int32), Xpicture_f))) else (if (0 : Int32) ≤ 0 then (if ((X_side * x2) + x1) < 0 ∨ Xpicture_n ≤ ((X_side * x2) + x1).toNatClampNeg then none else (if ((X_side * x2) + x1) < 0 ∨ Xpicture_n ≤ ((X_side * x2) + x1).toNatClampNeg then none else (some ((Xpicture_f ((X_side * x2) + x1).toNatClampNeg), (0 : Int32), (upd Xpicture_f ((X_side * x2) + x1).toNatClampNeg x3))))) else (some ((0 : Int32), (0 : Int32), Xpicture_f))))))
def f_M_brought (x1 : Int64) (x2 : Int32) (x3 : Int32) : Option (Int32) := if 0 ≤ (lg_cmp x1 x2.toInt64) then (if (lg_cmp x1 x3.toInt64) ≤ 0 then (some x1.toInt32) else (some x3)) else (some x2)
def f_M_paint_11 (p1 : Int32) (p2 : Int32) (p3 : Int32) (X_side : Int32) (Xpicture_n : Nat) : Nat → Int32 → Int32 → (Nat → Int32) → Option (Int32 × Int32 × (Nat → Int32))
  | 0, _, _, _ => none
  | n + 1, v4, v5, Xpicture_f => if (X_side * X_side) ≤ v5 then (some (v4, v5, Xpicture_f)) else (if X_side = 0 then none else (if X_side = 0 then none else ((f_M_brought (((p2.toInt64 * (v5 - v5 / X_side * X_side).toInt64) + (p3.toInt64 * (v5 / X_side).toInt64)) + p1.toInt64) (0 : Int32) (255 : Int32)).bind (fun q643 => if v5 < 0 ∨ Xpicture_n ≤ v5.toNatClampNeg then none else (if q643 = (Xpicture_f v5.toNatClampNeg) then (if v5 < 0 ∨ Xpicture_n ≤ v5.toNatClampNeg then none else (f_M_paint_11 p1 p2 p3 X_side Xpicture_n n (v4 + (0 : Int32)) (v5 + 1) (upd Xpicture_f v5.toNatClampNeg q643))) else (if v5 < 0 ∨ Xpicture_n ≤ v5.toNatClampNeg then none else (f_M_paint_11 p1 p2 p3 X_side Xpicture_n n (v4 + (1 : Int32)) (v5 + 1) (upd Xpicture_f v5.toNatClampNeg q643))))))))
def f_M_paint (x1 : Int32) (x2 : Int32) (x3 : Int32) (X_side : Int32) (Xpicture_n : Nat) (Xpicture_f : Nat → Int32) : Option (Int32 × Int32 × (Nat → Int32)) := (f_M_paint_11 x1 x2 x3 X_side Xpicture_n FU (0 : Int32) (0 : Int32) Xpicture_f).bind (fun q645 => some (q645.1, (0 : Int32), q645.2.2))
def f_M_block (x1 : Int32) (x2 : Int32) (X_code : Int32) (X_many : Int32) (Xblocks_n : Nat) (Xblocks_f : Nat → Int32) : Option (Int32 × Int32) := (f_M_in x1.toInt64 (0 : Int64) ((X_many - (1 : Int32)).toInt64)).bind (fun q652 => if q652 = 0 then (if (1 : Int32) ≤ 0 then (if (((8 : Int32) * x1) + x2) < 0 ∨ Xblocks_n ≤ (((8 : Int32) * x1) + x2).toNatClampNeg then none else (some ((Xblocks_f (((8 : Int32) * x1) + x2).toNatClampNeg), (1 : Int32)))) else (some ((0 : Int32), (1 : Int32)))) else ((f_M_in x2.toInt64 (0 : Int64) (7 : Int64)).bind (fun q654 => if q654 = 0 then (if (2 : Int32) ≤ 0 then (if (((8 : Int32) * x1) + x2) < 0 ∨ Xblocks_n ≤ (((8 : Int32) * x1) + x2).toNatClampNeg then none else (some ((Xblocks_f (((8 : Int32) * x1) + x2).toNatClampNeg), (2 : Int32)))) else (some ((0 : Int32), (2 : Int32)))) else (if (0 : Int32) ≤ 0 then (if (((8 : Int32) * x1) + x2) < 0 ∨ Xblocks_n ≤ (((8 : Int32) * x1) + x2).toNatClampNeg then none else (some ((Xblocks_f (((8 : Int32) * x1) + x2).toNatClampNeg), (0 : Int32)))) else (some ((0 : Int32), (0 : Int32)))))))
def f_M_bytes (X_encodedBits : Int32) : Option (Int32) := some ((X_encodedBits + (7 : Int32)) / (8 : Int32))
def f_M_byteAt (x1 : Int32) (X_code : Int32) (X_encodedBits : Int32) (Xencoded_n : Nat) (Xencoded_f : Nat → Int32) : Option (Int32 × Int32) := (f_M_bytes X_encodedBits).bind (fun q656 => (f_M_in x1.toInt64 (0 : Int64) ((q656 - (1 : Int32)).toInt64)).bind (fun q658 => if q658 = 0 then (if (1 : Int32) ≤ 0 then (if x1 < 0 ∨ Xencoded_n ≤ x1.toNatClampNeg then none else (some ((Xencoded_f x1.toNatClampNeg), (1 : Int32)))) else (some ((0 : Int32), (1 : Int32)))) else (if (0 : Int32) ≤ 0 then (if x1 < 0 ∨ Xencoded_n ≤ x1.toNatClampNeg then none else (some ((Xencoded_f x1.toNatClampNeg), (0 : Int32)))) else (some ((0 : Int32), (0 : Int32))))))
def f_M_feed (x1 : Int32) (X_code : Int32) (X_fedMany : Int32) (Xfed_n : Nat) (Xfed_f : Nat → Int32) : Option (Int32 × Int32 × Int32 × (Nat → Int32)) := (f_M_in x1.toInt64 (0 : Int64) (255 : Int64)).bind (fun q660 => if q660 = 0 then (if (1 : Int32) ≤ 0 then (if X_fedMany < 0 ∨ Xfed_n ≤ X_fedMany.toNatClampNeg then none else (some ((X_fedMany + (1 : Int32)), (1 : Int32), (X_fedMany + (1 : Int32)), (upd Xfed_f X_fedMany.toNatClampNeg x1)))) else (some ((0 : Int32), (1 : Int32), X_fedMany, Xfed_f))) else (if X_fedMany = (2000 : Int32) then (if (2 : Int32) ≤ 0 then (if X_fedMany < 0 ∨ Xfed_n ≤ X_fedMany.toNatClampNeg then none else (some ((X_fedMany + (1 : Int32)), (2 : Int32), (X_fedMany + (1 : Int32)), (upd Xfed_f X_fedMany.toNatClampNeg x1)))) else (some ((0 : Int32), (2 : Int32), X_fedMany, Xfed_f))) else (if (0 : Int32) ≤ 0 then (if X_fedMany < 0 ∨ Xfed_n ≤ X_fedMany.toNatClampNeg then none else (some ((X_fedMany + (1 : Int32)), (0 : Int32), (X_fedMany + (1 : Int32)), (upd Xfed_f X_fedMany.toNatClampNeg x1)))) else (some ((0 : Int32), (0 : Int32), X_fedMany, Xfed_f)))))
def f_M_pass_26 (X_code : Int32) (X_encodedBits : Int32) (Xencoded_n : Nat) (Xencoded_f : Nat → Int32) (Xfed_n : Nat) : Nat → Int32 → Int32 → (Nat → Int32) → Option (Int32 × Int32 × (Nat → Int32))
  | 0, _, _, _ => none
  | n + 1, v1, X_fedMany, Xfed_f => (f_M_bytes X_encodedBits).bind (fun q664 => if q664 ≤ v1 then (some (v1, X_fedMany, Xfed_f)) else (if X_code = 0 then (if v1 < 0 ∨ Xencoded_n ≤ v1.toNatClampNeg then none else (if X_fedMany < 0 ∨ Xfed_n ≤ X_fedMany.toNatClampNeg then none else (f_M_pass_26 X_code X_encodedBits Xencoded_n Xencoded_f Xfed_n n (v1 + 1) (X_fedMany + (1 : Int32)) (upd Xfed_f X_fedMany.toNatClampNeg (Xencoded_f v1.toNatClampNeg))))) else (some (v1, X_fedMany, Xfed_f))))
def f_M_pass (X_code : Int32) (X_encodedBits : Int32) (X_fedMany : Int32) (Xencoded_n : Nat) (Xencoded_f : Nat → Int32) (Xfed_n : Nat) (Xfed_f : Nat → Int32) : Option (Int32 × Int32 × Int32 × (Nat → Int32)) := (f_M_bytes X_encodedBits).bind (fun q662 => if (X_fedMany + q662) ≤ (2000 : Int32) then ((f_M_pass_26 (0 : Int32) X_encodedBits Xencoded_n Xencoded_f Xfed_n FU (0 : Int32) X_fedMany Xfed_f).bind (fun q666 => if (0 : Int32) ≤ 0 then (some (q666.2.1, (0 : Int32), q666.2.1, q666.2.2)) else (some ((0 : Int32), (0 : Int32), q666.2.1, q666.2.2)))) else ((f_M_pass_26 (1 : Int32) X_encodedBits Xencoded_n Xencoded_f Xfed_n FU (0 : Int32) X_fedMany Xfed_f).bind (fun q673 => if (1 : Int32) ≤ 0 then (some (q673.2.1, (1 : Int32), q673.2.1, q673.2.2)) else (some ((0 : Int32), (1 : Int32), q673.2.1, q673.2.2)))))
def f_M_at (x1 : Int32) (x2 : Int32) (X_code : Int32) (X_decoded : Int32) (Xnews_n : Nat) (Xnews_f : Nat → Int32) : Option (Int32 × Int32) := (f_M_in x1.toInt64 (0 : Int64) ((X_decoded - (1 : Int32)).toInt64)).bind (fun q680 => if q680 = 0 then (if (1 : Int32) ≤ 0 then (if ((X_decoded * x2) + x1) < 0 ∨ Xnews_n ≤ ((X_decoded * x2) + x1).toNatClampNeg then none else (some ((Xnews_f ((X_decoded * x2) + x1).toNatClampNeg), (1 : Int32)))) else (some ((0 : Int32), (1 : Int32)))) else ((f_M_in x2.toInt64 (0 : Int64) ((X_decoded - (1 : Int32)).toInt64)).bind (fun q682 => if q682 = 0 then (if (1 : Int32) ≤ 0 then (if ((X_decoded * x2) + x1) < 0 ∨ Xnews_n ≤ ((X_decoded * x2) + x1).toNatClampNeg then none else (some ((Xnews_f ((X_decoded * x2) + x1).toNatClampNeg), (1 : Int32)))) else (some ((0 : Int32), (1 : Int32)))) else (if (0 : Int32) ≤ 0 then (if ((X_decoded * x2) + x1) < 0 ∨ Xnews_n ≤ ((X_decoded * x2) + x1).toNatClampNeg then none else (some ((Xnews_f ((X_decoded * x2) + x1).toNatClampNeg), (0 : Int32)))) else (some ((0 : Int32), (0 : Int32)))))))
def f_M_missed_24 (X_code : Int32) (X_side : Int32) (Xpicture_n : Nat) (Xpicture_f : Nat → Int32) (Xnews_n : Nat) (Xnews_f : Nat → Int32) : Nat → Int64 → Int32 → Option (Int64 × Int32)
  | 0, _, _ => none
  | n + 1, v1, v3 => if (X_side * X_side) ≤ v3 then (some (v1, v3)) else (if X_code = 0 then (if v3 < 0 ∨ Xpicture_n ≤ v3.toNatClampNeg then none else (if v3 < 0 ∨ Xnews_n ≤ v3.toNatClampNeg then none else (f_M_missed_24 X_code X_side Xpicture_n Xpicture_f Xnews_n Xnews_f n (v1 + (((Xpicture_f v3.toNatClampNeg) - (Xnews_f v3.toNatClampNeg)).toInt64 * ((Xpicture_f v3.toNatClampNeg) - (Xnews_f v3.toNatClampNeg)).toInt64)) (v3 + 1)))) else (some (v1, v3)))
def f_M_missed (X_code : Int32) (X_side : Int32) (X_decoded : Int32) (Xpicture_n : Nat) (Xpicture_f : Nat → Int32) (Xnews_n : Nat) (Xnews_f : Nat → Int32) : Option (Int64 × Int32) := if X_decoded = X_side then ((f_M_missed_24 (0 : Int32) X_side Xpicture_n Xpicture_f Xnews_n Xnews_f FU (0 : Int64) (0 : Int32)).bind (fun q688 => some (q688.1, (0 : Int32)))) else ((f_M_missed_24 (1 : Int32) X_side Xpicture_n Xpicture_f Xnews_n Xnews_f FU (0 : Int64) (0 : Int32)).bind (fun q684 => some (q684.1, (1 : Int32))))
def f_M_isSize (x1 : Int32) : Option (Int32) := if x1 = (2 : Int32) then (some (1 : Int32)) else (if x1 = (4 : Int32) then (some (1 : Int32)) else (if x1 = (8 : Int32) then (some (1 : Int32)) else (if x1 = (16 : Int32) then (some (1 : Int32)) else (some (0 : Int32)))))
def f_M_layBlock_3 (p1 : Int32) (p2 : Int32) (p3 : Int32) (X_side : Int32) (Xpicture_n : Nat) (Xpicture_f : Nat → Int32) (Xrs_n : Nat) : Nat → Int32 → (Nat → Int32) → Option (Int32 × (Nat → Int32))
  | 0, _, _ => none
  | n + 1, v4, Xrs_f => if (p3 * p3) ≤ v4 then (some (v4, Xrs_f)) else (if p3 = 0 then none else (if p3 = 0 then none else (if ((((p2 + (v4 / p3)) * X_side) + p1) + (v4 - v4 / p3 * p3)) < 0 ∨ Xpicture_n ≤ ((((p2 + (v4 / p3)) * X_side) + p1) + (v4 - v4 / p3 * p3)).toNatClampNeg then none else (if v4 < 0 ∨ Xrs_n ≤ v4.toNatClampNeg then none else (f_M_layBlock_3 p1 p2 p3 X_side Xpicture_n Xpicture_f Xrs_n n (v4 + 1) (upd Xrs_f v4.toNatClampNeg (Xpicture_f ((((p2 + (v4 / p3)) * X_side) + p1) + (v4 - v4 / p3 * p3)).toNatClampNeg)))))))
def f_M_layBlock (x1 : Int32) (x2 : Int32) (x3 : Int32) (X_side : Int32) (Xpicture_n : Nat) (Xpicture_f : Nat → Int32) (Xrs_n : Nat) (Xrs_f : Nat → Int32) : Option (Nat → Int32) := (f_M_layBlock_3 x1 x2 x3 X_side Xpicture_n Xpicture_f Xrs_n FU (0 : Int32) Xrs_f).bind (fun q692 => some q692.2)
def f_M_quarterSum_5 (p1 : Int32) (p2 : Int32) (y0A_n : Nat) (y0A_f : Nat → Int32) : Nat → Int32 → Int32 → Option (Int32 × Int32)
  | 0, _, _ => none
  | n + 1, v3, v4 => if (p1 * p1) ≤ v4 then (some (v3, v4)) else (if p1 = 0 then none else (if (p1 / (2 : Int32)) ≤ (v4 / p1) then (if p1 = 0 then none else (if (p1 / (2 : Int32)) ≤ (v4 - v4 / p1 * p1) then (if ((2 : Int32) + (1 : Int32)) = p2 then (if v4 < 0 ∨ y0A_n ≤ v4.toNatClampNeg then none else (f_M_quarterSum_5 p1 p2 y0A_n y0A_f n (v3 + (y0A_f v4.toNatClampNeg)) (v4 + 1))) else (f_M_quarterSum_5 p1 p2 y0A_n y0A_f n (v3 + (0 : Int32)) (v4 + 1))) else (if ((2 : Int32) + (0 : Int32)) = p2 then (if v4 < 0 ∨ y0A_n ≤ v4.toNatClampNeg then none else (f_M_quarterSum_5 p1 p2 y0A_n y0A_f n (v3 + (y0A_f v4.toNatClampNeg)) (v4 + 1))) else (f_M_quarterSum_5 p1 p2 y0A_n y0A_f n (v3 + (0 : Int32)) (v4 + 1))))) else (if p1 = 0 then none else (if (p1 / (2 : Int32)) ≤ (v4 - v4 / p1 * p1) then (if ((0 : Int32) + (1 : Int32)) = p2 then (if v4 < 0 ∨ y0A_n ≤ v4.toNatClampNeg then none else (f_M_quarterSum_5 p1 p2 y0A_n y0A_f n (v3 + (y0A_f v4.toNatClampNeg)) (v4 + 1))) else (f_M_quarterSum_5 p1 p2 y0A_n y0A_f n (v3 + (0 : Int32)) (v4 + 1))) else (if ((0 : Int32) + (0 : Int32)) = p2 then (if v4 < 0 ∨ y0A_n ≤ v4.toNatClampNeg then none else (f_M_quarterSum_5 p1 p2 y0A_n y0A_f n (v3 + (y0A_f v4.toNatClampNeg)) (v4 + 1))) else (f_M_quarterSum_5 p1 p2 y0A_n y0A_f n (v3 + (0 : Int32)) (v4 + 1)))))))
def f_M_quarterSum (x1 : Int32) (x2 : Int32) (y0A_n : Nat) (y0A_f : Nat → Int32) : Option (Int32) := (f_M_quarterSum_5 x1 x2 y0A_n y0A_f FU (0 : Int32) (0 : Int32)).bind (fun q696 => some q696.1)
def f_M_classOf_4 (p1 : Int32) (y0A_n : Nat) (y0A_f : Nat → Int32) : Nat → Int32 → Int32 → Option (Int32 × Int32)
  | 0, _, _ => none
  | n + 1, v2, v3 => if v3 < 0 then (some (v2, v3)) else ((f_M_quarterSum p1 v3 y0A_n y0A_f).bind (fun q700 => (f_M_quarterSum p1 v2 y0A_n y0A_f).bind (fun q702 => if q700 < q702 then (f_M_classOf_4 p1 y0A_n y0A_f n v2 (v3 + (-1))) else (f_M_classOf_4 p1 y0A_n y0A_f n v3 (v3 + (-1))))))
def f_M_classOf (x1 : Int32) (y0A_n : Nat) (y0A_f : Nat → Int32) : Option (Int32) := (f_M_classOf_4 x1 y0A_n y0A_f FU (3 : Int32) (2 : Int32)).bind (fun q704 => some q704.1)
def f_M_kind (x1 : Int32) (x2 : Int32) (x3 : Int32) (X_code : Int32) (X_side : Int32) (Xpicture_n : Nat) (Xpicture_f : Nat → Int32) (Xrs_n : Nat) (Xrs_f : Nat → Int32) : Option (Int32 × Int32 × (Nat → Int32)) := (f_M_isSize x3).bind (fun q712 => if q712 = 0 then (if (1 : Int32) ≤ 0 then ((f_M_layBlock x1 x2 x3 X_side Xpicture_n Xpicture_f Xrs_n Xrs_f).bind (fun q727 => (f_M_classOf x3 Xrs_n q727).bind (fun q728 => some (q728, (1 : Int32), q727)))) else (some ((0 : Int32), (1 : Int32), Xrs_f))) else ((f_M_in x1.toInt64 (0 : Int64) ((X_side - x3).toInt64)).bind (fun q714 => if q714 = 0 then (if (2 : Int32) ≤ 0 then ((f_M_layBlock x1 x2 x3 X_side Xpicture_n Xpicture_f Xrs_n Xrs_f).bind (fun q716 => (f_M_classOf x3 Xrs_n q716).bind (fun q717 => some (q717, (2 : Int32), q716)))) else (some ((0 : Int32), (2 : Int32), Xrs_f))) else ((f_M_in x2.toInt64 (0 : Int64) ((X_side - x3).toInt64)).bind (fun q719 => if q719 = 0 then (if (2 : Int32) ≤ 0 then ((f_M_layBlock x1 x2 x3 X_side Xpicture_n Xpicture_f Xrs_n Xrs_f).bind (fun q724 => (f_M_classOf x3 Xrs_n q724).bind (fun q725 => some (q725, (2 : Int32), q724)))) else (some ((0 : Int32), (2 : Int32), Xrs_f))) else (if (0 : Int32) ≤ 0 then ((f_M_layBlock x1 x2 x3 X_side Xpicture_n Xpicture_f Xrs_n Xrs_f).bind (fun q721 => (f_M_classOf x3 Xrs_n q721).bind (fun q722 => some (q722, (0 : Int32), q721)))) else (some ((0 : Int32), (0 : Int32), Xrs_f))))))))
def f_M_tried (X_tried : Int32) : Option (Int32 × Int32) := some (X_tried, (0 : Int32))
def f_M_told (x1 : Int32) (X_side : Int32) (X_many : Int32) (X_encodedBits : Int32) (X_fedMany : Int32) (X_decoded : Int32) : Option (Int32 × Int32) := if x1 = (0 : Int32) then (some (X_side, (0 : Int32))) else (if x1 = (1 : Int32) then (some (X_many, (0 : Int32))) else (if x1 = (2 : Int32) then ((f_M_bytes X_encodedBits).bind (fun q730 => some (q730, (0 : Int32)))) else (if x1 = (3 : Int32) then (some (X_fedMany, (0 : Int32))) else (if x1 = (4 : Int32) then (some (X_decoded, (0 : Int32))) else (some (((-1) : Int32), (0 : Int32)))))))
def f_M_clear_7 (Xpicture_n : Nat) : Nat → Int32 → (Nat → Int32) → Option (Int32 × (Nat → Int32))
  | 0, _, _ => none
  | n + 1, v1, Xpicture_f => if (1024 : Int32) ≤ v1 then (some (v1, Xpicture_f)) else (if v1 < 0 ∨ Xpicture_n ≤ v1.toNatClampNeg then none else (f_M_clear_7 Xpicture_n n (v1 + 1) (upd Xpicture_f v1.toNatClampNeg (0 : Int32))))
def f_M_clear (Xpicture_n : Nat) (Xpicture_f : Nat → Int32) : Option (Int32 × Int32 × Int32 × Int32 × Int32 × Int32 × (Nat → Int32)) := (f_M_clear_7 Xpicture_n FU (0 : Int32) Xpicture_f).bind (fun q732 => some ((0 : Int32), (0 : Int32), (0 : Int32), (0 : Int32), (0 : Int32), (0 : Int32), q732.2))
def f_M_bitAt (x1 : Int32) (Xfed_n : Nat) (Xfed_f : Nat → Int32) : Option (Int32) := if (x1 / (8 : Int32)) < 0 ∨ Xfed_n ≤ (x1 / (8 : Int32)).toNatClampNeg then none else (some (((Xfed_f (x1 / (8 : Int32)).toNatClampNeg) >>> (((7 : Int32) - (x1 - x1 / (8 : Int32) * (8 : Int32))) &&& 31)) &&& (1 : Int32)))
def f_M_take_4 (p1 : Int32) (X_fedMany : Int32) (X_why : Int32) (Xfed_n : Nat) (Xfed_f : Nat → Int32) : Nat → Int32 → Int32 → Int32 → Option ((Int32 × Int32 × Int32) ⊕ (Int32 × Int32 × Int32))
  | 0, _, _, _ => none
  | n + 1, v2, v3, X_readAt => if p1 ≤ v3 then (some (.inr (v2, v3, X_readAt))) else (if 0 ≤ X_why then (some (.inr (v2, v3, X_readAt))) else (if X_readAt = ((8 : Int32) * X_fedMany) then (some (.inl (v2, v3, X_readAt))) else ((f_M_bitAt X_readAt Xfed_n Xfed_f).bind (fun q736 => f_M_take_4 p1 X_fedMany X_why Xfed_n Xfed_f n (((2 : Int32) * v2) + q736) (v3 + 1) (X_readAt + (1 : Int32))))))
def f_M_take (x1 : Int32) (X_fedMany : Int32) (X_readAt : Int32) (X_why : Int32) (Xfed_n : Nat) (Xfed_f : Nat → Int32) : Option (Int32 × Int32 × Int32) := (f_M_take_4 x1 X_fedMany X_why Xfed_n Xfed_f FU (0 : Int32) (0 : Int32) X_readAt).bind (Sum.elim (fun a => some ((0 : Int32), a.2.2, (3 : Int32))) (fun a => some (a.1, a.2.2, X_why)))
def f_M_pileUp (x1 : Int32) (x2 : Int32) (x3 : Int32) (X_waiting : Int32) (Xpile_n : Nat) (Xpile_f : Nat → Int32) : Option (Int32 × (Nat → Int32)) := if ((3 : Int32) * X_waiting) < 0 ∨ Xpile_n ≤ ((3 : Int32) * X_waiting).toNatClampNeg then none else (if (((3 : Int32) * X_waiting) + (1 : Int32)) < 0 ∨ Xpile_n ≤ (((3 : Int32) * X_waiting) + (1 : Int32)).toNatClampNeg then none else (if (((3 : Int32) * X_waiting) + (2 : Int32)) < 0 ∨ Xpile_n ≤ (((3 : Int32) * X_waiting) + (2 : Int32)).toNatClampNeg then none else (some ((X_waiting + (1 : Int32)), (upd (upd (upd Xpile_f ((3 : Int32) * X_waiting).toNatClampNeg x1) (((3 : Int32) * X_waiting) + (1 : Int32)).toNatClampNeg x2) (((3 : Int32) * X_waiting) + (2 : Int32)).toNatClampNeg x3)))))
def f_M_pileQuarters (x1 : Int32) (x2 : Int32) (x3 : Int32) (X_waiting : Int32) (Xpile_n : Nat) (Xpile_f : Nat → Int32) : Option (Int32 × (Nat → Int32)) := (f_M_pileUp (x1 + (x3 / (2 : Int32))) (x2 + (x3 / (2 : Int32))) (x3 / (2 : Int32)) X_waiting Xpile_n Xpile_f).bind (fun q745 => (f_M_pileUp x1 (x2 + (x3 / (2 : Int32))) (x3 / (2 : Int32)) q745.1 Xpile_n q745.2).bind (fun q746 => (f_M_pileUp (x1 + (x3 / (2 : Int32))) x2 (x3 / (2 : Int32)) q746.1 Xpile_n q746.2).bind (fun q747 => (f_M_pileUp x1 x2 (x3 / (2 : Int32)) q747.1 Xpile_n q747.2).bind (fun q748 => some (q748.1, q748.2)))))
def f_M_domains (x1 : Int32) (X_side : Int32) : Option (Int32) := if x1 = 0 then none else (some (((X_side - ((2 : Int32) * x1)) / x1) + (1 : Int32)))
def f_M_bitsFor_17 (p1 : Int32) (p2 : Int32) : Nat → Int32 → Int32 → Option (Int32 × Int32)
  | 0, _, _ => none
  | n + 1, v3, v4 => if p2 ≤ v4 then (some (v3, v4)) else (f_M_bitsFor_17 p1 p2 n (v3 + 1) ((2 : Int32) * v4))
def f_M_bitsFor (x1 : Int32) (X_side : Int32) : Option (Int32) := (f_M_domains x1 X_side).bind (fun q749 => (f_M_domains x1 X_side).bind (fun q751 => (f_M_bitsFor_17 x1 (q749 * q751) FU (0 : Int32) (1 : Int32)).bind (fun q753 => some q753.1)))
def f_M_note_44 (p1 : Int32) (p2 : Int32) (p3 : Int32) (p4 : Int32) (p5 : Int32) (Xblocks_n : Nat) (Xbest_n : Nat) (Xbest_f : Nat → Int32) : Nat → Int32 → (Nat → Int32) → Option (Int32 × (Nat → Int32))
  | 0, _, _ => none
  | n + 1, v6, Xblocks_f => if (4 : Int32) ≤ v6 then (some (v6, Xblocks_f)) else (if v6 < 0 ∨ Xbest_n ≤ v6.toNatClampNeg then none else (if ((p5 + (3 : Int32)) + v6) < 0 ∨ Xblocks_n ≤ ((p5 + (3 : Int32)) + v6).toNatClampNeg then none else (f_M_note_44 p1 p2 p3 p4 p5 Xblocks_n Xbest_n Xbest_f n (v6 + 1) (upd Xblocks_f ((p5 + (3 : Int32)) + v6).toNatClampNeg (Xbest_f v6.toNatClampNeg)))))
def f_M_note (x1 : Int32) (x2 : Int32) (x3 : Int32) (x4 : Int32) (X_found : Int32) (Xblocks_n : Nat) (Xblocks_f : Nat → Int32) (Xbest_n : Nat) (Xbest_f : Nat → Int32) : Option (Int32 × (Nat → Int32)) := if ((8 : Int32) * ((256 : Int32) + X_found)) < 0 ∨ Xblocks_n ≤ ((8 : Int32) * ((256 : Int32) + X_found)).toNatClampNeg then none else (if (((8 : Int32) * ((256 : Int32) + X_found)) + (1 : Int32)) < 0 ∨ Xblocks_n ≤ (((8 : Int32) * ((256 : Int32) + X_found)) + (1 : Int32)).toNatClampNeg then none else (if (((8 : Int32) * ((256 : Int32) + X_found)) + (2 : Int32)) < 0 ∨ Xblocks_n ≤ (((8 : Int32) * ((256 : Int32) + X_found)) + (2 : Int32)).toNatClampNeg then none else ((f_M_note_44 x1 x2 x3 x4 ((8 : Int32) * ((256 : Int32) + X_found)) Xblocks_n Xbest_n Xbest_f FU (0 : Int32) (upd (upd (upd Xblocks_f ((8 : Int32) * ((256 : Int32) + X_found)).toNatClampNeg x1) (((8 : Int32) * ((256 : Int32) + X_found)) + (1 : Int32)).toNatClampNeg x2) (((8 : Int32) * ((256 : Int32) + X_found)) + (2 : Int32)).toNatClampNeg x3)).bind (fun q757 => if (((8 : Int32) * ((256 : Int32) + X_found)) + (7 : Int32)) < 0 ∨ Xblocks_n ≤ (((8 : Int32) * ((256 : Int32) + X_found)) + (7 : Int32)).toNatClampNeg then none else (some ((X_found + (1 : Int32)), (upd q757.2 (((8 : Int32) * ((256 : Int32) + X_found)) + (7 : Int32)).toNatClampNeg x4)))))))
def f_M_readBlock_J106 (p1 : Int32) (p2 : Int32) (p3 : Int32) (X_found : Int32) (X_fedMany : Int32) (X_readAt : Int32) (X_why : Int32) (Xblocks_n : Nat) (Xblocks_f : Nat → Int32) (Xfed_n : Nat) (Xfed_f : Nat → Int32) (Xbest_n : Nat) (Xbest_f : Nat → Int32) (s0 : Int32) : Option (Int32 × Int32 × Int32 × (Nat → Int32) × (Nat → Int32)) := (f_M_take (10 : Int32) X_fedMany X_readAt s0 Xfed_n Xfed_f).bind (fun q766 => if (3 : Int32) < 0 ∨ Xbest_n ≤ (3 : Int32).toNatClampNeg then none else (if 0 ≤ q766.2.2 then (some (X_found, q766.2.1, q766.2.2, Xblocks_f, (upd Xbest_f (3 : Int32).toNatClampNeg (q766.1 - (256 : Int32))))) else ((f_M_note p1 p2 p3 ((-1) : Int32) X_found Xblocks_n Xblocks_f Xbest_n (upd Xbest_f (3 : Int32).toNatClampNeg (q766.1 - (256 : Int32)))).bind (fun q767 => some (q767.1, q766.2.1, q766.2.2, q767.2, (upd Xbest_f (3 : Int32).toNatClampNeg (q766.1 - (256 : Int32))))))))
def f_M_readBlock_J51 (p1 : Int32) (p2 : Int32) (p3 : Int32) (X_found : Int32) (X_fedMany : Int32) (X_readAt : Int32) (X_why : Int32) (Xblocks_n : Nat) (Xblocks_f : Nat → Int32) (Xfed_n : Nat) (Xfed_f : Nat → Int32) (Xbest_n : Nat) (Xbest_f : Nat → Int32) (s0 : Int32) : Option (Int32 × Int32 × Int32 × (Nat → Int32) × (Nat → Int32)) := (f_M_take (3 : Int32) X_fedMany X_readAt s0 Xfed_n Xfed_f).bind (fun q764 => if (1 : Int32) < 0 ∨ Xbest_n ≤ (1 : Int32).toNatClampNeg then none else ((f_M_take (4 : Int32) X_fedMany q764.2.1 q764.2.2 Xfed_n Xfed_f).bind (fun q765 => if (2 : Int32) < 0 ∨ Xbest_n ≤ (2 : Int32).toNatClampNeg then none else (if 0 ≤ q765.2.2 then (f_M_readBlock_J106 p1 p2 p3 X_found X_fedMany q765.2.1 q765.2.2 Xblocks_n Xblocks_f Xfed_n Xfed_f Xbest_n (upd (upd Xbest_f (1 : Int32).toNatClampNeg q764.1) (2 : Int32).toNatClampNeg (q765.1 - (7 : Int32))) q765.2.2) else (if (2 : Int32) < 0 ∨ Xbest_n ≤ (2 : Int32).toNatClampNeg then none else (if ((upd (upd Xbest_f (1 : Int32).toNatClampNeg q764.1) (2 : Int32).toNatClampNeg (q765.1 - (7 : Int32))) (2 : Int32).toNatClampNeg) ≤ (7 : Int32) then (f_M_readBlock_J106 p1 p2 p3 X_found X_fedMany q765.2.1 q765.2.2 Xblocks_n Xblocks_f Xfed_n Xfed_f Xbest_n (upd (upd Xbest_f (1 : Int32).toNatClampNeg q764.1) (2 : Int32).toNatClampNeg (q765.1 - (7 : Int32))) q765.2.2) else (f_M_readBlock_J106 p1 p2 p3 X_found X_fedMany q765.2.1 q765.2.2 Xblocks_n Xblocks_f Xfed_n Xfed_f Xbest_n (upd (upd Xbest_f (1 : Int32).toNatClampNeg q764.1) (2 : Int32).toNatClampNeg (q765.1 - (7 : Int32))) (2 : Int32))))))))
def f_M_readBlock (x1 : Int32) (x2 : Int32) (x3 : Int32) (X_side : Int32) (X_found : Int32) (X_fedMany : Int32) (X_readAt : Int32) (X_why : Int32) (Xblocks_n : Nat) (Xblocks_f : Nat → Int32) (Xfed_n : Nat) (Xfed_f : Nat → Int32) (Xbest_n : Nat) (Xbest_f : Nat → Int32) : Option (Int32 × Int32 × Int32 × (Nat → Int32) × (Nat → Int32)) := (f_M_bitsFor x3 X_side).bind (fun q761 => (f_M_take q761 X_fedMany X_readAt X_why Xfed_n Xfed_f).bind (fun q763 => if (0 : Int32) < 0 ∨ Xbest_n ≤ (0 : Int32).toNatClampNeg then none else (if 0 ≤ q763.2.2 then (f_M_readBlock_J51 x1 x2 x3 X_found X_fedMany q763.2.1 q763.2.2 Xblocks_n Xblocks_f Xfed_n Xfed_f Xbest_n (upd Xbest_f (0 : Int32).toNatClampNeg q763.1) q763.2.2) else (if (0 : Int32) < 0 ∨ Xbest_n ≤ (0 : Int32).toNatClampNeg then none else ((f_M_domains x3 X_side).bind (fun q776 => (f_M_domains x3 X_side).bind (fun q778 => if ((upd Xbest_f (0 : Int32).toNatClampNeg q763.1) (0 : Int32).toNatClampNeg) < (q776 * q778) then (f_M_readBlock_J51 x1 x2 x3 X_found X_fedMany q763.2.1 q763.2.2 Xblocks_n Xblocks_f Xfed_n Xfed_f Xbest_n (upd Xbest_f (0 : Int32).toNatClampNeg q763.1) q763.2.2) else (f_M_readBlock_J51 x1 x2 x3 X_found X_fedMany q763.2.1 q763.2.2 Xblocks_n Xblocks_f Xfed_n Xfed_f Xbest_n (upd Xbest_f (0 : Int32).toNatClampNeg q763.1) (1 : Int32)))))))))
def f_M_takeFound_2 (X_found : Int32) (Xblocks_n : Nat) : Nat → Int32 → (Nat → Int32) → Option (Int32 × (Nat → Int32))
  | 0, _, _ => none
  | n + 1, v1, Xblocks_f => if ((8 : Int32) * X_found) ≤ v1 then (some (v1, Xblocks_f)) else (if ((2048 : Int32) + v1) < 0 ∨ Xblocks_n ≤ ((2048 : Int32) + v1).toNatClampNeg then none else (if v1 < 0 ∨ Xblocks_n ≤ v1.toNatClampNeg then none else (f_M_takeFound_2 X_found Xblocks_n n (v1 + 1) (upd Xblocks_f v1.toNatClampNeg (Xblocks_f ((2048 : Int32) + v1).toNatClampNeg)))))
def f_M_takeFound (X_found : Int32) (Xblocks_n : Nat) (Xblocks_f : Nat → Int32) : Option (Int32 × (Nat → Int32)) := (f_M_takeFound_2 X_found Xblocks_n FU (0 : Int32) Xblocks_f).bind (fun q780 => some (X_found, q780.2))
def f_M_read_86 (p1 : Int32) (p2 : Int32) (X_side : Int32) (X_fedMany : Int32) (Xblocks_n : Nat) (Xfed_n : Nat) (Xfed_f : Nat → Int32) (Xpile_n : Nat) (Xbest_n : Nat) : Nat → Int32 → Int32 → Int32 → Int32 → (Nat → Int32) → (Nat → Int32) → (Nat → Int32) → Option (Int32 × Int32 × Int32 × Int32 × (Nat → Int32) × (Nat → Int32) × (Nat → Int32))
  | 0, _, _, _, _, _, _, _ => none
  | n + 1, X_found, X_readAt, X_why, X_waiting, Xblocks_f, Xpile_f, Xbest_f => if X_waiting ≤ 0 then (some (X_found, X_readAt, X_why, X_waiting, Xblocks_f, Xpile_f, Xbest_f)) else (if 0 ≤ X_why then (some (X_found, X_readAt, X_why, X_waiting, Xblocks_f, Xpile_f, Xbest_f)) else (if ((3 : Int32) * (X_waiting - (1 : Int32))) < 0 ∨ Xpile_n ≤ ((3 : Int32) * (X_waiting - (1 : Int32))).toNatClampNeg then none else (if (((3 : Int32) * (X_waiting - (1 : Int32))) + (1 : Int32)) < 0 ∨ Xpile_n ≤ (((3 : Int32) * (X_waiting - (1 : Int32))) + (1 : Int32)).toNatClampNeg then none else (if (((3 : Int32) * (X_waiting - (1 : Int32))) + (2 : Int32)) < 0 ∨ Xpile_n ≤ (((3 : Int32) * (X_waiting - (1 : Int32))) + (2 : Int32)).toNatClampNeg then none else (if (Xpile_f (((3 : Int32) * (X_waiting - (1 : Int32))) + (2 : Int32)).toNatClampNeg) ≤ p2 then ((f_M_readBlock (Xpile_f ((3 : Int32) * (X_waiting - (1 : Int32))).toNatClampNeg) (Xpile_f (((3 : Int32) * (X_waiting - (1 : Int32))) + (1 : Int32)).toNatClampNeg) (Xpile_f (((3 : Int32) * (X_waiting - (1 : Int32))) + (2 : Int32)).toNatClampNeg) X_side X_found X_fedMany X_readAt X_why Xblocks_n Xblocks_f Xfed_n Xfed_f Xbest_n Xbest_f).bind (fun q786 => f_M_read_86 p1 p2 X_side X_fedMany Xblocks_n Xfed_n Xfed_f Xpile_n Xbest_n n q786.1 q786.2.1 q786.2.2.1 (X_waiting - (1 : Int32)) q786.2.2.2.1 Xpile_f q786.2.2.2.2)) else ((f_M_take (1 : Int32) X_fedMany X_readAt X_why Xfed_n Xfed_f).bind (fun q787 => if q787.1 = (1 : Int32) then ((f_M_pileQuarters (Xpile_f ((3 : Int32) * (X_waiting - (1 : Int32))).toNatClampNeg) (Xpile_f (((3 : Int32) * (X_waiting - (1 : Int32))) + (1 : Int32)).toNatClampNeg) (Xpile_f (((3 : Int32) * (X_waiting - (1 : Int32))) + (2 : Int32)).toNatClampNeg) (X_waiting - (1 : Int32)) Xpile_n Xpile_f).bind (fun q789 => f_M_read_86 p1 p2 X_side X_fedMany Xblocks_n Xfed_n Xfed_f Xpile_n Xbest_n n X_found q787.2.1 q787.2.2 q789.1 Xblocks_f q789.2 Xbest_f)) else ((f_M_readBlock (Xpile_f ((3 : Int32) * (X_waiting - (1 : Int32))).toNatClampNeg) (Xpile_f (((3 : Int32) * (X_waiting - (1 : Int32))) + (1 : Int32)).toNatClampNeg) (Xpile_f (((3 : Int32) * (X_waiting - (1 : Int32))) + (2 : Int32)).toNatClampNeg) X_side X_found X_fedMany q787.2.1 q787.2.2 Xblocks_n Xblocks_f Xfed_n Xfed_f Xbest_n Xbest_f).bind (fun q788 => f_M_read_86 p1 p2 X_side X_fedMany Xblocks_n Xfed_n Xfed_f Xpile_n Xbest_n n q788.1 q788.2.1 q788.2.2.1 (X_waiting - (1 : Int32)) q788.2.2.2.1 Xpile_f q788.2.2.2.2)))))))))
def f_M_read_220 (p1 : Int32) (p2 : Int32) (X_fedMany : Int32) (X_why : Int32) (Xfed_n : Nat) (Xfed_f : Nat → Int32) : Nat → Int32 → Int32 → Option (Int32 × Int32)
  | 0, _, _ => none
  | n + 1, v3, v4 => if ((8 : Int32) * X_fedMany) ≤ v4 then (some (v3, v4)) else (if 0 ≤ X_why then (some (v3, v4)) else (if v3 = 0 then ((f_M_bitAt v4 Xfed_n Xfed_f).bind (fun q798 => if q798 = (1 : Int32) then (f_M_read_220 p1 p2 X_fedMany X_why Xfed_n Xfed_f n (1 : Int32) (v4 + 1)) else (f_M_read_220 p1 p2 X_fedMany X_why Xfed_n Xfed_f n (0 : Int32) (v4 + 1)))) else (f_M_read_220 p1 p2 X_fedMany X_why Xfed_n Xfed_f n (1 : Int32) (v4 + 1))))
def f_M_read_J213 (p1 : Int32) (p2 : Int32) (X_code : Int32) (X_many : Int32) (X_found : Int32) (X_fedMany : Int32) (X_readAt : Int32) (X_why : Int32) (X_waiting : Int32) (Xblocks_n : Nat) (Xblocks_f : Nat → Int32) (Xfed_n : Nat) (Xfed_f : Nat → Int32) (Xpile_f : Nat → Int32) (Xbest_f : Nat → Int32) (s0 : Int32) : Option (Int32 × Int32 × Int32 × Int32 × Int32 × Int32 × Int32 × Int32 × (Nat → Int32) × (Nat → Int32) × (Nat → Int32)) := (f_M_read_220 p1 p2 X_fedMany X_why Xfed_n Xfed_f FU s0 X_readAt).bind (fun q800 => if 0 ≤ X_why then (if X_why < 0 then ((f_M_takeFound X_found Xblocks_n Xblocks_f).bind (fun q803 => some (q803.1, X_code, q803.1, X_found, (0 : Int32), X_readAt, X_why, X_waiting, q803.2, Xpile_f, Xbest_f))) else (some ((((-1) : Int32) - X_why), X_code, X_many, X_found, (0 : Int32), X_readAt, X_why, X_waiting, Xblocks_f, Xpile_f, Xbest_f))) else (if q800.1 = 0 then (if X_why < 0 then ((f_M_takeFound X_found Xblocks_n Xblocks_f).bind (fun q804 => some (q804.1, X_code, q804.1, X_found, (0 : Int32), X_readAt, X_why, X_waiting, q804.2, Xpile_f, Xbest_f))) else (some ((((-1) : Int32) - X_why), X_code, X_many, X_found, (0 : Int32), X_readAt, X_why, X_waiting, Xblocks_f, Xpile_f, Xbest_f))) else (if (4 : Int32) < 0 then ((f_M_takeFound X_found Xblocks_n Xblocks_f).bind (fun q805 => some (q805.1, X_code, q805.1, X_found, (0 : Int32), X_readAt, (4 : Int32), X_waiting, q805.2, Xpile_f, Xbest_f))) else (some ((((-1) : Int32) - (4 : Int32)), X_code, X_many, X_found, (0 : Int32), X_readAt, (4 : Int32), X_waiting, Xblocks_f, Xpile_f, Xbest_f)))))
def f_M_read_J73 (p1 : Int32) (p2 : Int32) (X_code : Int32) (X_side : Int32) (X_many : Int32) (X_found : Int32) (X_fedMany : Int32) (X_readAt : Int32) (X_why : Int32) (X_waiting : Int32) (Xblocks_n : Nat) (Xblocks_f : Nat → Int32) (Xfed_n : Nat) (Xfed_f : Nat → Int32) (Xpile_n : Nat) (Xpile_f : Nat → Int32) (Xbest_n : Nat) (Xbest_f : Nat → Int32) (s0 : Int32) : Option (Int32 × Int32 × Int32 × Int32 × Int32 × Int32 × Int32 × Int32 × (Nat → Int32) × (Nat → Int32) × (Nat → Int32)) := (f_M_pileQuarters (0 : Int32) (0 : Int32) X_side X_waiting Xpile_n Xpile_f).bind (fun q785 => (f_M_read_86 p1 p2 X_side X_fedMany Xblocks_n Xfed_n Xfed_f Xpile_n Xbest_n FU X_found X_readAt s0 q785.1 Xblocks_f q785.2 Xbest_f).bind (fun q790 => if (((8 : Int32) * X_fedMany) - q790.2.1) ≤ (7 : Int32) then (f_M_read_J213 p1 p2 X_code X_many q790.1 X_fedMany q790.2.1 q790.2.2.1 q790.2.2.2.1 Xblocks_n q790.2.2.2.2.1 Xfed_n Xfed_f q790.2.2.2.2.2.1 q790.2.2.2.2.2.2 (0 : Int32)) else (f_M_read_J213 p1 p2 X_code X_many q790.1 X_fedMany q790.2.1 q790.2.2.1 q790.2.2.2.1 Xblocks_n q790.2.2.2.2.1 Xfed_n Xfed_f q790.2.2.2.2.2.1 q790.2.2.2.2.2.2 (1 : Int32))))
def f_M_read (X_side : Int32) (X_many : Int32) (X_found : Int32) (X_fedMany : Int32) (X_readAt : Int32) (X_why : Int32) (X_waiting : Int32) (Xblocks_n : Nat) (Xblocks_f : Nat → Int32) (Xfed_n : Nat) (Xfed_f : Nat → Int32) (Xpile_n : Nat) (Xpile_f : Nat → Int32) (Xbest_n : Nat) (Xbest_f : Nat → Int32) : Option (Int32 × Int32 × Int32 × Int32 × Int32 × Int32 × Int32 × Int32 × (Nat → Int32) × (Nat → Int32) × (Nat → Int32)) := (f_M_take (3 : Int32) X_fedMany (0 : Int32) ((-1) : Int32) Xfed_n Xfed_f).bind (fun q784 => if 0 ≤ q784.2.2 then (f_M_read_J73 q784.1 ((1 : Int32) <<< (q784.1 &&& 31)) (0 : Int32) X_side X_many (0 : Int32) X_fedMany q784.2.1 q784.2.2 (0 : Int32) Xblocks_n Xblocks_f Xfed_n Xfed_f Xpile_n Xpile_f Xbest_n Xbest_f q784.2.2) else ((f_M_in q784.1.toInt64 (1 : Int64) (4 : Int64)).bind (fun q833 => if q833 = 0 then (f_M_read_J73 q784.1 ((1 : Int32) <<< (q784.1 &&& 31)) (0 : Int32) X_side X_many (0 : Int32) X_fedMany q784.2.1 q784.2.2 (0 : Int32) Xblocks_n Xblocks_f Xfed_n Xfed_f Xpile_n Xpile_f Xbest_n Xbest_f (0 : Int32)) else (if ((2 : Int32) * ((1 : Int32) <<< (q784.1 &&& 31))) ≤ X_side then (f_M_read_J73 q784.1 ((1 : Int32) <<< (q784.1 &&& 31)) (0 : Int32) X_side X_many (0 : Int32) X_fedMany q784.2.1 q784.2.2 (0 : Int32) Xblocks_n Xblocks_f Xfed_n Xfed_f Xpile_n Xpile_f Xbest_n Xbest_f q784.2.2) else (f_M_read_J73 q784.1 ((1 : Int32) <<< (q784.1 &&& 31)) (0 : Int32) X_side X_many (0 : Int32) X_fedMany q784.2.1 q784.2.2 (0 : Int32) Xblocks_n Xblocks_f Xfed_n Xfed_f Xpile_n Xpile_f Xbest_n Xbest_f (0 : Int32))))))
def f_M_halve_7 (p1 : Int32) (p3 : Int32) (y0A_n : Nat) (y0A_f : Nat → Int32) (y2A_n : Nat) : Nat → Int32 → (Nat → Int32) → Option (Int32 × (Nat → Int32))
  | 0, _, _ => none
  | n + 1, v4, y2A_f => if (p3 * p3) ≤ v4 then (some (v4, y2A_f)) else (if p3 = 0 then none else (if p3 = 0 then none else (if ((((2 : Int32) * (v4 / p3)) * p1) + ((2 : Int32) * (v4 - v4 / p3 * p3))) < 0 ∨ y0A_n ≤ ((((2 : Int32) * (v4 / p3)) * p1) + ((2 : Int32) * (v4 - v4 / p3 * p3))).toNatClampNeg then none else (if (((((2 : Int32) * (v4 / p3)) * p1) + ((2 : Int32) * (v4 - v4 / p3 * p3))) + (1 : Int32)) < 0 ∨ y0A_n ≤ (((((2 : Int32) * (v4 / p3)) * p1) + ((2 : Int32) * (v4 - v4 / p3 * p3))) + (1 : Int32)).toNatClampNeg then none else (if (((((2 : Int32) * (v4 / p3)) * p1) + ((2 : Int32) * (v4 - v4 / p3 * p3))) + p1) < 0 ∨ y0A_n ≤ (((((2 : Int32) * (v4 / p3)) * p1) + ((2 : Int32) * (v4 - v4 / p3 * p3))) + p1).toNatClampNeg then none else (if ((((((2 : Int32) * (v4 / p3)) * p1) + ((2 : Int32) * (v4 - v4 / p3 * p3))) + p1) + (1 : Int32)) < 0 ∨ y0A_n ≤ ((((((2 : Int32) * (v4 / p3)) * p1) + ((2 : Int32) * (v4 - v4 / p3 * p3))) + p1) + (1 : Int32)).toNatClampNeg then none else (if v4 < 0 ∨ y2A_n ≤ v4.toNatClampNeg then none else (f_M_halve_7 p1 p3 y0A_n y0A_f y2A_n n (v4 + 1) (upd y2A_f v4.toNatClampNeg ((((((y0A_f ((((2 : Int32) * (v4 / p3)) * p1) + ((2 : Int32) * (v4 - v4 / p3 * p3))).toNatClampNeg) + (y0A_f (((((2 : Int32) * (v4 / p3)) * p1) + ((2 : Int32) * (v4 - v4 / p3 * p3))) + (1 : Int32)).toNatClampNeg)) + (y0A_f (((((2 : Int32) * (v4 / p3)) * p1) + ((2 : Int32) * (v4 - v4 / p3 * p3))) + p1).toNatClampNeg)) + (y0A_f ((((((2 : Int32) * (v4 / p3)) * p1) + ((2 : Int32) * (v4 - v4 / p3 * p3))) + p1) + (1 : Int32)).toNatClampNeg)) + (2 : Int32)) / (4 : Int32)))))))))))
def f_M_halve (x1 : Int32) (y0A_n : Nat) (y0A_f : Nat → Int32) (y2A_n : Nat) (y2A_f : Nat → Int32) : Option (Nat → Int32) := (f_M_halve_7 x1 (x1 / (2 : Int32)) y0A_n y0A_f y2A_n FU (0 : Int32) y2A_f).bind (fun q835 => some q835.2)
def f_M_turned_17 (p1 : Int32) (p2 : Int32) (p3 : Int32) (p4 : Int32) (p5 : Int32) (p6 : Int32) : Nat → Int32 → Int32 → Int32 → Option (Int32 × Int32 × Int32)
  | 0, _, _, _ => none
  | n + 1, v7, v8, v9 => if (p5 - p5 / (4 : Int32) * (4 : Int32)) ≤ v9 then (some (v7, v8, v9)) else (f_M_turned_17 p1 p2 p3 p4 p5 p6 n v8 ((p4 - (1 : Int32)) - v7) (v9 + 1))
def f_M_turned (x1 : Int32) (x2 : Int32) (x3 : Int32) (x4 : Int32) (x5 : Int32) (x6 : Int32) (y0A_n : Nat) (y0A_f : Nat → Int32) : Option (Int32) := if x4 = 0 then none else (if x4 = 0 then none else ((f_M_turned_17 x1 x2 x3 x4 x5 x6 FU (x6 - x6 / x4 * x4) (x6 / x4) (0 : Int32)).bind (fun q839 => if x5 ≤ (3 : Int32) then (if ((((x3 + q839.2.1) * x1) + x2) + q839.1) < 0 ∨ y0A_n ≤ ((((x3 + q839.2.1) * x1) + x2) + q839.1).toNatClampNeg then none else (some (y0A_f ((((x3 + q839.2.1) * x1) + x2) + q839.1).toNatClampNeg))) else (if ((((x3 + q839.2.1) * x1) + x2) + ((x4 - (1 : Int32)) - q839.1)) < 0 ∨ y0A_n ≤ ((((x3 + q839.2.1) * x1) + x2) + ((x4 - (1 : Int32)) - q839.1)).toNatClampNeg then none else (some (y0A_f ((((x3 + q839.2.1) * x1) + x2) + ((x4 - (1 : Int32)) - q839.1)).toNatClampNeg))))))
def f_M_layDomain_10 (p1 : Int32) (p2 : Int32) (p3 : Int32) (p4 : Int32) (X_side : Int32) (Xhalf_n : Nat) (Xhalf_f : Nat → Int32) (Xds_n : Nat) : Nat → Int32 → (Nat → Int32) → Option (Int32 × (Nat → Int32))
  | 0, _, _ => none
  | n + 1, v5, Xds_f => if (p1 * p1) ≤ v5 then (some (v5, Xds_f)) else (if p4 = 0 then none else (if p4 = 0 then none else ((f_M_turned (X_side / (2 : Int32)) ((p1 * (p2 - p2 / p4 * p4)) / (2 : Int32)) ((p1 * (p2 / p4)) / (2 : Int32)) p1 p3 v5 Xhalf_n Xhalf_f).bind (fun q846 => if v5 < 0 ∨ Xds_n ≤ v5.toNatClampNeg then none else (f_M_layDomain_10 p1 p2 p3 p4 X_side Xhalf_n Xhalf_f Xds_n n (v5 + 1) (upd Xds_f v5.toNatClampNeg q846))))))
def f_M_layDomain (x1 : Int32) (x2 : Int32) (x3 : Int32) (X_side : Int32) (Xhalf_n : Nat) (Xhalf_f : Nat → Int32) (Xds_n : Nat) (Xds_f : Nat → Int32) : Option (Nat → Int32) := (f_M_domains x1 X_side).bind (fun q844 => (f_M_layDomain_10 x1 x2 x3 q844 X_side Xhalf_n Xhalf_f Xds_n FU (0 : Int32) Xds_f).bind (fun q848 => some q848.2))
def f_M_domain_J109 (p1 : Int32) (p2 : Int32) (p3 : Int32) (p4 : Int32) (p5 : Int32) (X_code : Int32) (X_side : Int32) (Xpicture_n : Nat) (Xpicture_f : Nat → Int32) (Xhalf_n : Nat) (Xhalf_f : Nat → Int32) (Xds_n : Nat) (Xds_f : Nat → Int32) : Option (Int32 × Int32 × (Nat → Int32) × (Nat → Int32)) := if X_code ≤ 0 then ((f_M_halve X_side Xpicture_n Xpicture_f Xhalf_n Xhalf_f).bind (fun q856 => (f_M_layDomain p1 p2 p3 X_side Xhalf_n q856 Xds_n Xds_f).bind (fun q857 => if ((p1 * p5) + p4) < 0 ∨ Xds_n ≤ ((p1 * p5) + p4).toNatClampNeg then none else (some ((q857 ((p1 * p5) + p4).toNatClampNeg), X_code, q856, q857))))) else (some ((0 : Int32), X_code, Xhalf_f, Xds_f))
def f_M_domain_J106 (p1 : Int32) (p2 : Int32) (p3 : Int32) (p4 : Int32) (p5 : Int32) (p6 : Int32) (X_code : Int32) (X_side : Int32) (Xpicture_n : Nat) (Xpicture_f : Nat → Int32) (Xhalf_n : Nat) (Xhalf_f : Nat → Int32) (Xds_n : Nat) (Xds_f : Nat → Int32) (s0 : Int32) : Option (Int32 × Int32 × (Nat → Int32) × (Nat → Int32)) := if s0 ≤ 0 then ((f_M_halve X_side Xpicture_n Xpicture_f Xhalf_n Xhalf_f).bind (fun q864 => (f_M_layDomain p1 p2 p3 X_side Xhalf_n q864 Xds_n Xds_f).bind (fun q865 => if ((p1 * p5) + p4) < 0 ∨ Xds_n ≤ ((p1 * p5) + p4).toNatClampNeg then none else (some ((q865 ((p1 * p5) + p4).toNatClampNeg), s0, q864, q865))))) else (some ((0 : Int32), s0, Xhalf_f, Xds_f))
def f_M_domain_J35 (p1 : Int32) (p2 : Int32) (p3 : Int32) (p4 : Int32) (p5 : Int32) (X_code : Int32) (X_side : Int32) (Xpicture_n : Nat) (Xpicture_f : Nat → Int32) (Xhalf_n : Nat) (Xhalf_f : Nat → Int32) (Xds_n : Nat) (Xds_f : Nat → Int32) (s0 : Int32) : Option (Int32 × Int32 × (Nat → Int32) × (Nat → Int32)) := if s0 = 0 then ((f_M_domains p1 X_side).bind (fun q858 => (f_M_domains p1 X_side).bind (fun q860 => (f_M_in p2.toInt64 (0 : Int64) (((q858 * q860) - (1 : Int32)).toInt64)).bind (fun q862 => if q862 = 0 then (f_M_domain_J106 p1 p2 p3 p4 p5 (q858 * q860) s0 X_side Xpicture_n Xpicture_f Xhalf_n Xhalf_f Xds_n Xds_f (2 : Int32)) else ((f_M_in p4.toInt64 (0 : Int64) ((p1 - (1 : Int32)).toInt64)).bind (fun q866 => if q866 = 0 then (f_M_domain_J106 p1 p2 p3 p4 p5 (q858 * q860) s0 X_side Xpicture_n Xpicture_f Xhalf_n Xhalf_f Xds_n Xds_f (2 : Int32)) else ((f_M_in p5.toInt64 (0 : Int64) ((p1 - (1 : Int32)).toInt64)).bind (fun q868 => if q868 = 0 then (f_M_domain_J106 p1 p2 p3 p4 p5 (q858 * q860) s0 X_side Xpicture_n Xpicture_f Xhalf_n Xhalf_f Xds_n Xds_f (2 : Int32)) else (f_M_domain_J106 p1 p2 p3 p4 p5 (q858 * q860) s0 X_side Xpicture_n Xpicture_f Xhalf_n Xhalf_f Xds_n Xds_f (0 : Int32)))))))))) else (f_M_domain_J109 p1 p2 p3 p4 p5 s0 X_side Xpicture_n Xpicture_f Xhalf_n Xhalf_f Xds_n Xds_f)
def f_M_domain (x1 : Int32) (x2 : Int32) (x3 : Int32) (x4 : Int32) (x5 : Int32) (X_code : Int32) (X_side : Int32) (Xpicture_n : Nat) (Xpicture_f : Nat → Int32) (Xhalf_n : Nat) (Xhalf_f : Nat → Int32) (Xds_n : Nat) (Xds_f : Nat → Int32) : Option (Int32 × Int32 × (Nat → Int32) × (Nat → Int32)) := (f_M_isSize x1).bind (fun q854 => if q854 = 0 then (f_M_domain_J35 x1 x2 x3 x4 x5 X_code X_side Xpicture_n Xpicture_f Xhalf_n Xhalf_f Xds_n Xds_f (1 : Int32)) else (if X_side < ((2 : Int32) * x1) then (f_M_domain_J35 x1 x2 x3 x4 x5 X_code X_side Xpicture_n Xpicture_f Xhalf_n Xhalf_f Xds_n Xds_f (1 : Int32)) else ((f_M_in x3.toInt64 (0 : Int64) (7 : Int64)).bind (fun q888 => if q888 = 0 then (f_M_domain_J35 x1 x2 x3 x4 x5 X_code X_side Xpicture_n Xpicture_f Xhalf_n Xhalf_f Xds_n Xds_f (1 : Int32)) else (f_M_domain_J35 x1 x2 x3 x4 x5 X_code X_side Xpicture_n Xpicture_f Xhalf_n Xhalf_f Xds_n Xds_f (0 : Int32))))))
def f_M_mapped (x1 : Int32) (x2 : Int32) : Option (Int32) := if 0 ≤ (x1 * x2) then (some ((x1 * x2) / (8 : Int32))) else (some (-(((7 : Int32) - (x1 * x2)) / (8 : Int32))))
def f_M_decodeBlock_77 (p1 : Int32) (p2 : Int32) (p3 : Int32) (p4 : Int32) (p5 : Int32) (p6 : Int32) (p7 : Int32) (p8 : Int32) (p9 : Int32) (Xblocks_n : Nat) (Xblocks_f : Nat → Int32) (Xnews_n : Nat) (Xolds_n : Nat) (Xolds_f : Nat → Int32) (Xhalves_n : Nat) (Xhalves_f : Nat → Int32) : Nat → Int32 → Int32 → (Nat → Int32) → Option (Int32 × Int32 × (Nat → Int32))
  | 0, _, _, _ => none
  | n + 1, v10, v11, Xnews_f => if (p4 * p4) ≤ v11 then (some (v10, v11, Xnews_f)) else (if (((8 : Int32) * p1) + (5 : Int32)) < 0 ∨ Xblocks_n ≤ (((8 : Int32) * p1) + (5 : Int32)).toNatClampNeg then none else (if (((8 : Int32) * p1) + (4 : Int32)) < 0 ∨ Xblocks_n ≤ (((8 : Int32) * p1) + (4 : Int32)).toNatClampNeg then none else ((f_M_turned (p5 / (2 : Int32)) p8 p9 p4 (Xblocks_f (((8 : Int32) * p1) + (4 : Int32)).toNatClampNeg) v11 Xhalves_n Xhalves_f).bind (fun q892 => (f_M_mapped (Xblocks_f (((8 : Int32) * p1) + (5 : Int32)).toNatClampNeg) q892).bind (fun q894 => if (((8 : Int32) * p1) + (6 : Int32)) < 0 ∨ Xblocks_n ≤ (((8 : Int32) * p1) + (6 : Int32)).toNatClampNeg then none else (if (((8 : Int32) * p1) + (1 : Int32)) < 0 ∨ Xblocks_n ≤ (((8 : Int32) * p1) + (1 : Int32)).toNatClampNeg then none else (if p4 = 0 then none else (if ((8 : Int32) * p1) < 0 ∨ Xblocks_n ≤ ((8 : Int32) * p1).toNatClampNeg then none else (if p4 = 0 then none else ((f_M_brought ((q894 + (Xblocks_f (((8 : Int32) * p1) + (6 : Int32)).toNatClampNeg)).toInt64) (0 : Int32) (255 : Int32)).bind (fun q896 => if ((((((Xblocks_f (((8 : Int32) * p1) + (1 : Int32)).toNatClampNeg) * p2) + (v11 / p4)) * p5) + ((Xblocks_f ((8 : Int32) * p1).toNatClampNeg) * p2)) + (v11 - v11 / p4 * p4)) < 0 ∨ Xnews_n ≤ ((((((Xblocks_f (((8 : Int32) * p1) + (1 : Int32)).toNatClampNeg) * p2) + (v11 / p4)) * p5) + ((Xblocks_f ((8 : Int32) * p1).toNatClampNeg) * p2)) + (v11 - v11 / p4 * p4)).toNatClampNeg then none else (if ((((((Xblocks_f (((8 : Int32) * p1) + (1 : Int32)).toNatClampNeg) * p2) + (v11 / p4)) * p5) + ((Xblocks_f ((8 : Int32) * p1).toNatClampNeg) * p2)) + (v11 - v11 / p4 * p4)) < 0 ∨ Xnews_n ≤ ((((((Xblocks_f (((8 : Int32) * p1) + (1 : Int32)).toNatClampNeg) * p2) + (v11 / p4)) * p5) + ((Xblocks_f ((8 : Int32) * p1).toNatClampNeg) * p2)) + (v11 - v11 / p4 * p4)).toNatClampNeg then none else (if ((((((Xblocks_f (((8 : Int32) * p1) + (1 : Int32)).toNatClampNeg) * p2) + (v11 / p4)) * p5) + ((Xblocks_f ((8 : Int32) * p1).toNatClampNeg) * p2)) + (v11 - v11 / p4 * p4)) < 0 ∨ Xolds_n ≤ ((((((Xblocks_f (((8 : Int32) * p1) + (1 : Int32)).toNatClampNeg) * p2) + (v11 / p4)) * p5) + ((Xblocks_f ((8 : Int32) * p1).toNatClampNeg) * p2)) + (v11 - v11 / p4 * p4)).toNatClampNeg then none else (if 0 ≤ (((upd Xnews_f ((((((Xblocks_f (((8 : Int32) * p1) + (1 : Int32)).toNatClampNeg) * p2) + (v11 / p4)) * p5) + ((Xblocks_f ((8 : Int32) * p1).toNatClampNeg) * p2)) + (v11 - v11 / p4 * p4)).toNatClampNeg q896) ((((((Xblocks_f (((8 : Int32) * p1) + (1 : Int32)).toNatClampNeg) * p2) + (v11 / p4)) * p5) + ((Xblocks_f ((8 : Int32) * p1).toNatClampNeg) * p2)) + (v11 - v11 / p4 * p4)).toNatClampNeg) - (Xolds_f ((((((Xblocks_f (((8 : Int32) * p1) + (1 : Int32)).toNatClampNeg) * p2) + (v11 / p4)) * p5) + ((Xblocks_f ((8 : Int32) * p1).toNatClampNeg) * p2)) + (v11 - v11 / p4 * p4)).toNatClampNeg)) then (if (((upd Xnews_f ((((((Xblocks_f (((8 : Int32) * p1) + (1 : Int32)).toNatClampNeg) * p2) + (v11 / p4)) * p5) + ((Xblocks_f ((8 : Int32) * p1).toNatClampNeg) * p2)) + (v11 - v11 / p4 * p4)).toNatClampNeg q896) ((((((Xblocks_f (((8 : Int32) * p1) + (1 : Int32)).toNatClampNeg) * p2) + (v11 / p4)) * p5) + ((Xblocks_f ((8 : Int32) * p1).toNatClampNeg) * p2)) + (v11 - v11 / p4 * p4)).toNatClampNeg) - (Xolds_f ((((((Xblocks_f (((8 : Int32) * p1) + (1 : Int32)).toNatClampNeg) * p2) + (v11 / p4)) * p5) + ((Xblocks_f ((8 : Int32) * p1).toNatClampNeg) * p2)) + (v11 - v11 / p4 * p4)).toNatClampNeg)) ≤ v10 then (f_M_decodeBlock_77 p1 p2 p3 p4 p5 p6 p7 p8 p9 Xblocks_n Xblocks_f Xnews_n Xolds_n Xolds_f Xhalves_n Xhalves_f n v10 (v11 + 1) (upd Xnews_f ((((((Xblocks_f (((8 : Int32) * p1) + (1 : Int32)).toNatClampNeg) * p2) + (v11 / p4)) * p5) + ((Xblocks_f ((8 : Int32) * p1).toNatClampNeg) * p2)) + (v11 - v11 / p4 * p4)).toNatClampNeg q896)) else (f_M_decodeBlock_77 p1 p2 p3 p4 p5 p6 p7 p8 p9 Xblocks_n Xblocks_f Xnews_n Xolds_n Xolds_f Xhalves_n Xhalves_f n (((upd Xnews_f ((((((Xblocks_f (((8 : Int32) * p1) + (1 : Int32)).toNatClampNeg) * p2) + (v11 / p4)) * p5) + ((Xblocks_f ((8 : Int32) * p1).toNatClampNeg) * p2)) + (v11 - v11 / p4 * p4)).toNatClampNeg q896) ((((((Xblocks_f (((8 : Int32) * p1) + (1 : Int32)).toNatClampNeg) * p2) + (v11 / p4)) * p5) + ((Xblocks_f ((8 : Int32) * p1).toNatClampNeg) * p2)) + (v11 - v11 / p4 * p4)).toNatClampNeg) - (Xolds_f ((((((Xblocks_f (((8 : Int32) * p1) + (1 : Int32)).toNatClampNeg) * p2) + (v11 / p4)) * p5) + ((Xblocks_f ((8 : Int32) * p1).toNatClampNeg) * p2)) + (v11 - v11 / p4 * p4)).toNatClampNeg)) (v11 + 1) (upd Xnews_f ((((((Xblocks_f (((8 : Int32) * p1) + (1 : Int32)).toNatClampNeg) * p2) + (v11 / p4)) * p5) + ((Xblocks_f ((8 : Int32) * p1).toNatClampNeg) * p2)) + (v11 - v11 / p4 * p4)).toNatClampNeg q896))) else (if (-(((upd Xnews_f ((((((Xblocks_f (((8 : Int32) * p1) + (1 : Int32)).toNatClampNeg) * p2) + (v11 / p4)) * p5) + ((Xblocks_f ((8 : Int32) * p1).toNatClampNeg) * p2)) + (v11 - v11 / p4 * p4)).toNatClampNeg q896) ((((((Xblocks_f (((8 : Int32) * p1) + (1 : Int32)).toNatClampNeg) * p2) + (v11 / p4)) * p5) + ((Xblocks_f ((8 : Int32) * p1).toNatClampNeg) * p2)) + (v11 - v11 / p4 * p4)).toNatClampNeg) - (Xolds_f ((((((Xblocks_f (((8 : Int32) * p1) + (1 : Int32)).toNatClampNeg) * p2) + (v11 / p4)) * p5) + ((Xblocks_f ((8 : Int32) * p1).toNatClampNeg) * p2)) + (v11 - v11 / p4 * p4)).toNatClampNeg))) ≤ v10 then (f_M_decodeBlock_77 p1 p2 p3 p4 p5 p6 p7 p8 p9 Xblocks_n Xblocks_f Xnews_n Xolds_n Xolds_f Xhalves_n Xhalves_f n v10 (v11 + 1) (upd Xnews_f ((((((Xblocks_f (((8 : Int32) * p1) + (1 : Int32)).toNatClampNeg) * p2) + (v11 / p4)) * p5) + ((Xblocks_f ((8 : Int32) * p1).toNatClampNeg) * p2)) + (v11 - v11 / p4 * p4)).toNatClampNeg q896)) else (f_M_decodeBlock_77 p1 p2 p3 p4 p5 p6 p7 p8 p9 Xblocks_n Xblocks_f Xnews_n Xolds_n Xolds_f Xhalves_n Xhalves_f n (-(((upd Xnews_f ((((((Xblocks_f (((8 : Int32) * p1) + (1 : Int32)).toNatClampNeg) * p2) + (v11 / p4)) * p5) + ((Xblocks_f ((8 : Int32) * p1).toNatClampNeg) * p2)) + (v11 - v11 / p4 * p4)).toNatClampNeg q896) ((((((Xblocks_f (((8 : Int32) * p1) + (1 : Int32)).toNatClampNeg) * p2) + (v11 / p4)) * p5) + ((Xblocks_f ((8 : Int32) * p1).toNatClampNeg) * p2)) + (v11 - v11 / p4 * p4)).toNatClampNeg) - (Xolds_f ((((((Xblocks_f (((8 : Int32) * p1) + (1 : Int32)).toNatClampNeg) * p2) + (v11 / p4)) * p5) + ((Xblocks_f ((8 : Int32) * p1).toNatClampNeg) * p2)) + (v11 - v11 / p4 * p4)).toNatClampNeg))) (v11 + 1) (upd Xnews_f ((((((Xblocks_f (((8 : Int32) * p1) + (1 : Int32)).toNatClampNeg) * p2) + (v11 / p4)) * p5) + ((Xblocks_f ((8 : Int32) * p1).toNatClampNeg) * p2)) + (v11 - v11 / p4 * p4)).toNatClampNeg q896)))))))))))))))))
def f_M_decodeBlock (x1 : Int32) (x2 : Int32) (X_side : Int32) (Xblocks_n : Nat) (Xblocks_f : Nat → Int32) (Xnews_n : Nat) (Xnews_f : Nat → Int32) (Xolds_n : Nat) (Xolds_f : Nat → Int32) (Xhalves_n : Nat) (Xhalves_f : Nat → Int32) : Option (Int32 × (Nat → Int32)) := if (((8 : Int32) * x1) + (2 : Int32)) < 0 ∨ Xblocks_n ≤ (((8 : Int32) * x1) + (2 : Int32)).toNatClampNeg then none else ((f_M_domains (Xblocks_f (((8 : Int32) * x1) + (2 : Int32)).toNatClampNeg) X_side).bind (fun q890 => if (((8 : Int32) * x1) + (3 : Int32)) < 0 ∨ Xblocks_n ≤ (((8 : Int32) * x1) + (3 : Int32)).toNatClampNeg then none else (if q890 = 0 then none else (if q890 = 0 then none else ((f_M_decodeBlock_77 x1 x2 (Xblocks_f (((8 : Int32) * x1) + (2 : Int32)).toNatClampNeg) ((Xblocks_f (((8 : Int32) * x1) + (2 : Int32)).toNatClampNeg) * x2) (X_side * x2) q890 (Xblocks_f (((8 : Int32) * x1) + (3 : Int32)).toNatClampNeg) (((((Xblocks_f (((8 : Int32) * x1) + (3 : Int32)).toNatClampNeg) - (Xblocks_f (((8 : Int32) * x1) + (3 : Int32)).toNatClampNeg) / q890 * q890) * (Xblocks_f (((8 : Int32) * x1) + (2 : Int32)).toNatClampNeg)) * x2) / (2 : Int32)) (((((Xblocks_f (((8 : Int32) * x1) + (3 : Int32)).toNatClampNeg) / q890) * (Xblocks_f (((8 : Int32) * x1) + (2 : Int32)).toNatClampNeg)) * x2) / (2 : Int32)) Xblocks_n Xblocks_f Xnews_n Xolds_n Xolds_f Xhalves_n Xhalves_f FU (0 : Int32) (0 : Int32) Xnews_f).bind (fun q898 => some (q898.1, q898.2.2)))))))
def f_M_decode_65 (p1 : Int32) (p2 : Int32) (X_decoded : Int32) (Xnews_n : Nat) : Nat → Int32 → (Nat → Int32) → Option (Int32 × (Nat → Int32))
  | 0, _, _ => none
  | n + 1, v3, Xnews_f => if (X_decoded * X_decoded) ≤ v3 then (some (v3, Xnews_f)) else (if v3 < 0 ∨ Xnews_n ≤ v3.toNatClampNeg then none else (f_M_decode_65 p1 p2 X_decoded Xnews_n n (v3 + 1) (upd Xnews_f v3.toNatClampNeg (128 : Int32))))
def f_M_decode_122 (p1 : Int32) (p2 : Int32) (p3 : Int32) (p4 : Int32) (X_decoded : Int32) (Xnews_n : Nat) (Xnews_f : Nat → Int32) (Xolds_n : Nat) : Nat → Int32 → (Nat → Int32) → Option (Int32 × (Nat → Int32))
  | 0, _, _ => none
  | n + 1, v5, Xolds_f => if (X_decoded * X_decoded) ≤ v5 then (some (v5, Xolds_f)) else (if v5 < 0 ∨ Xnews_n ≤ v5.toNatClampNeg then none else (if v5 < 0 ∨ Xolds_n ≤ v5.toNatClampNeg then none else (f_M_decode_122 p1 p2 p3 p4 X_decoded Xnews_n Xnews_f Xolds_n n (v5 + 1) (upd Xolds_f v5.toNatClampNeg (Xnews_f v5.toNatClampNeg)))))
def f_M_decode_161 (p1 : Int32) (p2 : Int32) (p4 : Int32) (X_side : Int32) (X_many : Int32) (Xblocks_n : Nat) (Xblocks_f : Nat → Int32) (Xnews_n : Nat) (Xolds_n : Nat) (Xolds_f : Nat → Int32) (Xhalves_n : Nat) (Xhalves_f : Nat → Int32) : Nat → Int32 → Int32 → (Nat → Int32) → Option (Int32 × Int32 × (Nat → Int32))
  | 0, _, _, _ => none
  | n + 1, v3, v5, Xnews_f => if X_many ≤ v5 then (some (v3, v5, Xnews_f)) else ((f_M_decodeBlock v5 (p2 + (1 : Int32)) X_side Xblocks_n Xblocks_f Xnews_n Xnews_f Xolds_n Xolds_f Xhalves_n Xhalves_f).bind (fun q918 => if q918.1 ≤ v3 then (f_M_decode_161 p1 p2 p4 X_side X_many Xblocks_n Xblocks_f Xnews_n Xolds_n Xolds_f Xhalves_n Xhalves_f n v3 (v5 + 1) q918.2) else (f_M_decode_161 p1 p2 p4 X_side X_many Xblocks_n Xblocks_f Xnews_n Xolds_n Xolds_f Xhalves_n Xhalves_f n q918.1 (v5 + 1) q918.2)))
def f_M_decode_98 (p1 : Int32) (p2 : Int32) (X_side : Int32) (X_many : Int32) (X_decoded : Int32) (Xblocks_n : Nat) (Xblocks_f : Nat → Int32) (Xnews_n : Nat) (Xolds_n : Nat) (Xhalves_n : Nat) : Nat → Int32 → Int32 → (Nat → Int32) → (Nat → Int32) → (Nat → Int32) → Option (Int32 × Int32 × (Nat → Int32) × (Nat → Int32) × (Nat → Int32))
  | 0, _, _, _, _, _ => none
  | n + 1, v3, v4, Xnews_f, Xolds_f, Xhalves_f => if p1 ≤ v4 then (some (v3, v4, Xnews_f, Xolds_f, Xhalves_f)) else ((f_M_halve X_decoded Xnews_n Xnews_f Xhalves_n Xhalves_f).bind (fun q914 => (f_M_decode_122 p1 p2 v3 v4 X_decoded Xnews_n Xnews_f Xolds_n FU (0 : Int32) Xolds_f).bind (fun q915 => (f_M_decode_161 p1 p2 v4 X_side X_many Xblocks_n Xblocks_f Xnews_n Xolds_n q915.2 Xhalves_n q914 FU (0 : Int32) (0 : Int32) Xnews_f).bind (fun q919 => f_M_decode_98 p1 p2 X_side X_many X_decoded Xblocks_n Xblocks_f Xnews_n Xolds_n Xhalves_n n q919.1 (v4 + 1) q919.2.2 q915.2 q914))))
def f_M_decode_J39 (p1 : Int32) (p2 : Int32) (X_code : Int32) (X_side : Int32) (X_many : Int32) (X_decoded : Int32) (Xblocks_n : Nat) (Xblocks_f : Nat → Int32) (Xnews_n : Nat) (Xnews_f : Nat → Int32) (Xolds_n : Nat) (Xolds_f : Nat → Int32) (Xhalves_n : Nat) (Xhalves_f : Nat → Int32) (s0 : Int32) : Option (Int32 × Int32 × Int32 × (Nat → Int32) × (Nat → Int32) × (Nat → Int32)) := if s0 ≤ 0 then ((f_M_decode_65 p1 p2 (X_side * (p2 + (1 : Int32))) Xnews_n FU (0 : Int32) Xnews_f).bind (fun q911 => (f_M_decode_98 p1 p2 X_side X_many (X_side * (p2 + (1 : Int32))) Xblocks_n Xblocks_f Xnews_n Xolds_n Xhalves_n FU (0 : Int32) (0 : Int32) q911.2 Xolds_f Xhalves_f).bind (fun q923 => some (q923.1, s0, (X_side * (p2 + (1 : Int32))), q923.2.2.1, q923.2.2.2.1, q923.2.2.2.2)))) else (some ((0 : Int32), s0, X_decoded, Xnews_f, Xolds_f, Xhalves_f))
def f_M_decode (x1 : Int32) (x2 : Int32) (X_code : Int32) (X_side : Int32) (X_many : Int32) (X_decoded : Int32) (Xblocks_n : Nat) (Xblocks_f : Nat → Int32) (Xnews_n : Nat) (Xnews_f : Nat → Int32) (Xolds_n : Nat) (Xolds_f : Nat → Int32) (Xhalves_n : Nat) (Xhalves_f : Nat → Int32) : Option (Int32 × Int32 × Int32 × (Nat → Int32) × (Nat → Int32) × (Nat → Int32)) := (f_M_in x1.toInt64 (1 : Int64) (40 : Int64)).bind (fun q909 => if q909 = 0 then (f_M_decode_J39 x1 x2 X_code X_side X_many X_decoded Xblocks_n Xblocks_f Xnews_n Xnews_f Xolds_n Xolds_f Xhalves_n Xhalves_f (1 : Int32)) else ((f_M_in x2.toInt64 (0 : Int64) (1 : Int64)).bind (fun q953 => if q953 = 0 then (f_M_decode_J39 x1 x2 X_code X_side X_many X_decoded Xblocks_n Xblocks_f Xnews_n Xnews_f Xolds_n Xolds_f Xhalves_n Xhalves_f (1 : Int32)) else (if X_many = 0 then (f_M_decode_J39 x1 x2 X_code X_side X_many X_decoded Xblocks_n Xblocks_f Xnews_n Xnews_f Xolds_n Xolds_f Xhalves_n Xhalves_f (2 : Int32)) else (f_M_decode_J39 x1 x2 X_code X_side X_many X_decoded Xblocks_n Xblocks_f Xnews_n Xnews_f Xolds_n Xolds_f Xhalves_n Xhalves_f (0 : Int32))))))
def f_M_tell_5 (p1 : Int32) (p2 : Int32) : Nat → Int32 → Int32 → Option (Int32 × Int32)
  | 0, _, _ => none
  | n + 1, v3, v4 => if p2 ≤ v4 then (some (v3, v4)) else (f_M_tell_5 p1 p2 n ((2 : Int32) * v3) (v4 + 1))
def f_M_tell_24 (p1 : Int32) (p2 : Int32) (Xencoded_n : Nat) : Nat → Int32 → Int32 → Int32 → (Nat → Int32) → Option (Int32 × Int32 × Int32 × (Nat → Int32))
  | 0, _, _, _, _ => none
  | n + 1, v3, v4, X_encodedBits, Xencoded_f => if p2 ≤ v4 then (some (v3, v4, X_encodedBits, Xencoded_f)) else (if (X_encodedBits - X_encodedBits / (8 : Int32) * (8 : Int32)) = 0 then (if (X_encodedBits / (8 : Int32)) < 0 ∨ Xencoded_n ≤ (X_encodedBits / (8 : Int32)).toNatClampNeg then none else (if (X_encodedBits / (8 : Int32)) < 0 ∨ Xencoded_n ≤ (X_encodedBits / (8 : Int32)).toNatClampNeg then none else (if v3 = 0 then none else (if (X_encodedBits / (8 : Int32)) < 0 ∨ Xencoded_n ≤ (X_encodedBits / (8 : Int32)).toNatClampNeg then none else (f_M_tell_24 p1 p2 Xencoded_n n (v3 / (2 : Int32)) (v4 + 1) (X_encodedBits + (1 : Int32)) (upd (upd Xencoded_f (X_encodedBits / (8 : Int32)).toNatClampNeg (0 : Int32)) (X_encodedBits / (8 : Int32)).toNatClampNeg (((upd Xencoded_f (X_encodedBits / (8 : Int32)).toNatClampNeg (0 : Int32)) (X_encodedBits / (8 : Int32)).toNatClampNeg) + (((p1 / v3) - (p1 / v3) / (2 : Int32) * (2 : Int32)) <<< (((7 : Int32) - (X_encodedBits - X_encodedBits / (8 : Int32) * (8 : Int32))) &&& 31))))))))) else (if (X_encodedBits / (8 : Int32)) < 0 ∨ Xencoded_n ≤ (X_encodedBits / (8 : Int32)).toNatClampNeg then none else (if (X_encodedBits / (8 : Int32)) < 0 ∨ Xencoded_n ≤ (X_encodedBits / (8 : Int32)).toNatClampNeg then none else (if (X_encodedBits / (8 : Int32)) < 0 ∨ Xencoded_n ≤ (X_encodedBits / (8 : Int32)).toNatClampNeg then none else (if v3 = 0 then none else (if (X_encodedBits / (8 : Int32)) < 0 ∨ Xencoded_n ≤ (X_encodedBits / (8 : Int32)).toNatClampNeg then none else (f_M_tell_24 p1 p2 Xencoded_n n (v3 / (2 : Int32)) (v4 + 1) (X_encodedBits + (1 : Int32)) (upd (upd Xencoded_f (X_encodedBits / (8 : Int32)).toNatClampNeg (Xencoded_f (X_encodedBits / (8 : Int32)).toNatClampNeg)) (X_encodedBits / (8 : Int32)).toNatClampNeg (((upd Xencoded_f (X_encodedBits / (8 : Int32)).toNatClampNeg (Xencoded_f (X_encodedBits / (8 : Int32)).toNatClampNeg)) (X_encodedBits / (8 : Int32)).toNatClampNeg) + (((p1 / v3) - (p1 / v3) / (2 : Int32) * (2 : Int32)) <<< (((7 : Int32) - (X_encodedBits - X_encodedBits / (8 : Int32) * (8 : Int32))) &&& 31)))))))))))
def f_M_tell (x1 : Int32) (x2 : Int32) (X_encodedBits : Int32) (Xencoded_n : Nat) (Xencoded_f : Nat → Int32) : Option (Int32 × (Nat → Int32)) := (f_M_tell_5 x1 x2 FU (1 : Int32) (1 : Int32)).bind (fun q955 => (f_M_tell_24 x1 x2 Xencoded_n FU q955.1 (0 : Int32) X_encodedBits Xencoded_f).bind (fun q959 => some (q959.2.2.1, q959.2.2.2)))
def f_M_nearest (x1 : Int64) (x2 : Int64) : Option (Int64) := if ((2 : Int64) * x2) = 0 then none else (if 0 ≤ (lg_cmp (((2 : Int64) * x1) + x2) (0 : Int64)) then (some ((((2 : Int64) * x1) + x2) / ((2 : Int64) * x2))) else (if (lg_cmp ((((((2 : Int64) * x1) + x2) / ((2 : Int64) * x2)) * (2 : Int64)) * x2) (((2 : Int64) * x1) + x2)) = 0 then (some ((((2 : Int64) * x1) + x2) / ((2 : Int64) * x2))) else (some (((((2 : Int64) * x1) + x2) / ((2 : Int64) * x2)) - (1 : Int64)))))
def f_M_tryOne_21 (p1 : Int32) (p2 : Int32) (p3 : Int32) (p4 : Int64) (Xds_n : Nat) (Xds_f : Nat → Int32) (Xrs_n : Nat) (Xrs_f : Nat → Int32) : Nat → Int64 → Int64 → Int64 → Int64 → Int32 → Option (Int64 × Int64 × Int64 × Int64 × Int32)
  | 0, _, _, _, _, _ => none
  | n + 1, v6, v8, v10, v12, v14 => if (p1 * p1) ≤ v14 then (some (v6, v8, v10, v12, v14)) else (if v14 < 0 ∨ Xds_n ≤ v14.toNatClampNeg then none else (if v14 < 0 ∨ Xrs_n ≤ v14.toNatClampNeg then none else (if v14 < 0 ∨ Xds_n ≤ v14.toNatClampNeg then none else (if v14 < 0 ∨ Xrs_n ≤ v14.toNatClampNeg then none else (if v14 < 0 ∨ Xds_n ≤ v14.toNatClampNeg then none else (if v14 < 0 ∨ Xds_n ≤ v14.toNatClampNeg then none else (f_M_tryOne_21 p1 p2 p3 p4 Xds_n Xds_f Xrs_n Xrs_f n (v6 + (Xds_f v14.toNatClampNeg).toInt64) (v8 + (Xrs_f v14.toNatClampNeg).toInt64) (v10 + ((Xds_f v14.toNatClampNeg) * (Xrs_f v14.toNatClampNeg)).toInt64) (v12 + ((Xds_f v14.toNatClampNeg) * (Xds_f v14.toNatClampNeg)).toInt64) (v14 + 1))))))))
def f_M_tryOne_167 (p1 : Int32) (p2 : Int32) (p3 : Int32) (p4 : Int64) (p6 : Int64) (p8 : Int64) (p10 : Int64) (p12 : Int64) (p14 : Int64) (p16 : Int64) (p18 : Int32) (Xds_n : Nat) (Xds_f : Nat → Int32) : Nat → Int64 → Int32 → Option (Int64 × Int32)
  | 0, _, _ => none
  | n + 1, v19, v21 => if (p1 * p1) ≤ v21 then (some (v19, v21)) else (if v21 < 0 ∨ Xds_n ≤ v21.toNatClampNeg then none else ((f_M_mapped p18 (Xds_f v21.toNatClampNeg)).bind (fun q972 => f_M_tryOne_167 p1 p2 p3 p4 p6 p8 p10 p12 p14 p16 p18 Xds_n Xds_f n (v19 - q972.toInt64) (v21 + 1))))
def f_M_tryOne_215 (p1 : Int32) (p2 : Int32) (p3 : Int32) (p4 : Int64) (p6 : Int64) (p8 : Int64) (p10 : Int64) (p12 : Int64) (p14 : Int64) (p16 : Int64) (p18 : Int32) (p19 : Int64) (p21 : Int32) (Xds_n : Nat) (Xds_f : Nat → Int32) (Xrs_n : Nat) (Xrs_f : Nat → Int32) : Nat → Int64 → Int32 → Option (Int64 × Int32)
  | 0, _, _ => none
  | n + 1, v22, v24 => if (p1 * p1) ≤ v24 then (some (v22, v24)) else (if v24 < 0 ∨ Xrs_n ≤ v24.toNatClampNeg then none else (if v24 < 0 ∨ Xds_n ≤ v24.toNatClampNeg then none else ((f_M_mapped p18 (Xds_f v24.toNatClampNeg)).bind (fun q979 => f_M_tryOne_215 p1 p2 p3 p4 p6 p8 p10 p12 p14 p16 p18 p19 p21 Xds_n Xds_f Xrs_n Xrs_f n (v22 + ((((Xrs_f v24.toNatClampNeg) - q979) - p21).toInt64 * (((Xrs_f v24.toNatClampNeg) - q979) - p21).toInt64)) (v24 + 1)))))
def f_M_tryOne_J158 (p1 : Int32) (p2 : Int32) (p3 : Int32) (p4 : Int64) (p6 : Int64) (p8 : Int64) (p10 : Int64) (p12 : Int64) (p14 : Int64) (p16 : Int64) (X_bestError : Int64) (Xds_n : Nat) (Xds_f : Nat → Int32) (Xrs_n : Nat) (Xrs_f : Nat → Int32) (Xbest_n : Nat) (Xbest_f : Nat → Int32) (s0 : Int32) : Option (Int64 × (Nat → Int32)) := (f_M_tryOne_167 p1 p2 p3 p4 p6 p8 p10 p12 p14 p16 s0 Xds_n Xds_f FU p8 (0 : Int32)).bind (fun q974 => (f_M_nearest q974.1 p4).bind (fun q977 => (f_M_tryOne_215 p1 p2 p3 p4 p6 p8 p10 p12 p14 p16 s0 q974.1 q977.toInt32 Xds_n Xds_f Xrs_n Xrs_f FU (0 : Int64) (0 : Int32)).bind (fun q981 => if (lg_cmp X_bestError (0 : Int64)) < 0 then (if (0 : Int32) < 0 ∨ Xbest_n ≤ (0 : Int32).toNatClampNeg then none else (if (1 : Int32) < 0 ∨ Xbest_n ≤ (1 : Int32).toNatClampNeg then none else (if (2 : Int32) < 0 ∨ Xbest_n ≤ (2 : Int32).toNatClampNeg then none else (if (3 : Int32) < 0 ∨ Xbest_n ≤ (3 : Int32).toNatClampNeg then none else (some (q981.1, (upd (upd (upd (upd Xbest_f (0 : Int32).toNatClampNeg p2) (1 : Int32).toNatClampNeg p3) (2 : Int32).toNatClampNeg s0) (3 : Int32).toNatClampNeg q977.toInt32))))))) else (if 0 ≤ (lg_cmp q981.1 X_bestError) then (some (X_bestError, Xbest_f)) else (if (0 : Int32) < 0 ∨ Xbest_n ≤ (0 : Int32).toNatClampNeg then none else (if (1 : Int32) < 0 ∨ Xbest_n ≤ (1 : Int32).toNatClampNeg then none else (if (2 : Int32) < 0 ∨ Xbest_n ≤ (2 : Int32).toNatClampNeg then none else (if (3 : Int32) < 0 ∨ Xbest_n ≤ (3 : Int32).toNatClampNeg then none else (some (q981.1, (upd (upd (upd (upd Xbest_f (0 : Int32).toNatClampNeg p2) (1 : Int32).toNatClampNeg p3) (2 : Int32).toNatClampNeg s0) (3 : Int32).toNatClampNeg q977.toInt32)))))))))))
def f_M_tryOne (x1 : Int32) (x2 : Int32) (x3 : Int32) (X_bestError : Int64) (Xds_n : Nat) (Xds_f : Nat → Int32) (Xrs_n : Nat) (Xrs_f : Nat → Int32) (Xbest_n : Nat) (Xbest_f : Nat → Int32) : Option (Int64 × (Nat → Int32)) := (f_M_tryOne_21 x1 x2 x3 ((x1 * x1).toInt64) Xds_n Xds_f Xrs_n Xrs_f FU (0 : Int64) (0 : Int64) (0 : Int64) (0 : Int64) (0 : Int32)).bind (fun q965 => if (lg_cmp (((x1 * x1).toInt64 * q965.2.2.2.1) - (q965.1 * q965.1)) (0 : Int64)) = 0 then (f_M_tryOne_J158 x1 x2 x3 ((x1 * x1).toInt64) q965.1 q965.2.1 q965.2.2.1 q965.2.2.2.1 (((x1 * x1).toInt64 * q965.2.2.1) - (q965.1 * q965.2.1)) (((x1 * x1).toInt64 * q965.2.2.2.1) - (q965.1 * q965.1)) X_bestError Xds_n Xds_f Xrs_n Xrs_f Xbest_n Xbest_f (0 : Int32)) else ((f_M_nearest ((8 : Int64) * (((x1 * x1).toInt64 * q965.2.2.1) - (q965.1 * q965.2.1))) (((x1 * x1).toInt64 * q965.2.2.2.1) - (q965.1 * q965.1))).bind (fun q1000 => (f_M_brought q1000 (-7 : Int32) (7 : Int32)).bind (fun q1002 => f_M_tryOne_J158 x1 x2 x3 ((x1 * x1).toInt64) q965.1 q965.2.1 q965.2.2.1 q965.2.2.2.1 (((x1 * x1).toInt64 * q965.2.2.1) - (q965.1 * q965.2.1)) (((x1 * x1).toInt64 * q965.2.2.2.1) - (q965.1 * q965.1)) X_bestError Xds_n Xds_f Xrs_n Xrs_f Xbest_n Xbest_f q1002))))
def f_M_search_83 (p1 : Int32) (p2 : Int32) (p3 : Int32) (p4 : Int32) (p5 : Int32) (p6 : Int32) (p7 : Int32) (Xds_n : Nat) (Xds_f : Nat → Int32) : Nat → Int32 → Int32 → Option (Int32 × Int32)
  | 0, _, _ => none
  | n + 1, v8, v9 => if (4 : Int32) ≤ v9 then (some (v8, v9)) else (if v8 = 0 then (f_M_search_83 p1 p2 p3 p4 p5 p6 p7 Xds_n Xds_f n (0 : Int32) (v9 + 1)) else ((f_M_quarterSum p3 v9 Xds_n Xds_f).bind (fun q1014 => if p7 < q1014 then (f_M_search_83 p1 p2 p3 p4 p5 p6 p7 Xds_n Xds_f n (0 : Int32) (v9 + 1)) else (f_M_search_83 p1 p2 p3 p4 p5 p6 p7 Xds_n Xds_f n (1 : Int32) (v9 + 1)))))
def f_M_search_40 (p1 : Int32) (p2 : Int32) (p3 : Int32) (p4 : Int32) (p5 : Int32) (X_side : Int32) (Xhalf_n : Nat) (Xhalf_f : Nat → Int32) (Xds_n : Nat) (Xrs_n : Nat) (Xrs_f : Nat → Int32) (Xbest_n : Nat) : Nat → Int32 → Int32 → Int64 → (Nat → Int32) → (Nat → Int32) → Option (Int32 × Int32 × Int64 × (Nat → Int32) × (Nat → Int32))
  | 0, _, _, _, _, _ => none
  | n + 1, v6, X_tried, X_bestError, Xds_f, Xbest_f => if ((8 : Int32) * p5) ≤ v6 then (some (v6, X_tried, X_bestError, Xds_f, Xbest_f)) else ((f_M_layDomain p3 (v6 / (8 : Int32)) (v6 - v6 / (8 : Int32) * (8 : Int32)) X_side Xhalf_n Xhalf_f Xds_n Xds_f).bind (fun q1011 => (f_M_quarterSum p3 p4 Xds_n q1011).bind (fun q1012 => (f_M_search_83 p1 p2 p3 p4 p5 v6 q1012 Xds_n q1011 FU (1 : Int32) (0 : Int32)).bind (fun q1016 => if q1016.1 = 0 then (f_M_search_40 p1 p2 p3 p4 p5 X_side Xhalf_n Xhalf_f Xds_n Xrs_n Xrs_f Xbest_n n (v6 + 1) X_tried X_bestError q1011 Xbest_f) else ((f_M_tryOne p3 (v6 / (8 : Int32)) (v6 - v6 / (8 : Int32) * (8 : Int32)) X_bestError Xds_n q1011 Xrs_n Xrs_f Xbest_n Xbest_f).bind (fun q1022 => f_M_search_40 p1 p2 p3 p4 p5 X_side Xhalf_n Xhalf_f Xds_n Xrs_n Xrs_f Xbest_n n (v6 + 1) (X_tried + (1 : Int32)) q1022.1 q1011 q1022.2))))))
def f_M_search (x1 : Int32) (x2 : Int32) (x3 : Int32) (X_side : Int32) (X_tried : Int32) (X_bestError : Int64) (Xpicture_n : Nat) (Xpicture_f : Nat → Int32) (Xhalf_n : Nat) (Xhalf_f : Nat → Int32) (Xds_n : Nat) (Xds_f : Nat → Int32) (Xrs_n : Nat) (Xrs_f : Nat → Int32) (Xbest_n : Nat) (Xbest_f : Nat → Int32) : Option (Int32 × Int64 × (Nat → Int32) × (Nat → Int32) × (Nat → Int32)) := (f_M_layBlock x1 x2 x3 X_side Xpicture_n Xpicture_f Xrs_n Xrs_f).bind (fun q1004 => (f_M_classOf x3 Xrs_n q1004).bind (fun q1005 => (f_M_domains x3 X_side).bind (fun q1007 => (f_M_domains x3 X_side).bind (fun q1009 => (f_M_search_40 x1 x2 x3 q1005 (q1007 * q1009) X_side Xhalf_n Xhalf_f Xds_n Xrs_n q1004 Xbest_n FU (0 : Int32) X_tried (-1 : Int64) Xds_f Xbest_f).bind (fun q1023 => some (q1023.2.1, q1023.2.2.1, q1023.2.2.2.1, q1004, q1023.2.2.2.2))))))
def f_M_encode_J230 (lk : Int32 → Int32 → Int32 → Int32 → Int64 → (Nat → Int32) → (Nat → Int32) → (Nat → Int32) → (Nat → Int32) → (Nat → Int32) → (Nat → Int32) → Option (Int32 × Int32 × Int32 × Int32 × Int64 × (Nat → Int32) × (Nat → Int32) × (Nat → Int32) × (Nat → Int32) × (Nat → Int32) × (Nat → Int32))) (p1 : Int32) (p2 : Int32) (p3 : Int32) (p4 : Int32) (p5 : Int32) (p6 : Int32) (X_side : Int32) (X_found : Int32) (X_encodedBits : Int32) (X_tried : Int32) (X_waiting : Int32) (X_bestError : Int64) (Xblocks_n : Nat) (Xblocks_f : Nat → Int32) (Xencoded_n : Nat) (Xencoded_f : Nat → Int32) (Xpile_n : Nat) (Xpile_f : Nat → Int32) (Xds_f : Nat → Int32) (Xrs_f : Nat → Int32) (Xbest_n : Nat) (Xbest_f : Nat → Int32) : Option (Int32 × Int32 × Int32 × Int32 × Int64 × (Nat → Int32) × (Nat → Int32) × (Nat → Int32) × (Nat → Int32) × (Nat → Int32) × (Nat → Int32)) := if p6 = 0 then ((f_M_note p3 p4 p5 X_bestError.toInt32 X_found Xblocks_n Xblocks_f Xbest_n Xbest_f).bind (fun q1046 => if (0 : Int32) < 0 ∨ Xbest_n ≤ (0 : Int32).toNatClampNeg then none else ((f_M_bitsFor p5 X_side).bind (fun q1047 => (f_M_tell (Xbest_f (0 : Int32).toNatClampNeg) q1047 X_encodedBits Xencoded_n Xencoded_f).bind (fun q1049 => if (1 : Int32) < 0 ∨ Xbest_n ≤ (1 : Int32).toNatClampNeg then none else ((f_M_tell (Xbest_f (1 : Int32).toNatClampNeg) (3 : Int32) q1049.1 Xencoded_n q1049.2).bind (fun q1050 => if (2 : Int32) < 0 ∨ Xbest_n ≤ (2 : Int32).toNatClampNeg then none else ((f_M_tell ((Xbest_f (2 : Int32).toNatClampNeg) + (7 : Int32)) (4 : Int32) q1050.1 Xencoded_n q1050.2).bind (fun q1051 => if (3 : Int32) < 0 ∨ Xbest_n ≤ (3 : Int32).toNatClampNeg then none else ((f_M_tell ((Xbest_f (3 : Int32).toNatClampNeg) + (256 : Int32)) (10 : Int32) q1051.1 Xencoded_n q1051.2).bind (fun q1052 => lk q1046.1 q1052.1 X_tried X_waiting X_bestError q1046.2 q1052.2 Xpile_f Xds_f Xrs_f Xbest_f))))))))))) else ((f_M_pileQuarters p3 p4 p5 X_waiting Xpile_n Xpile_f).bind (fun q1053 => lk X_found X_encodedBits X_tried q1053.1 X_bestError Xblocks_f Xencoded_f q1053.2 Xds_f Xrs_f Xbest_f))
def f_M_encode_J226 (lk : Int32 → Int32 → Int32 → Int32 → Int64 → (Nat → Int32) → (Nat → Int32) → (Nat → Int32) → (Nat → Int32) → (Nat → Int32) → (Nat → Int32) → Option (Int32 × Int32 × Int32 × Int32 × Int64 × (Nat → Int32) × (Nat → Int32) × (Nat → Int32) × (Nat → Int32) × (Nat → Int32) × (Nat → Int32))) (p1 : Int32) (p2 : Int32) (p3 : Int32) (p4 : Int32) (p5 : Int32) (p6 : Int32) (X_side : Int32) (X_found : Int32) (X_encodedBits : Int32) (X_tried : Int32) (X_waiting : Int32) (X_bestError : Int64) (Xblocks_n : Nat) (Xblocks_f : Nat → Int32) (Xencoded_n : Nat) (Xencoded_f : Nat → Int32) (Xpile_n : Nat) (Xpile_f : Nat → Int32) (Xds_f : Nat → Int32) (Xrs_f : Nat → Int32) (Xbest_n : Nat) (Xbest_f : Nat → Int32) (s0 : Int32) : Option (Int32 × Int32 × Int32 × Int32 × Int64 × (Nat → Int32) × (Nat → Int32) × (Nat → Int32) × (Nat → Int32) × (Nat → Int32) × (Nat → Int32)) := (f_M_tell s0 (1 : Int32) X_encodedBits Xencoded_n Xencoded_f).bind (fun q1054 => if p6 = 0 then ((f_M_note p3 p4 p5 X_bestError.toInt32 X_found Xblocks_n Xblocks_f Xbest_n Xbest_f).bind (fun q1055 => if (0 : Int32) < 0 ∨ Xbest_n ≤ (0 : Int32).toNatClampNeg then none else ((f_M_bitsFor p5 X_side).bind (fun q1056 => (f_M_tell (Xbest_f (0 : Int32).toNatClampNeg) q1056 q1054.1 Xencoded_n q1054.2).bind (fun q1058 => if (1 : Int32) < 0 ∨ Xbest_n ≤ (1 : Int32).toNatClampNeg then none else ((f_M_tell (Xbest_f (1 : Int32).toNatClampNeg) (3 : Int32) q1058.1 Xencoded_n q1058.2).bind (fun q1059 => if (2 : Int32) < 0 ∨ Xbest_n ≤ (2 : Int32).toNatClampNeg then none else ((f_M_tell ((Xbest_f (2 : Int32).toNatClampNeg) + (7 : Int32)) (4 : Int32) q1059.1 Xencoded_n q1059.2).bind (fun q1060 => if (3 : Int32) < 0 ∨ Xbest_n ≤ (3 : Int32).toNatClampNeg then none else ((f_M_tell ((Xbest_f (3 : Int32).toNatClampNeg) + (256 : Int32)) (10 : Int32) q1060.1 Xencoded_n q1060.2).bind (fun q1061 => lk q1055.1 q1061.1 X_tried X_waiting X_bestError q1055.2 q1061.2 Xpile_f Xds_f Xrs_f Xbest_f))))))))))) else ((f_M_pileQuarters p3 p4 p5 X_waiting Xpile_n Xpile_f).bind (fun q1062 => lk X_found q1054.1 X_tried q1062.1 X_bestError Xblocks_f q1054.2 q1062.2 Xds_f Xrs_f Xbest_f)))
def f_M_encode_J207 (lk : Int32 → Int32 → Int32 → Int32 → Int64 → (Nat → Int32) → (Nat → Int32) → (Nat → Int32) → (Nat → Int32) → (Nat → Int32) → (Nat → Int32) → Option (Int32 × Int32 × Int32 × Int32 × Int64 × (Nat → Int32) × (Nat → Int32) × (Nat → Int32) × (Nat → Int32) × (Nat → Int32) × (Nat → Int32))) (p1 : Int32) (p2 : Int32) (p3 : Int32) (p4 : Int32) (p5 : Int32) (X_side : Int32) (X_found : Int32) (X_encodedBits : Int32) (X_tried : Int32) (X_waiting : Int32) (X_bestError : Int64) (Xblocks_n : Nat) (Xblocks_f : Nat → Int32) (Xencoded_n : Nat) (Xencoded_f : Nat → Int32) (Xpile_n : Nat) (Xpile_f : Nat → Int32) (Xds_f : Nat → Int32) (Xrs_f : Nat → Int32) (Xbest_n : Nat) (Xbest_f : Nat → Int32) (s0 : Int32) : Option (Int32 × Int32 × Int32 × Int32 × Int64 × (Nat → Int32) × (Nat → Int32) × (Nat → Int32) × (Nat → Int32) × (Nat → Int32) × (Nat → Int32)) := if p5 ≤ p1 then (f_M_encode_J230 lk p1 p2 p3 p4 p5 s0 X_side X_found X_encodedBits X_tried X_waiting X_bestError Xblocks_n Xblocks_f Xencoded_n Xencoded_f Xpile_n Xpile_f Xds_f Xrs_f Xbest_n Xbest_f) else (if s0 = 0 then (f_M_encode_J226 lk p1 p2 p3 p4 p5 s0 X_side X_found X_encodedBits X_tried X_waiting X_bestError Xblocks_n Xblocks_f Xencoded_n Xencoded_f Xpile_n Xpile_f Xds_f Xrs_f Xbest_n Xbest_f (0 : Int32)) else (f_M_encode_J226 lk p1 p2 p3 p4 p5 s0 X_side X_found X_encodedBits X_tried X_waiting X_bestError Xblocks_n Xblocks_f Xencoded_n Xencoded_f Xpile_n Xpile_f Xds_f Xrs_f Xbest_n Xbest_f (1 : Int32)))
def f_M_encode_118 (p1 : Int32) (p2 : Int32) (X_side : Int32) (Xpicture_n : Nat) (Xpicture_f : Nat → Int32) (Xhalf_n : Nat) (Xhalf_f : Nat → Int32) (Xblocks_n : Nat) (Xencoded_n : Nat) (Xpile_n : Nat) (Xds_n : Nat) (Xrs_n : Nat) (Xbest_n : Nat) : Nat → Int32 → Int32 → Int32 → Int32 → Int64 → (Nat → Int32) → (Nat → Int32) → (Nat → Int32) → (Nat → Int32) → (Nat → Int32) → (Nat → Int32) → Option (Int32 × Int32 × Int32 × Int32 × Int64 × (Nat → Int32) × (Nat → Int32) × (Nat → Int32) × (Nat → Int32) × (Nat → Int32) × (Nat → Int32))
  | 0, _, _, _, _, _, _, _, _, _, _, _ => none
  | n + 1, X_found, X_encodedBits, X_tried, X_waiting, X_bestError, Xblocks_f, Xencoded_f, Xpile_f, Xds_f, Xrs_f, Xbest_f => if X_waiting ≤ 0 then (some (X_found, X_encodedBits, X_tried, X_waiting, X_bestError, Xblocks_f, Xencoded_f, Xpile_f, Xds_f, Xrs_f, Xbest_f)) else (if ((3 : Int32) * (X_waiting - (1 : Int32))) < 0 ∨ Xpile_n ≤ ((3 : Int32) * (X_waiting - (1 : Int32))).toNatClampNeg then none else (if (((3 : Int32) * (X_waiting - (1 : Int32))) + (1 : Int32)) < 0 ∨ Xpile_n ≤ (((3 : Int32) * (X_waiting - (1 : Int32))) + (1 : Int32)).toNatClampNeg then none else (if (((3 : Int32) * (X_waiting - (1 : Int32))) + (2 : Int32)) < 0 ∨ Xpile_n ≤ (((3 : Int32) * (X_waiting - (1 : Int32))) + (2 : Int32)).toNatClampNeg then none else ((f_M_search (Xpile_f ((3 : Int32) * (X_waiting - (1 : Int32))).toNatClampNeg) (Xpile_f (((3 : Int32) * (X_waiting - (1 : Int32))) + (1 : Int32)).toNatClampNeg) (Xpile_f (((3 : Int32) * (X_waiting - (1 : Int32))) + (2 : Int32)).toNatClampNeg) X_side X_tried X_bestError Xpicture_n Xpicture_f Xhalf_n Xhalf_f Xds_n Xds_f Xrs_n Xrs_f Xbest_n Xbest_f).bind (fun q1045 => if (Xpile_f (((3 : Int32) * (X_waiting - (1 : Int32))) + (2 : Int32)).toNatClampNeg) ≤ p1 then (f_M_encode_J207 (fun (a0 : Int32) (a1 : Int32) (a2 : Int32) (a3 : Int32) (a4 : Int64) (a5 : Nat → Int32) (a6 : Nat → Int32) (a7 : Nat → Int32) (a8 : Nat → Int32) (a9 : Nat → Int32) (a10 : Nat → Int32) => f_M_encode_118 p1 p2 X_side Xpicture_n Xpicture_f Xhalf_n Xhalf_f Xblocks_n Xencoded_n Xpile_n Xds_n Xrs_n Xbest_n n a0 a1 a2 a3 a4 a5 a6 a7 a8 a9 a10) p1 p2 (Xpile_f ((3 : Int32) * (X_waiting - (1 : Int32))).toNatClampNeg) (Xpile_f (((3 : Int32) * (X_waiting - (1 : Int32))) + (1 : Int32)).toNatClampNeg) (Xpile_f (((3 : Int32) * (X_waiting - (1 : Int32))) + (2 : Int32)).toNatClampNeg) X_side X_found X_encodedBits q1045.1 (X_waiting - (1 : Int32)) q1045.2.1 Xblocks_n Xblocks_f Xencoded_n Xencoded_f Xpile_n Xpile_f q1045.2.2.1 q1045.2.2.2.1 Xbest_n q1045.2.2.2.2 (0 : Int32)) else (if (lg_cmp q1045.2.1 p2.toInt64) ≤ 0 then (f_M_encode_J207 (fun (a0 : Int32) (a1 : Int32) (a2 : Int32) (a3 : Int32) (a4 : Int64) (a5 : Nat → Int32) (a6 : Nat → Int32) (a7 : Nat → Int32) (a8 : Nat → Int32) (a9 : Nat → Int32) (a10 : Nat → Int32) => f_M_encode_118 p1 p2 X_side Xpicture_n Xpicture_f Xhalf_n Xhalf_f Xblocks_n Xencoded_n Xpile_n Xds_n Xrs_n Xbest_n n a0 a1 a2 a3 a4 a5 a6 a7 a8 a9 a10) p1 p2 (Xpile_f ((3 : Int32) * (X_waiting - (1 : Int32))).toNatClampNeg) (Xpile_f (((3 : Int32) * (X_waiting - (1 : Int32))) + (1 : Int32)).toNatClampNeg) (Xpile_f (((3 : Int32) * (X_waiting - (1 : Int32))) + (2 : Int32)).toNatClampNeg) X_side X_found X_encodedBits q1045.1 (X_waiting - (1 : Int32)) q1045.2.1 Xblocks_n Xblocks_f Xencoded_n Xencoded_f Xpile_n Xpile_f q1045.2.2.1 q1045.2.2.2.1 Xbest_n q1045.2.2.2.2 (0 : Int32)) else (f_M_encode_J207 (fun (a0 : Int32) (a1 : Int32) (a2 : Int32) (a3 : Int32) (a4 : Int64) (a5 : Nat → Int32) (a6 : Nat → Int32) (a7 : Nat → Int32) (a8 : Nat → Int32) (a9 : Nat → Int32) (a10 : Nat → Int32) => f_M_encode_118 p1 p2 X_side Xpicture_n Xpicture_f Xhalf_n Xhalf_f Xblocks_n Xencoded_n Xpile_n Xds_n Xrs_n Xbest_n n a0 a1 a2 a3 a4 a5 a6 a7 a8 a9 a10) p1 p2 (Xpile_f ((3 : Int32) * (X_waiting - (1 : Int32))).toNatClampNeg) (Xpile_f (((3 : Int32) * (X_waiting - (1 : Int32))) + (1 : Int32)).toNatClampNeg) (Xpile_f (((3 : Int32) * (X_waiting - (1 : Int32))) + (2 : Int32)).toNatClampNeg) X_side X_found X_encodedBits q1045.1 (X_waiting - (1 : Int32)) q1045.2.1 Xblocks_n Xblocks_f Xencoded_n Xencoded_f Xpile_n Xpile_f q1045.2.2.1 q1045.2.2.2.1 Xbest_n q1045.2.2.2.2 (1 : Int32))))))))
def f_M_encode_J104 (p1 : Int32) (p2 : Int32) (X_code : Int32) (X_side : Int32) (X_many : Int32) (X_found : Int32) (X_encodedBits : Int32) (X_tried : Int32) (X_waiting : Int32) (X_bestError : Int64) (Xpicture_n : Nat) (Xpicture_f : Nat → Int32) (Xhalf_n : Nat) (Xhalf_f : Nat → Int32) (Xblocks_n : Nat) (Xblocks_f : Nat → Int32) (Xencoded_n : Nat) (Xencoded_f : Nat → Int32) (Xpile_n : Nat) (Xpile_f : Nat → Int32) (Xds_n : Nat) (Xds_f : Nat → Int32) (Xrs_n : Nat) (Xrs_f : Nat → Int32) (Xbest_n : Nat) (Xbest_f : Nat → Int32) (s0 : Int32) : Option (Int32 × Int32 × Int32 × Int32 × Int32 × Int32 × Int32 × Int64 × (Nat → Int32) × (Nat → Int32) × (Nat → Int32) × (Nat → Int32) × (Nat → Int32) × (Nat → Int32) × (Nat → Int32)) := (f_M_tell s0 (3 : Int32) X_encodedBits Xencoded_n Xencoded_f).bind (fun q1043 => (f_M_pileQuarters (0 : Int32) (0 : Int32) X_side X_waiting Xpile_n Xpile_f).bind (fun q1044 => (f_M_encode_118 p1 p2 X_side Xpicture_n Xpicture_f Xhalf_n Xhalf_f Xblocks_n Xencoded_n Xpile_n Xds_n Xrs_n Xbest_n FU X_found q1043.1 X_tried q1044.1 X_bestError Xblocks_f q1043.2 q1044.2 Xds_f Xrs_f Xbest_f).bind (fun q1063 => (f_M_takeFound q1063.1 Xblocks_n q1063.2.2.2.2.2.1).bind (fun q1075 => some (q1075.1, X_code, q1075.1, q1063.1, q1063.2.1, q1063.2.2.1, q1063.2.2.2.1, q1063.2.2.2.2.1, Xhalf_f, q1075.2, q1063.2.2.2.2.2.2.1, q1063.2.2.2.2.2.2.2.1, q1063.2.2.2.2.2.2.2.2.1, q1063.2.2.2.2.2.2.2.2.2.1, q1063.2.2.2.2.2.2.2.2.2.2)))))
def f_M_encode_J27 (p1 : Int32) (p2 : Int32) (X_code : Int32) (X_side : Int32) (X_many : Int32) (X_found : Int32) (X_encodedBits : Int32) (X_tried : Int32) (X_waiting : Int32) (X_bestError : Int64) (Xpicture_n : Nat) (Xpicture_f : Nat → Int32) (Xhalf_n : Nat) (Xhalf_f : Nat → Int32) (Xblocks_n : Nat) (Xblocks_f : Nat → Int32) (Xencoded_n : Nat) (Xencoded_f : Nat → Int32) (Xpile_n : Nat) (Xpile_f : Nat → Int32) (Xds_n : Nat) (Xds_f : Nat → Int32) (Xrs_n : Nat) (Xrs_f : Nat → Int32) (Xbest_n : Nat) (Xbest_f : Nat → Int32) (s0 : Int32) : Option (Int32 × Int32 × Int32 × Int32 × Int32 × Int32 × Int32 × Int64 × (Nat → Int32) × (Nat → Int32) × (Nat → Int32) × (Nat → Int32) × (Nat → Int32) × (Nat → Int32) × (Nat → Int32)) := if s0 ≤ 0 then ((f_M_halve X_side Xpicture_n Xpicture_f Xhalf_n Xhalf_f).bind (fun q1042 => if p1 = (2 : Int32) then (f_M_encode_J104 p1 p2 s0 X_side X_many (0 : Int32) (0 : Int32) (0 : Int32) (0 : Int32) X_bestError Xpicture_n Xpicture_f Xhalf_n q1042 Xblocks_n Xblocks_f Xencoded_n Xencoded_f Xpile_n Xpile_f Xds_n Xds_f Xrs_n Xrs_f Xbest_n Xbest_f (1 : Int32)) else (if p1 = (4 : Int32) then (f_M_encode_J104 p1 p2 s0 X_side X_many (0 : Int32) (0 : Int32) (0 : Int32) (0 : Int32) X_bestError Xpicture_n Xpicture_f Xhalf_n q1042 Xblocks_n Xblocks_f Xencoded_n Xencoded_f Xpile_n Xpile_f Xds_n Xds_f Xrs_n Xrs_f Xbest_n Xbest_f (2 : Int32)) else (if p1 = (8 : Int32) then (f_M_encode_J104 p1 p2 s0 X_side X_many (0 : Int32) (0 : Int32) (0 : Int32) (0 : Int32) X_bestError Xpicture_n Xpicture_f Xhalf_n q1042 Xblocks_n Xblocks_f Xencoded_n Xencoded_f Xpile_n Xpile_f Xds_n Xds_f Xrs_n Xrs_f Xbest_n Xbest_f (3 : Int32)) else (f_M_encode_J104 p1 p2 s0 X_side X_many (0 : Int32) (0 : Int32) (0 : Int32) (0 : Int32) X_bestError Xpicture_n Xpicture_f Xhalf_n q1042 Xblocks_n Xblocks_f Xencoded_n Xencoded_f Xpile_n Xpile_f Xds_n Xds_f Xrs_n Xrs_f Xbest_n Xbest_f (4 : Int32)))))) else (some ((0 : Int32), s0, X_many, X_found, X_encodedBits, X_tried, X_waiting, X_bestError, Xhalf_f, Xblocks_f, Xencoded_f, Xpile_f, Xds_f, Xrs_f, Xbest_f))
def f_M_encode (x1 : Int32) (x2 : Int32) (X_code : Int32) (X_side : Int32) (X_many : Int32) (X_found : Int32) (X_encodedBits : Int32) (X_tried : Int32) (X_waiting : Int32) (X_bestError : Int64) (Xpicture_n : Nat) (Xpicture_f : Nat → Int32) (Xhalf_n : Nat) (Xhalf_f : Nat → Int32) (Xblocks_n : Nat) (Xblocks_f : Nat → Int32) (Xencoded_n : Nat) (Xencoded_f : Nat → Int32) (Xpile_n : Nat) (Xpile_f : Nat → Int32) (Xds_n : Nat) (Xds_f : Nat → Int32) (Xrs_n : Nat) (Xrs_f : Nat → Int32) (Xbest_n : Nat) (Xbest_f : Nat → Int32) : Option (Int32 × Int32 × Int32 × Int32 × Int32 × Int32 × Int32 × Int64 × (Nat → Int32) × (Nat → Int32) × (Nat → Int32) × (Nat → Int32) × (Nat → Int32) × (Nat → Int32) × (Nat → Int32)) := (f_M_isSize x1).bind (fun q1040 => if q1040 = 0 then (f_M_encode_J27 x1 x2 X_code X_side X_many X_found X_encodedBits X_tried X_waiting X_bestError Xpicture_n Xpicture_f Xhalf_n Xhalf_f Xblocks_n Xblocks_f Xencoded_n Xencoded_f Xpile_n Xpile_f Xds_n Xds_f Xrs_n Xrs_f Xbest_n Xbest_f (1 : Int32)) else (if X_side < ((2 : Int32) * x1) then (f_M_encode_J27 x1 x2 X_code X_side X_many X_found X_encodedBits X_tried X_waiting X_bestError Xpicture_n Xpicture_f Xhalf_n Xhalf_f Xblocks_n Xblocks_f Xencoded_n Xencoded_f Xpile_n Xpile_f Xds_n Xds_f Xrs_n Xrs_f Xbest_n Xbest_f (1 : Int32)) else (if x2 < 0 then (f_M_encode_J27 x1 x2 X_code X_side X_many X_found X_encodedBits X_tried X_waiting X_bestError Xpicture_n Xpicture_f Xhalf_n Xhalf_f Xblocks_n Xblocks_f Xencoded_n Xencoded_f Xpile_n Xpile_f Xds_n Xds_f Xrs_n Xrs_f Xbest_n Xbest_f (1 : Int32)) else (f_M_encode_J27 x1 x2 X_code X_side X_many X_found X_encodedBits X_tried X_waiting X_bestError Xpicture_n Xpicture_f Xhalf_n Xhalf_f Xblocks_n Xblocks_f Xencoded_n Xencoded_f Xpile_n Xpile_f Xds_n Xds_f Xrs_n Xrs_f Xbest_n Xbest_f (0 : Int32)))))
def f_L_put (x1 : Int32) (x2 : Int32) (x3 : Int32) (P_side : Int32) (PA_n : Nat) (PA_f : Nat → Int32) (OUT_n : Nat) (OUT_f : Nat → Int64) : Option (Int32 × (Nat → Int32) × (Nat → Int64)) := (f_F_put x1 x2 x3 P_side PA_n PA_f).bind (fun q1114 => Sum.elim (fun kx => if kx = 1 then (some ((1 : Int32), PA_f, OUT_f)) else (if kx = 2 then (some ((2 : Int32), PA_f, OUT_f)) else (none))) (fun r1 => if (0 : Int32) < 0 ∨ OUT_n ≤ (0 : Int32).toNatClampNeg then none else (some ((0 : Int32), r1.2, (vp_updL OUT_f (0 : Int32).toNatClampNeg r1.1.toInt64)))) q1114)
def f_L_encode (x1 : Int32) (x2 : Int32) (O_side : Int32) (P_side : Int32) (PA_n : Nat) (PA_f : Nat → Int32) (H_mostSide : Int32) (H_side : Int32) (HA_n : Nat) (HA_f : Nat → Int32) (V_left : Int32) (V_top : Int32) (V_start : Int32) (V_stepAcross : Int32) (V_stepDown : Int32) (S_tried : Int32) (S_size : Int32) (S_count : Int32) (S_wantedSum : Int32) (S_foundSum : Int32) (S_foundSquares : Int32) (W_n : Nat) (W_f : Nat → Int32) (D_n : Nat) (D_f : Nat → Int32) (Q_n : Nat) (Q_f : Nat → Int32) (R_n : Nat) (R_f : Nat → Int32) (E_domain : Int32) (E_turn : Int32) (E_contrast : Int32) (E_offset : Int32) (E_error : Int32) (K_count : Int32) (KA_n : Nat) (KA_f : Nat → Int32) (C_filled : Int32) (C_taken : Int32) (CA_n : Nat) (CA_f : Nat → Int32) (OUT_n : Nat) (OUT_f : Nat → Int64) : Option (Int32 × Int32 × (Nat → Int32) × Int32 × Int32 × Int32 × Int32 × Int32 × Int32 × Int32 × Int32 × Int32 × Int32 × Int32 × (Nat → Int32) × (Nat → Int32) × (Nat → Int32) × (Nat → Int32) × Int32 × Int32 × Int32 × Int32 × Int32 × Int32 × (Nat → Int32) × Int32 × Int32 × (Nat → Int32) × (Nat → Int64)) := (f_F_encode x1 x2 O_side P_side PA_n PA_f H_mostSide H_side HA_n HA_f V_left V_top V_start V_stepAcross V_stepDown S_tried S_size S_count S_wantedSum S_foundSum S_foundSquares W_n W_f D_n D_f Q_n Q_f R_n R_f E_domain E_turn E_contrast E_offset E_error K_count KA_n KA_f C_filled CA_n CA_f).bind (fun q1115 => Sum.elim (fun kx => if kx = 2 then (some ((1 : Int32), H_side, HA_f, V_left, V_top, V_start, V_stepAcross, V_stepDown, S_tried, S_size, S_count, S_wantedSum, S_foundSum, S_foundSquares, W_f, D_f, Q_f, R_f, E_domain, E_turn, E_contrast, E_offset, E_error, K_count, KA_f, C_filled, C_taken, CA_f, OUT_f)) else (none)) (fun r1 => if (0 : Int32) < 0 ∨ OUT_n ≤ (0 : Int32).toNatClampNeg then none else (some ((0 : Int32), r1.2.1, r1.2.2.1, r1.2.2.2.1, r1.2.2.2.2.1, r1.2.2.2.2.2.1, r1.2.2.2.2.2.2.1, r1.2.2.2.2.2.2.2.1, r1.2.2.2.2.2.2.2.2.1, r1.2.2.2.2.2.2.2.2.2.1, r1.2.2.2.2.2.2.2.2.2.2.1, r1.2.2.2.2.2.2.2.2.2.2.2.1, r1.2.2.2.2.2.2.2.2.2.2.2.2.1, r1.2.2.2.2.2.2.2.2.2.2.2.2.2.1, r1.2.2.2.2.2.2.2.2.2.2.2.2.2.2.1, r1.2.2.2.2.2.2.2.2.2.2.2.2.2.2.2.1, r1.2.2.2.2.2.2.2.2.2.2.2.2.2.2.2.2.1, r1.2.2.2.2.2.2.2.2.2.2.2.2.2.2.2.2.2.1, r1.2.2.2.2.2.2.2.2.2.2.2.2.2.2.2.2.2.2.1, r1.2.2.2.2.2.2.2.2.2.2.2.2.2.2.2.2.2.2.2.1, r1.2.2.2.2.2.2.2.2.2.2.2.2.2.2.2.2.2.2.2.2.1, r1.2.2.2.2.2.2.2.2.2.2.2.2.2.2.2.2.2.2.2.2.2.1, r1.2.2.2.2.2.2.2.2.2.2.2.2.2.2.2.2.2.2.2.2.2.2.1, r1.2.2.2.2.2.2.2.2.2.2.2.2.2.2.2.2.2.2.2.2.2.2.2.1, r1.2.2.2.2.2.2.2.2.2.2.2.2.2.2.2.2.2.2.2.2.2.2.2.2.1, r1.2.2.2.2.2.2.2.2.2.2.2.2.2.2.2.2.2.2.2.2.2.2.2.2.2.1, r1.2.2.2.2.2.2.2.2.2.2.2.2.2.2.2.2.2.2.2.2.2.2.2.2.2.2.1, r1.2.2.2.2.2.2.2.2.2.2.2.2.2.2.2.2.2.2.2.2.2.2.2.2.2.2.2, (vp_updL OUT_f (0 : Int32).toNatClampNeg r1.1.toInt64)))) q1115)
def f_L_block (x1 : Int32) (x2 : Int32) (K_count : Int32) (KA_n : Nat) (KA_f : Nat → Int32) (OUT_n : Nat) (OUT_f : Nat → Int64) : Option (Int32 × (Nat → Int64)) := (f_F_block x1 x2 K_count KA_n KA_f).bind (fun q1116 => Sum.elim (fun kx => if kx = 1 then (some ((1 : Int32), OUT_f)) else (if kx = 2 then (some ((2 : Int32), OUT_f)) else (none))) (fun r1 => if (0 : Int32) < 0 ∨ OUT_n ≤ (0 : Int32).toNatClampNeg then none else (some ((0 : Int32), (vp_updL OUT_f (0 : Int32).toNatClampNeg r1.toInt64)))) q1116)
def f_L_byteAt (x1 : Int32) (C_filled : Int32) (CA_n : Nat) (CA_f : Nat → Int32) (OUT_n : Nat) (OUT_f : Nat → Int64) : Option (Int32 × (Nat → Int64)) := (f_F_byteAt x1 C_filled CA_n CA_f).bind (fun q1117 => Sum.elim (fun kx => if kx = 1 then (some ((1 : Int32), OUT_f)) else (none)) (fun r1 => if (0 : Int32) < 0 ∨ OUT_n ≤ (0 : Int32).toNatClampNeg then none else (some ((0 : Int32), (vp_updL OUT_f (0 : Int32).toNatClampNeg r1.toInt64)))) q1117)
def f_L_feed (x1 : Int32) (I_filled : Int32) (IA_n : Nat) (IA_f : Nat → Int32) (OUT_n : Nat) (OUT_f : Nat → Int64) : Option (Int32 × Int32 × (Nat → Int32) × (Nat → Int64)) := (f_F_feed x1 I_filled IA_n IA_f).bind (fun q1118 => Sum.elim (fun kx => if kx = 2 then (some ((1 : Int32), I_filled, IA_f, OUT_f)) else (if kx = 4 then (some ((2 : Int32), I_filled, IA_f, OUT_f)) else (none))) (fun r1 => if (0 : Int32) < 0 ∨ OUT_n ≤ (0 : Int32).toNatClampNeg then none else (some ((0 : Int32), r1.2.1, r1.2.2, (vp_updL OUT_f (0 : Int32).toNatClampNeg r1.1.toInt64)))) q1118)
def f_L_pass (C_filled : Int32) (CA_n : Nat) (CA_f : Nat → Int32) (I_filled : Int32) (IA_n : Nat) (IA_f : Nat → Int32) (OUT_n : Nat) (OUT_f : Nat → Int64) : Option (Int32 × Int32 × (Nat → Int32) × (Nat → Int64)) := (f_F_pass C_filled CA_n CA_f I_filled IA_n IA_f).bind (fun q1119 => Sum.elim (fun kx => if kx = 4 then (some ((1 : Int32), I_filled, IA_f, OUT_f)) else (none)) (fun r1 => if (0 : Int32) < 0 ∨ OUT_n ≤ (0 : Int32).toNatClampNeg then none else (some ((0 : Int32), r1.2.1, r1.2.2, (vp_updL OUT_f (0 : Int32).toNatClampNeg r1.1.toInt64)))) q1119)
def f_L_decode (x1 : Int32) (x2 : Int32) (O_side : Int32) (N_mostSide : Int32) (N_side : Int32) (NA_n : Nat) (NA_f : Nat → Int32) (H_mostSide : Int32) (H_side : Int32) (HA_n : Nat) (HA_f : Nat → Int32) (V_left : Int32) (V_top : Int32) (V_start : Int32) (V_stepAcross : Int32) (V_stepDown : Int32) (K_count : Int32) (KA_n : Nat) (KA_f : Nat → Int32) (OUT_n : Nat) (OUT_f : Nat → Int64) : Option (Int32 × Int32 × (Nat → Int32) × Int32 × (Nat → Int32) × Int32 × Int32 × Int32 × Int32 × Int32 × (Nat → Int64)) := (f_F_decode x1 x2 O_side N_mostSide N_side NA_n NA_f H_mostSide H_side HA_n HA_f V_left V_top V_start V_stepAcross V_stepDown K_count KA_n KA_f).bind (fun q1120 => Sum.elim (fun kx => if kx = 2 then (some ((1 : Int32), N_side, NA_f, H_side, HA_f, V_left, V_top, V_start, V_stepAcross, V_stepDown, OUT_f)) else (if kx = 3 then (some ((2 : Int32), N_side, NA_f, H_side, HA_f, V_left, V_top, V_start, V_stepAcross, V_stepDown, OUT_f)) else (none))) (fun r1 => if (0 : Int32) < 0 ∨ OUT_n ≤ (0 : Int32).toNatClampNeg then none else (some ((0 : Int32), r1.2.1, r1.2.2.1, r1.2.2.2.1, r1.2.2.2.2.1, r1.2.2.2.2.2.1, r1.2.2.2.2.2.2.1, r1.2.2.2.2.2.2.2.1, r1.2.2.2.2.2.2.2.2.1, r1.2.2.2.2.2.2.2.2.2, (vp_updL OUT_f (0 : Int32).toNatClampNeg r1.1.toInt64)))) q1120)
def f_L_at (x1 : Int32) (x2 : Int32) (N_side : Int32) (NA_n : Nat) (NA_f : Nat → Int32) (OUT_n : Nat) (OUT_f : Nat → Int64) : Option (Int32 × (Nat → Int64)) := (f_F_at x1 x2 N_side NA_n NA_f).bind (fun q1121 => Sum.elim (fun kx => if kx = 1 then (some ((1 : Int32), OUT_f)) else (none)) (fun r1 => if (0 : Int32) < 0 ∨ OUT_n ≤ (0 : Int32).toNatClampNeg then none else (some ((0 : Int32), (vp_updL OUT_f (0 : Int32).toNatClampNeg r1.toInt64)))) q1121)
def f_L_missed (O_side : Int32) (P_side : Int32) (PA_n : Nat) (PA_f : Nat → Int32) (N_side : Int32) (NA_n : Nat) (NA_f : Nat → Int32) (OUT_n : Nat) (OUT_f : Nat → Int64) : Option (Int32 × (Nat → Int64)) := (f_F_missed O_side P_side PA_n PA_f N_side NA_n NA_f).bind (fun q1122 => Sum.elim (fun kx => if kx = 3 then (some ((1 : Int32), OUT_f)) else (none)) (fun r1 => if (0 : Int32) < 0 ∨ OUT_n ≤ (0 : Int32).toNatClampNeg then none else (some ((0 : Int32), (vp_updL OUT_f (0 : Int32).toNatClampNeg r1)))) q1122)
def f_L_domain (x1 : Int32) (x2 : Int32) (x3 : Int32) (x4 : Int32) (x5 : Int32) (O_side : Int32) (P_side : Int32) (PA_n : Nat) (PA_f : Nat → Int32) (H_mostSide : Int32) (H_side : Int32) (HA_n : Nat) (HA_f : Nat → Int32) (V_left : Int32) (V_top : Int32) (V_start : Int32) (V_stepAcross : Int32) (V_stepDown : Int32) (OUT_n : Nat) (OUT_f : Nat → Int64) : Option (Int32 × Int32 × (Nat → Int32) × Int32 × Int32 × Int32 × Int32 × Int32 × (Nat → Int64)) := (f_F_domain x1 x2 x3 x4 x5 O_side P_side PA_n PA_f H_mostSide H_side HA_n HA_f V_left V_top V_start V_stepAcross V_stepDown).bind (fun q1123 => Sum.elim (fun kx => if kx = 1 then (some ((2 : Int32), H_side, HA_f, V_left, V_top, V_start, V_stepAcross, V_stepDown, OUT_f)) else (if kx = 2 then (some ((1 : Int32), H_side, HA_f, V_left, V_top, V_start, V_stepAcross, V_stepDown, OUT_f)) else (none))) (fun r1 => if (0 : Int32) < 0 ∨ OUT_n ≤ (0 : Int32).toNatClampNeg then none else (some ((0 : Int32), r1.2.1, r1.2.2.1, r1.2.2.2.1, r1.2.2.2.2.1, r1.2.2.2.2.2.1, r1.2.2.2.2.2.2.1, r1.2.2.2.2.2.2.2, (vp_updL OUT_f (0 : Int32).toNatClampNeg r1.1.toInt64)))) q1123)
def f_L_kind (x1 : Int32) (x2 : Int32) (x3 : Int32) (O_side : Int32) (P_side : Int32) (PA_n : Nat) (PA_f : Nat → Int32) (OUT_n : Nat) (OUT_f : Nat → Int64) : Option (Int32 × (Nat → Int64)) := (f_F_kind x1 x2 x3 O_side P_side PA_n PA_f).bind (fun q1124 => Sum.elim (fun kx => if kx = 1 then (some ((2 : Int32), OUT_f)) else (if kx = 2 then (some ((1 : Int32), OUT_f)) else (none))) (fun r1 => if (0 : Int32) < 0 ∨ OUT_n ≤ (0 : Int32).toNatClampNeg then none else (some ((0 : Int32), (vp_updL OUT_f (0 : Int32).toNatClampNeg r1.toInt64)))) q1124)
def f_LW_0 (a1 : Int32) (a2 : Int32) (a3 : Int32) (P_side : Int32) (PA_n : Nat) (PA_f : Nat → Int32) (X_code : Int32) (X_side : Int32) (Xpicture_n : Nat) (Xpicture_f : Nat → Int32) (OUT_n : Nat) (OUT_f : Nat → Int64) : Option ((Nat → Int32) × Int32 × (Nat → Int32) × (Nat → Int64)) := (f_L_put a1 a2 a3 P_side PA_n PA_f OUT_n OUT_f).bind (fun q1125 => (f_M_put a1 a2 a3 X_code X_side Xpicture_n Xpicture_f).bind (fun q1126 => (f_M_thrown q1126.2.1).bind (fun q1127 => if q1127 = q1125.1 then (if q1125.1 = 0 then (if (0 : Int32) < 0 ∨ OUT_n ≤ (0 : Int32).toNatClampNeg then none else (if (lg_cmp (q1125.2.2 (0 : Int32).toNatClampNeg) q1126.1.toInt64) = 0 then (some (q1125.2.1, q1126.2.1, q1126.2.2, q1125.2.2)) else (none))) else (some (q1125.2.1, q1126.2.1, q1126.2.2, q1125.2.2))) else (none))))
def f_LW_1 (a1 : Int32) (a2 : Int32) (a3 : Int32) (O_side : Int32) (P_side : Int32) (PA_n : Nat) (PA_f : Nat → Int32) (X_code : Int32) (X_side : Int32) (Xpicture_n : Nat) (Xpicture_f : Nat → Int32) : Option ((Nat → Int32) × Int32 × (Nat → Int32)) := (f_F_paint a1 a2 a3 O_side P_side PA_n PA_f).bind (fun q1129 => (f_M_paint a1 a2 a3 X_side Xpicture_n Xpicture_f).bind (fun q1130 => if q1129.1 = q1130.1 then (some (q1129.2, q1130.2.1, q1130.2.2)) else (none)))
def f_LW_2 (a1 : Int32) (a2 : Int32) (O_side : Int32) (P_side : Int32) (PA_n : Nat) (PA_f : Nat → Int32) (H_mostSide : Int32) (H_side : Int32) (HA_n : Nat) (HA_f : Nat → Int32) (V_left : Int32) (V_top : Int32) (V_start : Int32) (V_stepAcross : Int32) (V_stepDown : Int32) (S_tried : Int32) (S_size : Int32) (S_count : Int32) (S_wantedSum : Int32) (S_foundSum : Int32) (S_foundSquares : Int32) (W_n : Nat) (W_f : Nat → Int32) (D_n : Nat) (D_f : Nat → Int32) (Q_n : Nat) (Q_f : Nat → Int32) (R_n : Nat) (R_f : Nat → Int32) (E_domain : Int32) (E_turn : Int32) (E_contrast : Int32) (E_offset : Int32) (E_error : Int32) (K_count : Int32) (KA_n : Nat) (KA_f : Nat → Int32) (C_filled : Int32) (C_taken : Int32) (CA_n : Nat) (CA_f : Nat → Int32) (X_code : Int32) (X_side : Int32) (X_many : Int32) (X_found : Int32) (X_encodedBits : Int32) (X_tried : Int32) (X_waiting : Int32) (X_bestError : Int64) (Xpicture_n : Nat) (Xpicture_f : Nat → Int32) (Xhalf_n : Nat) (Xhalf_f : Nat → Int32) (Xblocks_n : Nat) (Xblocks_f : Nat → Int32) (Xencoded_n : Nat) (Xencoded_f : Nat → Int32) (Xpile_n : Nat) (Xpile_f : Nat → Int32) (Xds_n : Nat) (Xds_f : Nat → Int32) (Xrs_n : Nat) (Xrs_f : Nat → Int32) (Xbest_n : Nat) (Xbest_f : Nat → Int32) (OUT_n : Nat) (OUT_f : Nat → Int64) : Option (Int32 × (Nat → Int32) × Int32 × Int32 × Int32 × Int32 × Int32 × Int32 × Int32 × Int32 × Int32 × Int32 × Int32 × (Nat → Int32) × (Nat → Int32) × (Nat → Int32) × (Nat → Int32) × Int32 × Int32 × Int32 × Int32 × Int32 × Int32 × (Nat → Int32) × Int32 × Int32 × (Nat → Int32) × Int32 × Int32 × Int32 × Int32 × Int32 × Int32 × Int64 × (Nat → Int32) × (Nat → Int32) × (Nat → Int32) × (Nat → Int32) × (Nat → Int32) × (Nat → Int32) × (Nat → Int32) × (Nat → Int64)) := (f_L_encode a1 a2 O_side P_side PA_n PA_f H_mostSide H_side HA_n HA_f V_left V_top V_start V_stepAcross V_stepDown S_tried S_size S_count S_wantedSum S_foundSum S_foundSquares W_n W_f D_n D_f Q_n Q_f R_n R_f E_domain E_turn E_contrast E_offset E_error K_count KA_n KA_f C_filled C_taken CA_n CA_f OUT_n OUT_f).bind (fun q1131 => (f_M_encode a1 a2 X_code X_side X_many X_found X_encodedBits X_tried X_waiting X_bestError Xpicture_n Xpicture_f Xhalf_n Xhalf_f Xblocks_n Xblocks_f Xencoded_n Xencoded_f Xpile_n Xpile_f Xds_n Xds_f Xrs_n Xrs_f Xbest_n Xbest_f).bind (fun q1132 => (f_M_thrown q1132.2.1).bind (fun q1133 => if q1133 = q1131.1 then (if q1131.1 = 0 then (if (0 : Int32) < 0 ∨ OUT_n ≤ (0 : Int32).toNatClampNeg then none else (if (lg_cmp (q1131.2.2.2.2.2.2.2.2.2.2.2.2.2.2.2.2.2.2.2.2.2.2.2.2.2.2.2.2 (0 : Int32).toNatClampNeg) q1132.1.toInt64) = 0 then (some (q1131.2.1, q1131.2.2.1, q1131.2.2.2.1, q1131.2.2.2.2.1, q1131.2.2.2.2.2.1, q1131.2.2.2.2.2.2.1, q1131.2.2.2.2.2.2.2.1, q1131.2.2.2.2.2.2.2.2.1, q1131.2.2.2.2.2.2.2.2.2.1, q1131.2.2.2.2.2.2.2.2.2.2.1, q1131.2.2.2.2.2.2.2.2.2.2.2.1, q1131.2.2.2.2.2.2.2.2.2.2.2.2.1, q1131.2.2.2.2.2.2.2.2.2.2.2.2.2.1, q1131.2.2.2.2.2.2.2.2.2.2.2.2.2.2.1, q1131.2.2.2.2.2.2.2.2.2.2.2.2.2.2.2.1, q1131.2.2.2.2.2.2.2.2.2.2.2.2.2.2.2.2.1, q1131.2.2.2.2.2.2.2.2.2.2.2.2.2.2.2.2.2.1, q1131.2.2.2.2.2.2.2.2.2.2.2.2.2.2.2.2.2.2.1, q1131.2.2.2.2.2.2.2.2.2.2.2.2.2.2.2.2.2.2.2.1, q1131.2.2.2.2.2.2.2.2.2.2.2.2.2.2.2.2.2.2.2.2.1, q1131.2.2.2.2.2.2.2.2.2.2.2.2.2.2.2.2.2.2.2.2.2.1, q1131.2.2.2.2.2.2.2.2.2.2.2.2.2.2.2.2.2.2.2.2.2.2.1, q1131.2.2.2.2.2.2.2.2.2.2.2.2.2.2.2.2.2.2.2.2.2.2.2.1, q1131.2.2.2.2.2.2.2.2.2.2.2.2.2.2.2.2.2.2.2.2.2.2.2.2.1, q1131.2.2.2.2.2.2.2.2.2.2.2.2.2.2.2.2.2.2.2.2.2.2.2.2.2.1, q1131.2.2.2.2.2.2.2.2.2.2.2.2.2.2.2.2.2.2.2.2.2.2.2.2.2.2.1, q1131.2.2.2.2.2.2.2.2.2.2.2.2.2.2.2.2.2.2.2.2.2.2.2.2.2.2.2.1, q1132.2.1, q1132.2.2.1, q1132.2.2.2.1, q1132.2.2.2.2.1, q1132.2.2.2.2.2.1, q1132.2.2.2.2.2.2.1, q1132.2.2.2.2.2.2.2.1, q1132.2.2.2.2.2.2.2.2.1, q1132.2.2.2.2.2.2.2.2.2.1, q1132.2.2.2.2.2.2.2.2.2.2.1, q1132.2.2.2.2.2.2.2.2.2.2.2.1, q1132.2.2.2.2.2.2.2.2.2.2.2.2.1, q1132.2.2.2.2.2.2.2.2.2.2.2.2.2.1, q1132.2.2.2.2.2.2.2.2.2.2.2.2.2.2, q1131.2.2.2.2.2.2.2.2.2.2.2.2.2.2.2.2.2.2.2.2.2.2.2.2.2.2.2.2)) else (none))) else (some (q1131.2.1, q1131.2.2.1, q1131.2.2.2.1, q1131.2.2.2.2.1, q1131.2.2.2.2.2.1, q1131.2.2.2.2.2.2.1, q1131.2.2.2.2.2.2.2.1, q1131.2.2.2.2.2.2.2.2.1, q1131.2.2.2.2.2.2.2.2.2.1, q1131.2.2.2.2.2.2.2.2.2.2.1, q1131.2.2.2.2.2.2.2.2.2.2.2.1, q1131.2.2.2.2.2.2.2.2.2.2.2.2.1, q1131.2.2.2.2.2.2.2.2.2.2.2.2.2.1, q1131.2.2.2.2.2.2.2.2.2.2.2.2.2.2.1, q1131.2.2.2.2.2.2.2.2.2.2.2.2.2.2.2.1, q1131.2.2.2.2.2.2.2.2.2.2.2.2.2.2.2.2.1, q1131.2.2.2.2.2.2.2.2.2.2.2.2.2.2.2.2.2.1, q1131.2.2.2.2.2.2.2.2.2.2.2.2.2.2.2.2.2.2.1, q1131.2.2.2.2.2.2.2.2.2.2.2.2.2.2.2.2.2.2.2.1, q1131.2.2.2.2.2.2.2.2.2.2.2.2.2.2.2.2.2.2.2.2.1, q1131.2.2.2.2.2.2.2.2.2.2.2.2.2.2.2.2.2.2.2.2.2.1, q1131.2.2.2.2.2.2.2.2.2.2.2.2.2.2.2.2.2.2.2.2.2.2.1, q1131.2.2.2.2.2.2.2.2.2.2.2.2.2.2.2.2.2.2.2.2.2.2.2.1, q1131.2.2.2.2.2.2.2.2.2.2.2.2.2.2.2.2.2.2.2.2.2.2.2.2.1, q1131.2.2.2.2.2.2.2.2.2.2.2.2.2.2.2.2.2.2.2.2.2.2.2.2.2.1, q1131.2.2.2.2.2.2.2.2.2.2.2.2.2.2.2.2.2.2.2.2.2.2.2.2.2.2.1, q1131.2.2.2.2.2.2.2.2.2.2.2.2.2.2.2.2.2.2.2.2.2.2.2.2.2.2.2.1, q1132.2.1, q1132.2.2.1, q1132.2.2.2.1, q1132.2.2.2.2.1, q1132.2.2.2.2.2.1, q1132.2.2.2.2.2.2.1, q1132.2.2.2.2.2.2.2.1, q1132.2.2.2.2.2.2.2.2.1, q1132.2.2.2.2.2.2.2.2.2.1, q1132.2.2.2.2.2.2.2.2.2.2.1, q1132.2.2.2.2.2.2.2.2.2.2.2.1, q1132.2.2.2.2.2.2.2.2.2.2.2.2.1, q1132.2.2.2.2.2.2.2.2.2.2.2.2.2.1, q1132.2.2.2.2.2.2.2.2.2.2.2.2.2.2, q1131.2.2.2.2.2.2.2.2.2.2.2.2.2.2.2.2.2.2.2.2.2.2.2.2.2.2.2.2))) else (none))))
def f_LW_3 (a1 : Int32) (a2 : Int32) (K_count : Int32) (KA_n : Nat) (KA_f : Nat → Int32) (X_code : Int32) (X_many : Int32) (Xblocks_n : Nat) (Xblocks_f : Nat → Int32) (OUT_n : Nat) (OUT_f : Nat → Int64) : Option (Int32 × (Nat → Int64)) := (f_L_block a1 a2 K_count KA_n KA_f OUT_n OUT_f).bind (fun q1135 => (f_M_block a1 a2 X_code X_many Xblocks_n Xblocks_f).bind (fun q1136 => (f_M_thrown q1136.2).bind (fun q1137 => if q1137 = q1135.1 then (if q1135.1 = 0 then (if (0 : Int32) < 0 ∨ OUT_n ≤ (0 : Int32).toNatClampNeg then none else (if (lg_cmp (q1135.2 (0 : Int32).toNatClampNeg) q1136.1.toInt64) = 0 then (some (q1136.2, q1135.2)) else (none))) else (some (q1136.2, q1135.2))) else (none))))
def f_LW_4 (a1 : Int32) (C_filled : Int32) (CA_n : Nat) (CA_f : Nat → Int32) (X_code : Int32) (X_encodedBits : Int32) (Xencoded_n : Nat) (Xencoded_f : Nat → Int32) (OUT_n : Nat) (OUT_f : Nat → Int64) : Option (Int32 × (Nat → Int64)) := (f_L_byteAt a1 C_filled CA_n CA_f OUT_n OUT_f).bind (fun q1139 => (f_M_byteAt a1 X_code X_encodedBits Xencoded_n Xencoded_f).bind (fun q1140 => (f_M_thrown q1140.2).bind (fun q1141 => if q1141 = q1139.1 then (if q1139.1 = 0 then (if (0 : Int32) < 0 ∨ OUT_n ≤ (0 : Int32).toNatClampNeg then none else (if (lg_cmp (q1139.2 (0 : Int32).toNatClampNeg) q1140.1.toInt64) = 0 then (some (q1140.2, q1139.2)) else (none))) else (some (q1140.2, q1139.2))) else (none))))
def f_LW_5 (a1 : Int32) (I_filled : Int32) (IA_n : Nat) (IA_f : Nat → Int32) (X_code : Int32) (X_fedMany : Int32) (Xfed_n : Nat) (Xfed_f : Nat → Int32) (OUT_n : Nat) (OUT_f : Nat → Int64) : Option (Int32 × (Nat → Int32) × Int32 × Int32 × (Nat → Int32) × (Nat → Int64)) := (f_L_feed a1 I_filled IA_n IA_f OUT_n OUT_f).bind (fun q1143 => (f_M_feed a1 X_code X_fedMany Xfed_n Xfed_f).bind (fun q1144 => (f_M_thrown q1144.2.1).bind (fun q1145 => if q1145 = q1143.1 then (if q1143.1 = 0 then (if (0 : Int32) < 0 ∨ OUT_n ≤ (0 : Int32).toNatClampNeg then none else (if (lg_cmp (q1143.2.2.2 (0 : Int32).toNatClampNeg) q1144.1.toInt64) = 0 then (some (q1143.2.1, q1143.2.2.1, q1144.2.1, q1144.2.2.1, q1144.2.2.2, q1143.2.2.2)) else (none))) else (some (q1143.2.1, q1143.2.2.1, q1144.2.1, q1144.2.2.1, q1144.2.2.2, q1143.2.2.2))) else (none))))
def f_LW_6 (C_filled : Int32) (CA_n : Nat) (CA_f : Nat → Int32) (I_filled : Int32) (IA_n : Nat) (IA_f : Nat → Int32) (X_code : Int32) (X_encodedBits : Int32) (X_fedMany : Int32) (Xencoded_n : Nat) (Xencoded_f : Nat → Int32) (Xfed_n : Nat) (Xfed_f : Nat → Int32) (OUT_n : Nat) (OUT_f : Nat → Int64) : Option (Int32 × (Nat → Int32) × Int32 × Int32 × (Nat → Int32) × (Nat → Int64)) := (f_L_pass C_filled CA_n CA_f I_filled IA_n IA_f OUT_n OUT_f).bind (fun q1147 => (f_M_pass X_code X_encodedBits X_fedMany Xencoded_n Xencoded_f Xfed_n Xfed_f).bind (fun q1148 => (f_M_thrown q1148.2.1).bind (fun q1149 => if q1149 = q1147.1 then (if q1147.1 = 0 then (if (0 : Int32) < 0 ∨ OUT_n ≤ (0 : Int32).toNatClampNeg then none else (if (lg_cmp (q1147.2.2.2 (0 : Int32).toNatClampNeg) q1148.1.toInt64) = 0 then (some (q1147.2.1, q1147.2.2.1, q1148.2.1, q1148.2.2.1, q1148.2.2.2, q1147.2.2.2)) else (none))) else (some (q1147.2.1, q1147.2.2.1, q1148.2.1, q1148.2.2.1, q1148.2.2.2, q1147.2.2.2))) else (none))))
def f_LW_7 (O_side : Int32) (K_count : Int32) (KA_n : Nat) (KA_f : Nat → Int32) (T_domain : Int32) (T_turn : Int32) (T_contrast : Int32) (T_offset : Int32) (T_error : Int32) (I_filled : Int32) (I_taken : Int32) (IA_n : Nat) (IA_f : Nat → Int32) (X_code : Int32) (X_side : Int32) (X_many : Int32) (X_found : Int32) (X_fedMany : Int32) (X_readAt : Int32) (X_why : Int32) (X_waiting : Int32) (Xblocks_n : Nat) (Xblocks_f : Nat → Int32) (Xfed_n : Nat) (Xfed_f : Nat → Int32) (Xpile_n : Nat) (Xpile_f : Nat → Int32) (Xbest_n : Nat) (Xbest_f : Nat → Int32) : Option (Int32 × (Nat → Int32) × Int32 × Int32 × Int32 × Int32 × Int32 × Int32 × Int32 × Int32 × Int32 × Int32 × Int32 × Int32 × Int32 × Int32 × (Nat → Int32) × (Nat → Int32) × (Nat → Int32)) := (f_F_read O_side K_count KA_n KA_f T_domain T_turn T_contrast T_offset T_error I_filled I_taken IA_n IA_f).bind (fun q1151 => (f_M_read X_side X_many X_found X_fedMany X_readAt X_why X_waiting Xblocks_n Xblocks_f Xfed_n Xfed_f Xpile_n Xpile_f Xbest_n Xbest_f).bind (fun q1152 => if q1151.1 = q1152.1 then (some (q1151.2.1, q1151.2.2.1, q1151.2.2.2.1, q1151.2.2.2.2.1, q1151.2.2.2.2.2.1, q1151.2.2.2.2.2.2.1, q1151.2.2.2.2.2.2.2.1, q1151.2.2.2.2.2.2.2.2.1, q1151.2.2.2.2.2.2.2.2.2, q1152.2.1, q1152.2.2.1, q1152.2.2.2.1, q1152.2.2.2.2.1, q1152.2.2.2.2.2.1, q1152.2.2.2.2.2.2.1, q1152.2.2.2.2.2.2.2.1, q1152.2.2.2.2.2.2.2.2.1, q1152.2.2.2.2.2.2.2.2.2.1, q1152.2.2.2.2.2.2.2.2.2.2)) else (none)))
def f_LW_8 (a1 : Int32) (a2 : Int32) (O_side : Int32) (N_mostSide : Int32) (N_side : Int32) (NA_n : Nat) (NA_f : Nat → Int32) (H_mostSide : Int32) (H_side : Int32) (HA_n : Nat) (HA_f : Nat → Int32) (V_left : Int32) (V_top : Int32) (V_start : Int32) (V_stepAcross : Int32) (V_stepDown : Int32) (K_count : Int32) (KA_n : Nat) (KA_f : Nat → Int32) (X_code : Int32) (X_side : Int32) (X_many : Int32) (X_decoded : Int32) (Xblocks_n : Nat) (Xblocks_f : Nat → Int32) (Xnews_n : Nat) (Xnews_f : Nat → Int32) (Xolds_n : Nat) (Xolds_f : Nat → Int32) (Xhalves_n : Nat) (Xhalves_f : Nat → Int32) (OUT_n : Nat) (OUT_f : Nat → Int64) : Option (Int32 × (Nat → Int32) × Int32 × (Nat → Int32) × Int32 × Int32 × Int32 × Int32 × Int32 × Int32 × Int32 × (Nat → Int32) × (Nat → Int32) × (Nat → Int32) × (Nat → Int64)) := (f_L_decode a1 a2 O_side N_mostSide N_side NA_n NA_f H_mostSide H_side HA_n HA_f V_left V_top V_start V_stepAcross V_stepDown K_count KA_n KA_f OUT_n OUT_f).bind (fun q1153 => (f_M_decode a1 a2 X_code X_side X_many X_decoded Xblocks_n Xblocks_f Xnews_n Xnews_f Xolds_n Xolds_f Xhalves_n Xhalves_f).bind (fun q1154 => (f_M_thrown q1154.2.1).bind (fun q1155 => if q1155 = q1153.1 then (if q1153.1 = 0 then (if (0 : Int32) < 0 ∨ OUT_n ≤ (0 : Int32).toNatClampNeg then none else (if (lg_cmp (q1153.2.2.2.2.2.2.2.2.2.2 (0 : Int32).toNatClampNeg) q1154.1.toInt64) = 0 then (some (q1153.2.1, q1153.2.2.1, q1153.2.2.2.1, q1153.2.2.2.2.1, q1153.2.2.2.2.2.1, q1153.2.2.2.2.2.2.1, q1153.2.2.2.2.2.2.2.1, q1153.2.2.2.2.2.2.2.2.1, q1153.2.2.2.2.2.2.2.2.2.1, q1154.2.1, q1154.2.2.1, q1154.2.2.2.1, q1154.2.2.2.2.1, q1154.2.2.2.2.2, q1153.2.2.2.2.2.2.2.2.2.2)) else (none))) else (some (q1153.2.1, q1153.2.2.1, q1153.2.2.2.1, q1153.2.2.2.2.1, q1153.2.2.2.2.2.1, q1153.2.2.2.2.2.2.1, q1153.2.2.2.2.2.2.2.1, q1153.2.2.2.2.2.2.2.2.1, q1153.2.2.2.2.2.2.2.2.2.1, q1154.2.1, q1154.2.2.1, q1154.2.2.2.1, q1154.2.2.2.2.1, q1154.2.2.2.2.2, q1153.2.2.2.2.2.2.2.2.2.2))) else (none))))
def f_LW_9 (a1 : Int32) (a2 : Int32) (N_side : Int32) (NA_n : Nat) (NA_f : Nat → Int32) (X_code : Int32) (X_decoded : Int32) (Xnews_n : Nat) (Xnews_f : Nat → Int32) (OUT_n : Nat) (OUT_f : Nat → Int64) : Option (Int32 × (Nat → Int64)) := (f_L_at a1 a2 N_side NA_n NA_f OUT_n OUT_f).bind (fun q1157 => (f_M_at a1 a2 X_code X_decoded Xnews_n Xnews_f).bind (fun q1158 => (f_M_thrown q1158.2).bind (fun q1159 => if q1159 = q1157.1 then (if q1157.1 = 0 then (if (0 : Int32) < 0 ∨ OUT_n ≤ (0 : Int32).toNatClampNeg then none else (if (lg_cmp (q1157.2 (0 : Int32).toNatClampNeg) q1158.1.toInt64) = 0 then (some (q1158.2, q1157.2)) else (none))) else (some (q1158.2, q1157.2))) else (none))))
def f_LW_10 (O_side : Int32) (P_side : Int32) (PA_n : Nat) (PA_f : Nat → Int32) (N_side : Int32) (NA_n : Nat) (NA_f : Nat → Int32) (X_code : Int32) (X_side : Int32) (X_decoded : Int32) (Xpicture_n : Nat) (Xpicture_f : Nat → Int32) (Xnews_n : Nat) (Xnews_f : Nat → Int32) (OUT_n : Nat) (OUT_f : Nat → Int64) : Option (Int32 × (Nat → Int64)) := (f_L_missed O_side P_side PA_n PA_f N_side NA_n NA_f OUT_n OUT_f).bind (fun q1161 => (f_M_missed X_code X_side X_decoded Xpicture_n Xpicture_f Xnews_n Xnews_f).bind (fun q1162 => (f_M_thrown q1162.2).bind (fun q1163 => if q1163 = q1161.1 then (if q1161.1 = 0 then (if (0 : Int32) < 0 ∨ OUT_n ≤ (0 : Int32).toNatClampNeg then none else (if (lg_cmp (q1161.2 (0 : Int32).toNatClampNeg) q1162.1) = 0 then (some (q1162.2, q1161.2)) else (none))) else (some (q1162.2, q1161.2))) else (none))))
def f_LW_11 (a1 : Int32) (a2 : Int32) (a3 : Int32) (a4 : Int32) (a5 : Int32) (O_side : Int32) (P_side : Int32) (PA_n : Nat) (PA_f : Nat → Int32) (H_mostSide : Int32) (H_side : Int32) (HA_n : Nat) (HA_f : Nat → Int32) (V_left : Int32) (V_top : Int32) (V_start : Int32) (V_stepAcross : Int32) (V_stepDown : Int32) (X_code : Int32) (X_side : Int32) (Xpicture_n : Nat) (Xpicture_f : Nat → Int32) (Xhalf_n : Nat) (Xhalf_f : Nat → Int32) (Xds_n : Nat) (Xds_f : Nat → Int32) (OUT_n : Nat) (OUT_f : Nat → Int64) : Option (Int32 × (Nat → Int32) × Int32 × Int32 × Int32 × Int32 × Int32 × Int32 × (Nat → Int32) × (Nat → Int32) × (Nat → Int64)) := (f_L_domain a1 a2 a3 a4 a5 O_side P_side PA_n PA_f H_mostSide H_side HA_n HA_f V_left V_top V_start V_stepAcross V_stepDown OUT_n OUT_f).bind (fun q1165 => (f_M_domain a1 a2 a3 a4 a5 X_code X_side Xpicture_n Xpicture_f Xhalf_n Xhalf_f Xds_n Xds_f).bind (fun q1166 => (f_M_thrown q1166.2.1).bind (fun q1167 => if q1167 = q1165.1 then (if q1165.1 = 0 then (if (0 : Int32) < 0 ∨ OUT_n ≤ (0 : Int32).toNatClampNeg then none else (if (lg_cmp (q1165.2.2.2.2.2.2.2.2 (0 : Int32).toNatClampNeg) q1166.1.toInt64) = 0 then (some (q1165.2.1, q1165.2.2.1, q1165.2.2.2.1, q1165.2.2.2.2.1, q1165.2.2.2.2.2.1, q1165.2.2.2.2.2.2.1, q1165.2.2.2.2.2.2.2.1, q1166.2.1, q1166.2.2.1, q1166.2.2.2, q1165.2.2.2.2.2.2.2.2)) else (none))) else (some (q1165.2.1, q1165.2.2.1, q1165.2.2.2.1, q1165.2.2.2.2.1, q1165.2.2.2.2.2.1, q1165.2.2.2.2.2.2.1, q1165.2.2.2.2.2.2.2.1, q1166.2.1, q1166.2.2.1, q1166.2.2.2, q1165.2.2.2.2.2.2.2.2))) else (none))))
def f_LW_12 (a1 : Int32) (a2 : Int32) (a3 : Int32) (O_side : Int32) (P_side : Int32) (PA_n : Nat) (PA_f : Nat → Int32) (X_code : Int32) (X_side : Int32) (Xpicture_n : Nat) (Xpicture_f : Nat → Int32) (Xrs_n : Nat) (Xrs_f : Nat → Int32) (OUT_n : Nat) (OUT_f : Nat → Int64) : Option (Int32 × (Nat → Int32) × (Nat → Int64)) := (f_L_kind a1 a2 a3 O_side P_side PA_n PA_f OUT_n OUT_f).bind (fun q1169 => (f_M_kind a1 a2 a3 X_code X_side Xpicture_n Xpicture_f Xrs_n Xrs_f).bind (fun q1170 => (f_M_thrown q1170.2.1).bind (fun q1171 => if q1171 = q1169.1 then (if q1169.1 = 0 then (if (0 : Int32) < 0 ∨ OUT_n ≤ (0 : Int32).toNatClampNeg then none else (if (lg_cmp (q1169.2 (0 : Int32).toNatClampNeg) q1170.1.toInt64) = 0 then (some (q1170.2.1, q1170.2.2, q1169.2)) else (none))) else (some (q1170.2.1, q1170.2.2, q1169.2))) else (none))))
def f_LW_13 (S_tried : Int32) (X_code : Int32) (X_tried : Int32) : Option (Int32) := (f_F_tried S_tried).bind (fun q1173 => (f_M_tried X_tried).bind (fun q1175 => if q1173 = q1175.1 then (some q1175.2) else (none)))
def f_LW_14 (a1 : Int32) (O_side : Int32) (N_side : Int32) (K_count : Int32) (C_filled : Int32) (I_filled : Int32) (X_code : Int32) (X_side : Int32) (X_many : Int32) (X_encodedBits : Int32) (X_fedMany : Int32) (X_decoded : Int32) : Option (Int32) := (f_F_told a1 O_side N_side K_count C_filled I_filled).bind (fun q1176 => (f_M_told a1 X_side X_many X_encodedBits X_fedMany X_decoded).bind (fun q1178 => if q1176 = q1178.1 then (some q1178.2) else (none)))
def f_LW_15 (O_side : Int32) (P_mostSide : Int32) (P_side : Int32) (PA_n : Nat) (PA_f : Nat → Int32) (N_mostSide : Int32) (N_side : Int32) (NA_n : Nat) (NA_f : Nat → Int32) (S_tried : Int32) (K_count : Int32) (C_filled : Int32) (C_taken : Int32) (I_filled : Int32) (I_taken : Int32) (X_code : Int32) (X_many : Int32) (X_encodedBits : Int32) (X_fedMany : Int32) (X_tried : Int32) (X_decoded : Int32) (Xpicture_n : Nat) (Xpicture_f : Nat → Int32) : Option (Int32 × (Nat → Int32) × Int32 × (Nat → Int32) × Int32 × Int32 × Int32 × Int32 × Int32 × Int32 × Int32 × Int32 × Int32 × Int32 × Int32 × Int32 × (Nat → Int32)) := (f_F_clear O_side P_mostSide PA_n PA_f N_mostSide NA_n NA_f).bind (fun q1179 => (f_M_clear Xpicture_n Xpicture_f).bind (fun q1180 => some (q1179.1, q1179.2.1, q1179.2.2.1, q1179.2.2.2.1, q1179.2.2.2.2.1, q1179.2.2.2.2.2.1, q1179.2.2.2.2.2.2.1, q1179.2.2.2.2.2.2.2.1, q1179.2.2.2.2.2.2.2.2.1, q1179.2.2.2.2.2.2.2.2.2, q1180.1, q1180.2.1, q1180.2.2.1, q1180.2.2.2.1, q1180.2.2.2.2.1, q1180.2.2.2.2.2.1, q1180.2.2.2.2.2.2)))
end
section
/-! numbers: an Int32 that is not below 0 by a Nat -/
theorem nJ_of (n : Nat) : nI n = Int32.ofNat n := rfl
theorem nJ_int (n : Nat) : nI n = Int32.ofInt (n : Int) := Int32.ofInt_eq_ofNat.symm
theorem nJ_toInt {n : Nat} (h : n < 2147483648) : (nI n).toInt = (n : Int) := by rw [nJ_int]; exact Int32.toInt_ofInt_of_le (by omega) (by omega)
theorem nJ_add (a b : Nat) : nI a + nI b = nI (a + b) := (Int32.ofNat_add a b).symm
theorem nJ_mul (a b : Nat) : nI a * nI b = nI (a * b) := by rw [nJ_int, nJ_int, nJ_int, Int.natCast_mul, Int32.ofInt_mul]
theorem nJ_sub {a b : Nat} (h : b ≤ a) : nI a - nI b = nI (a - b) := by
  rw [nJ_int, nJ_int, nJ_int, Int.ofNat_sub h, Int32.ofInt_sub]
theorem nJ_leT {a b : Nat} (h : a ≤ b) (hb : b < 2147483648) : (nI a ≤ nI b) = True := by
  rw [eq_iff_iff, Int32.le_iff_toInt_le, nJ_toInt hb, nJ_toInt (by omega)]; simp; omega
theorem nJ_leF {a b : Nat} (h : b < a) (hb : a < 2147483648) : (nI a ≤ nI b) = False := by
  rw [eq_iff_iff, Int32.le_iff_toInt_le, nJ_toInt hb, nJ_toInt (by omega)]; simp; omega
theorem nJ_ltT {a b : Nat} (h : a < b) (hb : b < 2147483648) : (nI a < nI b) = True := by
  rw [eq_iff_iff, Int32.lt_iff_toInt_lt, nJ_toInt hb, nJ_toInt (by omega)]; simp; omega
theorem nJ_ltF {a b : Nat} (h : b ≤ a) (hb : a < 2147483648) : (nI a < nI b) = False := by
  rw [eq_iff_iff, Int32.lt_iff_toInt_lt, nJ_toInt hb, nJ_toInt (by omega)]; simp; omega
theorem nJ_inj {a b : Nat} (h : nI a = nI b) (ha : a < 2147483648) (hb : b < 2147483648) : a = b := by
  have := congrArg Int32.toInt h
  rw [nJ_toInt ha, nJ_toInt hb] at this; omega
theorem nJ_eqT {a b : Nat} (h : a = b) : (nI a = nI b) = True := by simp [h]
theorem nJ_eqF {a b : Nat} (h : a ≠ b) (ha : a < 2147483648) (hb : b < 2147483648) : (nI a = nI b) = False := by
  rw [eq_iff_iff]; constructor
  · intro e; exact h (nJ_inj e ha hb)
  · exact False.elim
theorem nJ_clamp {a : Nat} (h : a < 2147483648) : (nI a).toNatClampNeg = a := Int32.toNatClampNeg_ofNat_of_lt h
theorem nJ_div {a b : Nat} (ha : a < 2147483648) (hb : b < 2147483648) : nI a / nI b = nI (a / b) := by
  apply Int32.toInt_inj.mp
  rw [Int32.toInt_div, nJ_toInt ha, nJ_toInt hb, nJ_toInt (Nat.lt_of_le_of_lt (Nat.div_le_self a b) ha)]
  rw [← Int.ofNat_tdiv]
  have : a / b ≤ a := Nat.div_le_self a b
  generalize a / b = c at this ⊢
  rw [Int.bmod_eq_of_le] <;> omega
/-- minus one -/
def iM : Int32 := -1
theorem nM : -nI 1 = iM := rfl
theorem iM_toInt : iM.toInt = -1 := by decide
theorem iM_eqF {a : Nat} (h : a < 2147483648) : (nI a = iM) = False := by
  rw [eq_iff_iff]; constructor
  · intro e
    have := congrArg Int32.toInt e
    rw [nJ_toInt h, iM_toInt] at this
    omega
  · exact False.elim
theorem iM_eqF2 {a : Nat} (h : a < 2147483648) : (iM = nI a) = False := by
  rw [eq_iff_iff]; exact ⟨fun e => cast (iM_eqF h) e.symm, False.elim⟩
theorem iM_leF {a : Nat} (h : a < 2147483648) : (nI a ≤ iM) = False := by
  rw [eq_iff_iff, Int32.le_iff_toInt_le, nJ_toInt h, iM_toInt]; simp <;> omega
theorem iM_ltF {a : Nat} (h : a < 2147483648) : (nI a < iM) = False := by
  rw [eq_iff_iff, Int32.lt_iff_toInt_lt, nJ_toInt h, iM_toInt]; simp <;> omega
theorem iM_leT {a : Nat} (h : a < 2147483648) : (iM ≤ nI a) = True := by
  rw [eq_iff_iff, Int32.le_iff_toInt_le, nJ_toInt h, iM_toInt]; simp <;> omega
theorem iM_ltT {a : Nat} (h : a < 2147483648) : (iM < nI a) = True := by
  rw [eq_iff_iff, Int32.lt_iff_toInt_lt, nJ_toInt h, iM_toInt]; simp <;> omega
theorem iM_add {a : Nat} (h : 1 ≤ a) : nI a + iM = nI (a - 1) := by
  have : nI a + iM = nI a - nI 1 := by rw [← nM]; exact (Int32.sub_eq_add_neg ..).symm
  rw [this, nJ_sub h]
theorem iM_add0 : nI 0 + iM = iM := by decide
theorem natLeF {a b : Nat} (h : b < a) : (a ≤ b) = False := by simp; omega
theorem natLeT {a b : Nat} (h : a ≤ b) : (a ≤ b) = True := by simp; omega
theorem natLtF {a b : Nat} (h : b ≤ a) : (a < b) = False := by simp; omega
theorem natLtT {a b : Nat} (h : a < b) : (a < b) = True := by simp; omega
theorem natEqF {a b : Nat} (h : a ≠ b) : (a = b) = False := by simp; omega
theorem natEqT {a b : Nat} (h : a = b) : (a = b) = True := by simp; omega
theorem n0 : (0 : Int32) = nI 0 := rfl
theorem n1 : (1 : Int32) = nI 1 := rfl
theorem n2 : (2 : Int32) = nI 2 := rfl
theorem n3 : (3 : Int32) = nI 3 := rfl
theorem n4 : (4 : Int32) = nI 4 := rfl
theorem n5 : (5 : Int32) = nI 5 := rfl
theorem n6 : (6 : Int32) = nI 6 := rfl
theorem n7 : (7 : Int32) = nI 7 := rfl
theorem n8 : (8 : Int32) = nI 8 := rfl
theorem n10 : (10 : Int32) = nI 10 := rfl
theorem n16 : (16 : Int32) = nI 16 := rfl
theorem n40 : (40 : Int32) = nI 40 := rfl
theorem n128 : (128 : Int32) = nI 128 := rfl
theorem n255 : (255 : Int32) = nI 255 := rfl
theorem n256 : (256 : Int32) = nI 256 := rfl
theorem n1024 : (1024 : Int32) = nI 1024 := rfl
theorem n2000 : (2000 : Int32) = nI 2000 := rfl
theorem n2048 : (2048 : Int32) = nI 2048 := rfl
/-- an Int32 is below 0 or a Nat -/
theorem nJ_case (x : Int32) : x < 0 ∨ ∃ n : Nat, n < 2147483648 ∧ x = nI n := by
  by_cases h : x < 0
  · exact Or.inl h
  · refine Or.inr ⟨x.toInt.toNat, ?_, ?_⟩
    · have := x.toInt_lt; omega
    · have h2 : 0 ≤ x.toInt := by
        rw [Int32.lt_iff_toInt_lt] at h
        have e : (0 : Int32).toInt = 0 := rfl
        omega
      apply Int32.toInt_inj.mp
      have := x.toInt_lt
      rw [nJ_toInt (by omega)]; omega
theorem neg_lt {x : Int32} (h : x < 0) (n : Nat) (hn : n < 2147483648) : x < nI n := by
  rw [Int32.lt_iff_toInt_lt] at h ⊢
  rw [nJ_toInt hn]
  have e : (0 : Int32).toInt = 0 := rfl
  omega
theorem fu {b : Nat} (h : b ≤ 1048575) : b < FU := by unfold FU; omega
/-- a loop that counts up -/
theorem lp_up {σ ρ : Type} (L : Nat → σ → Nat → Option ρ) (st : Nat → σ) (b : Nat) (fin : ρ)
    (h0 : ∀ n, L (n + 1) (st b) b = some fin) (h1 : ∀ n v, v < b → L (n + 1) (st v) v = L n (st (v + 1)) (v + 1)) :
    ∀ n v, v ≤ b → b - v < n → L n (st v) v = some fin := by
  intro n
  induction n with
  | zero => intro v _ h; omega
  | succ n ih =>
    intro v hv h
    by_cases e : v = b
    · subst e; exact h0 n
    · rw [h1 n v (by omega)]; exact ih (v + 1) (by omega) (by omega)
/-- sums -/
def sN (g : Nat → Nat) : Nat → Nat
  | 0 => 0
  | n + 1 => sN g n + g n
def sQ (g : Nat → Nat → Nat) (w h : Nat) : Nat := sN (fun y => sN (fun x => g x y) w) h
theorem sN_congr {g h : Nat → Nat} {n : Nat} (e : ∀ k, k < n → g k = h k) : sN g n = sN h n := by
  induction n with
  | zero => rfl
  | succ n ih => rw [sN, sN, ih (fun k hk => e k (by omega)), e n (by omega)]
theorem sN_add (g h : Nat → Nat) (n : Nat) : sN (fun k => g k + h k) n = sN g n + sN h n := by
  induction n with
  | zero => rfl
  | succ n ih => simp only [sN, ih]; omega
theorem sN_le {g : Nat → Nat} {n c : Nat} (e : ∀ k, k < n → g k ≤ c) : sN g n ≤ n * c := by
  induction n with
  | zero => exact Nat.zero_le _
  | succ n ih =>
    have h1 := ih (fun k hk => e k (by omega)); have h2 := e n (by omega)
    rw [sN, Nat.succ_mul]; omega
theorem sN_zero (n : Nat) : sN (fun _ => 0) n = 0 := by
  induction n with
  | zero => rfl
  | succ n ih => rw [sN, ih]
theorem sN_split (g : Nat → Nat) (a b : Nat) : sN g (a + b) = sN g a + sN (fun k => g (a + k)) b := by
  induction b with
  | zero => rfl
  | succ b ih => rw [← Nat.add_assoc, sN, ih, sN]; omega
theorem sN_first (g : Nat → Nat) (n : Nat) : sN g (n + 1) = g 0 + sN (fun k => g (k + 1)) n := by
  induction n with
  | zero => simp [sN]
  | succ n ih => rw [sN, ih, sN]; omega
theorem sN_rev (g : Nat → Nat) (n : Nat) : sN (fun k => g (n - 1 - k)) n = sN g n := by
  induction n with
  | zero => rfl
  | succ n ih =>
    rw [sN_first]
    have : sN (fun k => g (n + 1 - 1 - (k + 1))) n = sN (fun k => g (n - 1 - k)) n := sN_congr (fun k hk => by congr 1; omega)
    rw [this, ih, sN]; simp <;> omega
theorem sQ_congr {g h : Nat → Nat → Nat} {w k : Nat} (e : ∀ x y, x < w → y < k → g x y = h x y) : sQ g w k = sQ h w k :=
  sN_congr (fun y hy => sN_congr (fun x hx => e x y hx hy))
theorem sQ_swap (g : Nat → Nat → Nat) (w h : Nat) : sQ g w h = sQ (fun x y => g y x) h w := by
  unfold sQ
  induction h with
  | zero =>
    rw [sN]
    exact ((sN_congr (fun k _ => rfl)).trans (sN_zero w)).symm
  | succ h ih =>
    rw [sN, ih, ← sN_add]; rfl
theorem sQ_revX (g : Nat → Nat → Nat) (w h : Nat) : sQ (fun x y => g (w - 1 - x) y) w h = sQ g w h :=
  sN_congr (fun y _ => sN_rev (fun x => g x y) w)
theorem sQ_revY (g : Nat → Nat → Nat) (w h : Nat) : sQ (fun x y => g x (h - 1 - y)) w h = sQ g w h :=
  sN_rev (fun y => sN (fun x => g x y) w) h
/-- a sum by rows is the sum by running number -/
theorem sN_rows (g : Nat → Nat) (w h : Nat) : sN g (w * h) = sQ (fun x y => g (y * w + x)) w h := by
  unfold sQ
  induction h with
  | zero => rfl
  | succ h ih =>
    rw [Nat.mul_succ, sN_split, ih, sN]
    congr 1
    exact sN_congr (fun k _ => by rw [Nat.mul_comm])
theorem ix {x y s : Nat} (hx : x < s) (hy : y < s) : y * s + x < s * s :=
  calc y * s + x < y * s + s := by omega
    _ = (y + 1) * s := (Nat.succ_mul y s).symm
    _ ≤ s * s := Nat.mul_le_mul_right s hy
theorem sq64 {s : Nat} (h : s ≤ 64) : s * s ≤ 4096 := Nat.mul_le_mul h h
theorem upd_eq (f : Nat → Int32) (k : Nat) (x : Int32) : upd f k x k = x := by simp [upd]
theorem upd_ne (f : Nat → Int32) (k : Nat) (x : Int32) {j : Nat} (h : j ≠ k) : upd f k x j = f j := by simp [upd, h]
/-- an array whose first k cells are new -/
def wr (old : Nat → Int32) (new : Nat → Int32) (k : Nat) : Nat → Int32 := fun i => if i < k then new i else old i
theorem wr0 (old new : Nat → Int32) : wr old new 0 = old := by funext i; simp [wr]
theorem wrS (old new : Nat → Int32) (k : Nat) : upd (wr old new k) k (new k) = wr old new (k + 1) := by
  funext i
  unfold upd wr
  by_cases e : i = k
  · subst e; simp
  · by_cases h : i < k
    · simp [e, h, show i < k + 1 by omega]
    · simp [e, h, show ¬ i < k + 1 by omega]
theorem wr_lt {old new : Nat → Int32} {k i : Nat} (h : i < k) : wr old new k i = new i := by simp [wr, h]
theorem wr_ge {old new : Nat → Int32} {k i : Nat} (h : k ≤ i) : wr old new k i = old i := by simp [wr, show ¬ i < k by omega]
end
section
/-! Grid: the class's pictures -/
theorem l_G_has {x y s : Nat} (hs : s ≤ 64) (hx : x < s) (hy : y < s) : f_G_has (nI x) (nI y) (nI s) = some 1 := by
  unfold f_G_has
  simp (disch := omega) only [n0, n1, n2, n3, n4, n5, n6, n7, n8, n10, n16, n40, n128, n255, n256, n1024, n2000, n2048, nJ_add, nJ_mul, nJ_sub, nJ_leT, nJ_leF, nJ_ltT, nJ_ltF, nJ_eqT, nJ_eqF, nJ_clamp, nJ_div, nM, iM_eqF, iM_eqF2, iM_leF, iM_ltF, iM_leT, iM_ltT, iM_add, iM_add0, natLeF, natLeT, natLtF, natLtT, natEqF, natEqT, if_true, if_false, ite_true, ite_false, false_or, or_false, or_self, Option.bind_some, ↓reduceIte]
theorem l_G_sample {x y s n : Nat} {f : Nat → Int32} (hs : s ≤ 64) (hx : x < s) (hy : y < s) (hn : s * s ≤ n) : f_G_sample (nI x) (nI y) (nI s) n f = some (f (y * s + x)) := by
  unfold f_G_sample
  have h1 := ix hx hy
  have h2 := sq64 hs
  simp (disch := omega) only [n0, n1, n2, n3, n4, n5, n6, n7, n8, n10, n16, n40, n128, n255, n256, n1024, n2000, n2048, nJ_add, nJ_mul, nJ_sub, nJ_leT, nJ_leF, nJ_ltT, nJ_ltF, nJ_eqT, nJ_eqF, nJ_clamp, nJ_div, nM, iM_eqF, iM_eqF2, iM_leF, iM_ltF, iM_leT, iM_ltT, iM_add, iM_add0, natLeF, natLeT, natLtF, natLtT, natEqF, natEqT, if_true, if_false, ite_true, ite_false, false_or, or_false, or_self, Option.bind_some, ↓reduceIte]
theorem l_G_set {x y s n : Nat} {f : Nat → Int32} {v : Int32} (hs : s ≤ 64) (hx : x < s) (hy : y < s) (hn : s * s ≤ n) : f_G_set (nI x) (nI y) v (nI s) n f = some (upd f (y * s + x) v) := by
  unfold f_G_set
  have h1 := ix hx hy
  have h2 := sq64 hs
  rw [l_G_has hs hx hy]
  simp (disch := omega) only [n0, n1, n2, n3, n4, n5, n6, n7, n8, n10, n16, n40, n128, n255, n256, n1024, n2000, n2048, nJ_add, nJ_mul, nJ_sub, nJ_leT, nJ_leF, nJ_ltT, nJ_ltF, nJ_eqT, nJ_eqF, nJ_clamp, nJ_div, nM, iM_eqF, iM_eqF2, iM_leF, iM_ltF, iM_leT, iM_ltT, iM_add, iM_add0, natLeF, natLeT, natLtF, natLtT, natEqF, natEqT, if_true, if_false, ite_true, ite_false, false_or, or_false, or_self, Option.bind_some, ↓reduceIte]
/-- out of the picture -/
theorem l_G_hasnt {x y : Int32} {s : Nat} (hs : s ≤ 64) (h : ¬ ∃ a b : Nat, a < s ∧ b < s ∧ x = nI a ∧ y = nI b) : f_G_has x y (nI s) = some 0 := by
  unfold f_G_has
  by_cases h1 : x < 0
  · rw [if_pos h1]
  · rw [if_neg h1]
    obtain h1' | ⟨a, ha, rfl⟩ := nJ_case x
    · exact absurd h1' h1
    by_cases h2 : a < s
    · by_cases h3 : y < 0
      · rw [if_pos h3]; split <;> rfl
      · rw [if_neg h3]
        obtain h3' | ⟨b, hb, rfl⟩ := nJ_case y
        · exact absurd h3' h3
        by_cases h4 : b < s
        · exact absurd ⟨a, b, h2, h4, rfl, rfl⟩ h
        · simp (disch := omega) only [n0, n1, n2, n3, n4, n5, n6, n7, n8, n10, n16, n40, n128, n255, n256, n1024, n2000, n2048, nJ_add, nJ_mul, nJ_sub, nJ_leT, nJ_leF, nJ_ltT, nJ_ltF, nJ_eqT, nJ_eqF, nJ_clamp, nJ_div, nM, iM_eqF, iM_eqF2, iM_leF, iM_ltF, iM_leT, iM_ltT, iM_add, iM_add0, natLeF, natLeT, natLtF, natLtT, natEqF, natEqT, if_true, if_false, ite_true, ite_false, false_or, or_false, or_self, Option.bind_some, ↓reduceIte]
    · simp (disch := omega) only [n0, n1, n2, n3, n4, n5, n6, n7, n8, n10, n16, n40, n128, n255, n256, n1024, n2000, n2048, nJ_add, nJ_mul, nJ_sub, nJ_leT, nJ_leF, nJ_ltT, nJ_ltF, nJ_eqT, nJ_eqF, nJ_clamp, nJ_div, nM, iM_eqF, iM_eqF2, iM_leF, iM_ltF, iM_leT, iM_ltT, iM_add, iM_add0, natLeF, natLeT, natLtF, natLtT, natEqF, natEqT, if_true, if_false, ite_true, ite_false, false_or, or_false, or_self, Option.bind_some, ↓reduceIte]
section
variable (left top size s n : Nat) (f : Nat → Int32) (p : Nat → Nat)
/-- a sum in a square -/
def sqS (p : Nat → Nat) (s left top size : Nat) : Nat := sQ (fun x y => p ((top + y) * s + (left + x))) size size
theorem l_G_sum_15 {left top size s n y : Nat} {f : Nat → Int32} {p : Nat → Nat} (hs : s ≤ 64) (hl : left + size ≤ s) (ht : top + size ≤ s) (hn : s * s ≤ n) (hf : ∀ k, k < s * s → f k = nI (p k)) (hy : y < size) (a : Nat) :
    f_G_sum_15 (nI left) (nI top) (nI size) (nI y) (nI s) n f FU (nI a) 0 = some (nI (a + sN (fun x => p ((top + y) * s + (left + x))) size), nI size) := by
  have key := lp_up (L := fun n' (a : Nat) v => f_G_sum_15 (nI left) (nI top) (nI size) (nI y) (nI s) n f n' (nI a) (nI v)) (st := fun v => a + sN (fun x => p ((top + y) * s + (left + x))) v) (b := size) (fin := (nI (a + sN (fun x => p ((top + y) * s + (left + x))) size), nI size))
    (fun n' => by
      show f_G_sum_15 _ _ _ _ _ _ _ (n' + 1) _ _ = _
      rw [f_G_sum_15]
      simp (disch := omega) only [n0, n1, n2, n3, n4, n5, n6, n7, n8, n10, n16, n40, n128, n255, n256, n1024, n2000, n2048, nJ_add, nJ_mul, nJ_sub, nJ_leT, nJ_leF, nJ_ltT, nJ_ltF, nJ_eqT, nJ_eqF, nJ_clamp, nJ_div, nM, iM_eqF, iM_eqF2, iM_leF, iM_ltF, iM_leT, iM_ltT, iM_add, iM_add0, natLeF, natLeT, natLtF, natLtT, natEqF, natEqT, if_true, if_false, ite_true, ite_false, false_or, or_false, or_self, Option.bind_some, ↓reduceIte])
    (fun n' v hv => by
      show f_G_sum_15 _ _ _ _ _ _ _ (n' + 1) _ _ = f_G_sum_15 _ _ _ _ _ _ _ n' _ _
      rw [f_G_sum_15]
      have h2 : left + v < s := by omega
      have h3 : top + y < s := by omega
      have h1 := ix h2 h3
      simp (disch := omega) only [n0, n1, n2, n3, n4, n5, n6, n7, n8, n10, n16, n40, n128, n255, n256, n1024, n2000, n2048, nJ_add, nJ_mul, nJ_sub, nJ_leT, nJ_leF, nJ_ltT, nJ_ltF, nJ_eqT, nJ_eqF, nJ_clamp, nJ_div, nM, iM_eqF, iM_eqF2, iM_leF, iM_ltF, iM_leT, iM_ltT, iM_add, iM_add0, natLeF, natLeT, natLtF, natLtT, natEqF, natEqT, if_true, if_false, ite_true, ite_false, false_or, or_false, or_self, Option.bind_some, ↓reduceIte]
      rw [l_G_sample hs h2 h3 hn, hf _ h1]
      simp (disch := omega) only [n0, n1, n2, n3, n4, n5, n6, n7, n8, n10, n16, n40, n128, n255, n256, n1024, n2000, n2048, nJ_add, nJ_mul, nJ_sub, nJ_leT, nJ_leF, nJ_ltT, nJ_ltF, nJ_eqT, nJ_eqF, nJ_clamp, nJ_div, nM, iM_eqF, iM_eqF2, iM_leF, iM_ltF, iM_leT, iM_ltT, iM_add, iM_add0, natLeF, natLeT, natLtF, natLtT, natEqF, natEqT, if_true, if_false, ite_true, ite_false, false_or, or_false, or_self, Option.bind_some, ↓reduceIte, sN, Nat.add_assoc])
    FU 0 (Nat.zero_le _) (fu (by omega))
  exact key
theorem l_G_sum {left top size s n : Nat} {f : Nat → Int32} {p : Nat → Nat} (hs : s ≤ 64) (hl : left + size ≤ s) (ht : top + size ≤ s) (hn : s * s ≤ n) (hf : ∀ k, k < s * s → f k = nI (p k)) :
    f_G_sum (nI left) (nI top) (nI size) (nI s) n f = some (nI (sqS p s left top size)) := by
  have key := lp_up (L := fun n' (a : Nat) v => f_G_sum_6 (nI left) (nI top) (nI size) (nI s) n f n' (nI a) (nI v)) (st := fun v => sQ (fun x y => p ((top + y) * s + (left + x))) size v) (b := size) (fin := (nI (sqS p s left top size), nI size))
    (fun n' => by
      show f_G_sum_6 _ _ _ _ _ _ (n' + 1) _ _ = _
      rw [f_G_sum_6]
      simp (disch := omega) only [n0, n1, n2, n3, n4, n5, n6, n7, n8, n10, n16, n40, n128, n255, n256, n1024, n2000, n2048, nJ_add, nJ_mul, nJ_sub, nJ_leT, nJ_leF, nJ_ltT, nJ_ltF, nJ_eqT, nJ_eqF, nJ_clamp, nJ_div, nM, iM_eqF, iM_eqF2, iM_leF, iM_ltF, iM_leT, iM_ltT, iM_add, iM_add0, natLeF, natLeT, natLtF, natLtT, natEqF, natEqT, if_true, if_false, ite_true, ite_false, false_or, or_false, or_self, Option.bind_some, ↓reduceIte]
      rfl)
    (fun n' v hv => by
      show f_G_sum_6 _ _ _ _ _ _ (n' + 1) _ _ = f_G_sum_6 _ _ _ _ _ _ n' _ _
      rw [f_G_sum_6, l_G_sum_15 hs hl ht hn hf hv]
      simp (disch := omega) only [n0, n1, n2, n3, n4, n5, n6, n7, n8, n10, n16, n40, n128, n255, n256, n1024, n2000, n2048, nJ_add, nJ_mul, nJ_sub, nJ_leT, nJ_leF, nJ_ltT, nJ_ltF, nJ_eqT, nJ_eqF, nJ_clamp, nJ_div, nM, iM_eqF, iM_eqF2, iM_leF, iM_ltF, iM_leT, iM_ltT, iM_add, iM_add0, natLeF, natLeT, natLtF, natLtT, natEqF, natEqT, if_true, if_false, ite_true, ite_false, false_or, or_false, or_self, Option.bind_some, ↓reduceIte]
      rfl)
    FU 0 (Nat.zero_le _) (fu (by omega))
  have key : f_G_sum_6 (nI left) (nI top) (nI size) (nI s) n f FU (0 : Int32) (0 : Int32) = some (nI (sqS p s left top size), nI size) := key
  unfold f_G_sum
  rw [key]
  rfl
end
/-- halving -/
def hlf (p : Nat → Nat) (s k : Nat) : Nat := (p (2 * (k / (s / 2)) * s + 2 * (k % (s / 2))) + p (2 * (k / (s / 2)) * s + 2 * (k % (s / 2)) + 1) + p (2 * (k / (s / 2)) * s + 2 * (k % (s / 2)) + s) + p (2 * (k / (s / 2)) * s + 2 * (k % (s / 2)) + s + 1) + 2) / 4
theorem rowOf {x y w : Nat} (hx : x < w) : (y * w + x) / w = y ∧ (y * w + x) % w = x := by
  have hw : 0 < w := by omega
  constructor
  · rw [Nat.mul_comm, Nat.mul_add_div hw, Nat.div_eq_of_lt hx]; omega
  · rw [Nat.mul_comm, Nat.mul_add_mod, Nat.mod_eq_of_lt hx]
theorem hlf_sum {p : Nat → Nat} {s x y w : Nat} (hw : s / 2 = w) (hx : x < w) : (sqS p s (2 * x) (2 * y) 2 + 2) / 4 = hlf p s (y * w + x) := by
  unfold hlf sqS sQ
  obtain ⟨e1, e2⟩ := rowOf (y := y) hx
  rw [hw, e1, e2]
  simp only [sN]
  have a1 : (2 * y + 0) * s + (2 * x + 0) = 2 * y * s + 2 * x := by simp
  have a2 : (2 * y + 0) * s + (2 * x + 1) = 2 * y * s + 2 * x + 1 := by simp; omega
  have a3 : (2 * y + 1) * s + (2 * x + 0) = 2 * y * s + 2 * x + s := by rw [Nat.add_mul]; omega
  have a4 : (2 * y + 1) * s + (2 * x + 1) = 2 * y * s + 2 * x + s + 1 := by rw [Nat.add_mul]; omega
  rw [a1, a2, a3, a4]
  congr 1; omega
theorem sqS_le {p : Nat → Nat} {s left top size c : Nat} (hl : left + size ≤ s) (ht : top + size ≤ s) (hp : ∀ k, k < s * s → p k ≤ c) : sqS p s left top size ≤ size * (size * c) := by
  unfold sqS sQ
  refine sN_le (fun y hy => sN_le (fun x hx => hp _ (ix (by omega) (by omega))))
theorem l_G_half_29 {s w m n y : Nat} {f g : Nat → Int32} {p : Nat → Nat} (hs : s ≤ 64) (hw : s / 2 = w) (hy : y < w) (hn : s * s ≤ n) (hm : w * w ≤ m) (hf : ∀ k, k < s * s → f k = nI (p k)) (hp : ∀ k, k < s * s → p k ≤ 255) :
    f_G_becomeHalfOf_29 (nI y) (nI w) m (nI s) n f FU 0 (wr g (fun k => nI (hlf p s k)) (y * w)) = some (nI w, wr g (fun k => nI (hlf p s k)) ((y + 1) * w)) := by
  have key := lp_up (L := fun n' (h : Nat → Int32) v => f_G_becomeHalfOf_29 (nI y) (nI w) m (nI s) n f n' (nI v) h) (st := fun v => wr g (fun k => nI (hlf p s k)) (y * w + v)) (b := w) (fin := (nI w, wr g (fun k => nI (hlf p s k)) ((y + 1) * w)))
    (fun n' => by
      show f_G_becomeHalfOf_29 _ _ _ _ _ _ (n' + 1) _ _ = _
      rw [f_G_becomeHalfOf_29]
      simp (disch := omega) only [n0, n1, n2, n3, n4, n5, n6, n7, n8, n10, n16, n40, n128, n255, n256, n1024, n2000, n2048, nJ_add, nJ_mul, nJ_sub, nJ_leT, nJ_leF, nJ_ltT, nJ_ltF, nJ_eqT, nJ_eqF, nJ_clamp, nJ_div, nM, iM_eqF, iM_eqF2, iM_leF, iM_ltF, iM_leT, iM_ltT, iM_add, iM_add0, natLeF, natLeT, natLtF, natLtT, natEqF, natEqT, if_true, if_false, ite_true, ite_false, false_or, or_false, or_self, Option.bind_some, ↓reduceIte, Nat.succ_mul])
    (fun n' v hv => by
      show f_G_becomeHalfOf_29 _ _ _ _ _ _ (n' + 1) _ _ = f_G_becomeHalfOf_29 _ _ _ _ _ _ n' _ _
      rw [f_G_becomeHalfOf_29]
      simp (disch := omega) only [n0, n1, n2, n3, n4, n5, n6, n7, n8, n10, n16, n40, n128, n255, n256, n1024, n2000, n2048, nJ_add, nJ_mul, nJ_sub, nJ_leT, nJ_leF, nJ_ltT, nJ_ltF, nJ_eqT, nJ_eqF, nJ_clamp, nJ_div, nM, iM_eqF, iM_eqF2, iM_leF, iM_ltF, iM_leT, iM_ltT, iM_add, iM_add0, natLeF, natLeT, natLtF, natLtT, natEqF, natEqT, if_true, if_false, ite_true, ite_false, false_or, or_false, or_self, Option.bind_some, ↓reduceIte]
      rw [l_G_sum hs (by omega) (by omega) hn hf]
      have hb := sqS_le (p := p) (s := s) (left := 2 * v) (top := 2 * y) (size := 2) (by omega) (by omega) hp
      simp (disch := omega) only [n0, n1, n2, n3, n4, n5, n6, n7, n8, n10, n16, n40, n128, n255, n256, n1024, n2000, n2048, nJ_add, nJ_mul, nJ_sub, nJ_leT, nJ_leF, nJ_ltT, nJ_ltF, nJ_eqT, nJ_eqF, nJ_clamp, nJ_div, nM, iM_eqF, iM_eqF2, iM_leF, iM_ltF, iM_leT, iM_ltT, iM_add, iM_add0, natLeF, natLeT, natLtF, natLtT, natEqF, natEqT, if_true, if_false, ite_true, ite_false, false_or, or_false, or_self, Option.bind_some, ↓reduceIte]
      rw [hlf_sum hw hv, l_G_set (by omega) hv hy hm, wrS _ (fun k => nI (hlf p s k))]
      simp (disch := omega) only [n0, n1, n2, n3, n4, n5, n6, n7, n8, n10, n16, n40, n128, n255, n256, n1024, n2000, n2048, nJ_add, nJ_mul, nJ_sub, nJ_leT, nJ_leF, nJ_ltT, nJ_ltF, nJ_eqT, nJ_eqF, nJ_clamp, nJ_div, nM, iM_eqF, iM_eqF2, iM_leF, iM_ltF, iM_leT, iM_ltT, iM_add, iM_add0, natLeF, natLeT, natLtF, natLtT, natEqF, natEqT, if_true, if_false, ite_true, ite_false, false_or, or_false, or_self, Option.bind_some, ↓reduceIte, Nat.add_assoc])
    FU 0 (Nat.zero_le _) (fu (by omega))
  exact key
theorem l_G_half {s w m n q : Nat} {f g : Nat → Int32} {p : Nat → Nat} {G : Int32} (hs : s ≤ 64) (hw : s / 2 = w) (hn : s * s ≤ n) (hm : w * w ≤ m) (hq : w ≤ q) (hq2 : q ≤ 64) (hf : ∀ k, k < s * s → f k = nI (p k)) (hp : ∀ k, k < s * s → p k ≤ 255) :
    f_G_becomeHalfOf (nI q) G m g (nI s) n f = some (nI w, wr g (fun k => nI (hlf p s k)) (w * w)) := by
  have key := lp_up (L := fun n' (h : Nat → Int32) v => f_G_becomeHalfOf_19 (nI w) m (nI s) n f n' (nI v) h) (st := fun v => wr g (fun k => nI (hlf p s k)) (v * w)) (b := w) (fin := (nI w, wr g (fun k => nI (hlf p s k)) (w * w)))
    (fun n' => by
      show f_G_becomeHalfOf_19 _ _ _ _ _ (n' + 1) _ _ = _
      rw [f_G_becomeHalfOf_19]
      simp (disch := omega) only [n0, n1, n2, n3, n4, n5, n6, n7, n8, n10, n16, n40, n128, n255, n256, n1024, n2000, n2048, nJ_add, nJ_mul, nJ_sub, nJ_leT, nJ_leF, nJ_ltT, nJ_ltF, nJ_eqT, nJ_eqF, nJ_clamp, nJ_div, nM, iM_eqF, iM_eqF2, iM_leF, iM_ltF, iM_leT, iM_ltT, iM_add, iM_add0, natLeF, natLeT, natLtF, natLtT, natEqF, natEqT, if_true, if_false, ite_true, ite_false, false_or, or_false, or_self, Option.bind_some, ↓reduceIte])
    (fun n' v hv => by
      show f_G_becomeHalfOf_19 _ _ _ _ _ (n' + 1) _ _ = f_G_becomeHalfOf_19 _ _ _ _ _ n' _ _
      rw [f_G_becomeHalfOf_19, l_G_half_29 hs hw hv hn hm hf hp]
      simp (disch := omega) only [n0, n1, n2, n3, n4, n5, n6, n7, n8, n10, n16, n40, n128, n255, n256, n1024, n2000, n2048, nJ_add, nJ_mul, nJ_sub, nJ_leT, nJ_leF, nJ_ltT, nJ_ltF, nJ_eqT, nJ_eqF, nJ_clamp, nJ_div, nM, iM_eqF, iM_eqF2, iM_leF, iM_ltF, iM_leT, iM_ltT, iM_add, iM_add0, natLeF, natLeT, natLtF, natLtT, natEqF, natEqT, if_true, if_false, ite_true, ite_false, false_or, or_false, or_self, Option.bind_some, ↓reduceIte])
    FU 0 (Nat.zero_le _) (fu (by omega))
  have key : f_G_becomeHalfOf_19 (nI w) m (nI s) n f FU 0 (wr g (fun k => nI (hlf p s k)) (0 * w)) = some (nI w, wr g (fun k => nI (hlf p s k)) (w * w)) := key
  rw [Nat.zero_mul, wr0] at key
  unfold f_G_becomeHalfOf
  have e : (if nI q < nI s / 2 then nI q else nI s / 2) = nI w := by
    simp (disch := omega) only [n0, n1, n2, n3, n4, n5, n6, n7, n8, n10, n16, n40, n128, n255, n256, n1024, n2000, n2048, nJ_add, nJ_mul, nJ_sub, nJ_leT, nJ_leF, nJ_ltT, nJ_ltF, nJ_eqT, nJ_eqF, nJ_clamp, nJ_div, nM, iM_eqF, iM_eqF2, iM_leF, iM_ltF, iM_leT, iM_ltT, iM_add, iM_add0, natLeF, natLeT, natLtF, natLtT, natEqF, natEqT, if_true, if_false, ite_true, ite_false, false_or, or_false, or_self, Option.bind_some, ↓reduceIte, hw]
  rw [e, key]
  rfl
end
section
/-! the reference's pictures -/
theorem cmp_lt0 (x y : Int64) : (lg_cmp x y < 0) = (x < y) := by
  unfold lg_cmp
  by_cases h : y < x
  · rw [if_pos h, eq_iff_iff]; exact ⟨fun e => absurd e (by decide), fun e => absurd (Int64.lt_trans h e) Int64.lt_irrefl⟩
  · rw [if_neg h]
    by_cases e : x = y
    · subst e; rw [if_pos rfl, eq_iff_iff]; exact ⟨fun e => absurd e (by decide), fun e => absurd e h⟩
    · rw [if_neg e, eq_iff_iff]; exact ⟨fun _ => by rw [Int64.lt_iff_toInt_lt] at h ⊢; have : x.toInt ≠ y.toInt := fun q => e (Int64.toInt_inj.mp q); omega, fun _ => by decide⟩
theorem cmp_gt0 (x y : Int64) : (0 < lg_cmp x y) = (y < x) := by
  unfold lg_cmp
  by_cases h : y < x
  · rw [if_pos h, eq_iff_iff]; exact ⟨fun _ => h, fun _ => by decide⟩
  · rw [if_neg h]
    by_cases e : x = y
    · subst e; rw [if_pos rfl, eq_iff_iff]; exact ⟨fun e => absurd e (by decide), fun e => absurd e h⟩
    · rw [if_neg e, eq_iff_iff]; exact ⟨fun e => absurd e (by decide), fun e => absurd e h⟩
theorem cmp_ge0 (x y : Int64) : (0 ≤ lg_cmp x y) = (y ≤ x) := by
  have h := cmp_lt0 x y
  rw [eq_iff_iff] at h ⊢
  rw [Int32.le_iff_toInt_le, Int64.le_iff_toInt_le]
  rw [Int32.lt_iff_toInt_lt, Int64.lt_iff_toInt_lt] at h
  omega
theorem cmp_le0 (x y : Int64) : (lg_cmp x y ≤ 0) = (x ≤ y) := by
  have h := cmp_gt0 x y
  rw [eq_iff_iff] at h ⊢
  rw [Int32.le_iff_toInt_le, Int64.le_iff_toInt_le]
  rw [Int32.lt_iff_toInt_lt, Int64.lt_iff_toInt_lt] at h
  omega
theorem cmp_eq0 (x y : Int64) : (lg_cmp x y = 0) = (x = y) := by
  unfold lg_cmp
  by_cases h : y < x
  · rw [if_pos h, eq_iff_iff]; exact ⟨fun e => absurd e (by decide), fun e => absurd h (by rw [e]; exact Int64.lt_irrefl)⟩
  · rw [if_neg h]
    by_cases e : x = y
    · rw [if_pos e, eq_iff_iff]; exact ⟨fun _ => e, fun _ => rfl⟩
    · rw [if_neg e, eq_iff_iff]; exact ⟨fun q => absurd q (by decide), fun q => absurd q e⟩
theorem nJ_m1 {m : Nat} (hm : m < 2147483648) : (nI m - 1).toInt = (m : Int) - 1 := by
  have : nI m - 1 = Int32.ofInt ((m : Int) - 1) := by rw [Int32.ofInt_sub, nJ_int]; rfl
  rw [this]; exact Int32.toInt_ofInt_of_le (by omega) (by omega)
theorem l_in_T {a m : Nat} (h : a < m) (hm : m < 2147483648) : f_M_in (nI a).toInt64 0 (nI m - 1).toInt64 = some 1 := by
  unfold f_M_in
  simp only [cmp_lt0, cmp_gt0]
  rw [if_neg, if_neg]
  · rw [Int64.lt_iff_toInt_lt, Int32.toInt_toInt64, Int32.toInt_toInt64, nJ_m1 hm, nJ_toInt (by omega)]; omega
  · rw [Int64.lt_iff_toInt_lt, Int32.toInt_toInt64, nJ_toInt (by omega)]
    have : (0 : Int64).toInt = 0 := rfl
    omega
theorem l_in_F {u : Int32} {m : Nat} (h : ¬ ∃ a : Nat, a < m ∧ u = nI a) (hm : m < 2147483648) : f_M_in u.toInt64 0 (nI m - 1).toInt64 = some 0 := by
  unfold f_M_in
  simp only [cmp_lt0, cmp_gt0]
  obtain h1 | ⟨a, ha, rfl⟩ := nJ_case u
  · rw [if_pos]
    rw [Int64.lt_iff_toInt_lt, Int32.toInt_toInt64]
    rw [Int32.lt_iff_toInt_lt] at h1
    exact h1
  · have h2 : ¬ a < m := fun q => h ⟨a, q, rfl⟩
    split
    · rfl
    · rw [if_pos]
      rw [Int64.lt_iff_toInt_lt, Int32.toInt_toInt64, Int32.toInt_toInt64, nJ_m1 hm, nJ_toInt ha]; omega
theorem L255 : (255 : Int64) = (nI 256 - 1).toInt64 := by decide
theorem L7 : (7 : Int64) = (nI 8 - 1).toInt64 := by decide
theorem modSub (v w : Nat) : v - v / w * w = v % w := by
  have := Nat.div_add_mod v w
  rw [Nat.mul_comm] at this; omega
theorem divLt {v w h : Nat} (hv : v < w * h) : v / w < h := Nat.div_lt_of_lt_mul hv
theorem modLt {v w h : Nat} (hv : v < w * h) : v % w < w := Nat.mod_lt _ (by rcases Nat.eq_zero_or_pos w with e | e; subst e; simp at hv; exact e)
theorem l_M_halve {s w m n : Nat} {f g : Nat → Int32} {p : Nat → Nat} (hs : s ≤ 64) (hw : s / 2 = w) (hn : s * s ≤ n) (hm : w * w ≤ m) (hf : ∀ k, k < s * s → f k = nI (p k)) (hp : ∀ k, k < s * s → p k ≤ 255) :
    f_M_halve (nI s) n f m g = some (wr g (fun k => nI (hlf p s k)) (w * w)) := by
  have hw2 := sq64 (show w ≤ 64 by omega)
  have hs2 := sq64 hs
  have key := lp_up (L := fun n' (h : Nat → Int32) v => f_M_halve_7 (nI s) (nI w) n f m n' (nI v) h) (st := fun v => wr g (fun k => nI (hlf p s k)) v) (b := w * w) (fin := (nI (w * w), wr g (fun k => nI (hlf p s k)) (w * w)))
    (fun n' => by
      show f_M_halve_7 _ _ _ _ _ (n' + 1) _ _ = _
      rw [f_M_halve_7]
      simp (disch := omega) only [n0, n1, n2, n3, n4, n5, n6, n7, n8, n10, n16, n40, n128, n255, n256, n1024, n2000, n2048, nJ_add, nJ_mul, nJ_sub, nJ_leT, nJ_leF, nJ_ltT, nJ_ltF, nJ_eqT, nJ_eqF, nJ_clamp, nJ_div, nM, iM_eqF, iM_eqF2, iM_leF, iM_ltF, iM_leT, iM_ltT, iM_add, iM_add0, natLeF, natLeT, natLtF, natLtT, natEqF, natEqT, if_true, if_false, ite_true, ite_false, false_or, or_false, or_self, Option.bind_some, ↓reduceIte])
    (fun n' v hv => by
      show f_M_halve_7 _ _ _ _ _ (n' + 1) _ _ = f_M_halve_7 _ _ _ _ _ n' _ _
      rw [f_M_halve_7]
      have hd : v / w * w ≤ v := Nat.div_mul_le_self v w
      have hx := modLt hv
      have hy := divLt hv
      have hw0 : 0 < w := by omega
      have h1 : 2 * (v / w) * s + 2 * (v % w) < s * s := ix (by omega) (by omega)
      have h2 : 2 * (v / w) * s + 2 * (v % w) + 1 < s * s := ix (x := 2 * (v % w) + 1) (y := 2 * (v / w)) (by omega) (by omega)
      have h4 : (2 * (v / w) + 1) * s + (2 * (v % w) + 1) < s * s := ix (by omega) (by omega)
      rw [Nat.add_mul] at h4
      have h3 : 2 * (v / w) * s + 2 * (v % w) + s < s * s := by omega
      have h4 : 2 * (v / w) * s + 2 * (v % w) + s + 1 < s * s := by omega
      have b1 := hp _ h1
      have b2 := hp _ h2
      have b3 := hp _ h3
      have b4 := hp _ h4
      simp (disch := omega) only [n0, n1, n2, n3, n4, n5, n6, n7, n8, n10, n16, n40, n128, n255, n256, n1024, n2000, n2048, nJ_add, nJ_mul, nJ_sub, nJ_leT, nJ_leF, nJ_ltT, nJ_ltF, nJ_eqT, nJ_eqF, nJ_clamp, nJ_div, nM, iM_eqF, iM_eqF2, iM_leF, iM_ltF, iM_leT, iM_ltT, iM_add, iM_add0, natLeF, natLeT, natLtF, natLtT, natEqF, natEqT, if_true, if_false, ite_true, ite_false, false_or, or_false, or_self, Option.bind_some, ↓reduceIte, modSub, hf]
      rw [← wrS g (fun k => nI (hlf p s k)) v]
      simp only [hlf, hw])
    FU 0 (Nat.zero_le _) (fu (by omega))
  have key : f_M_halve_7 (nI s) (nI w) n f m FU 0 (wr g (fun k => nI (hlf p s k)) 0) = some (nI (w * w), wr g (fun k => nI (hlf p s k)) (w * w)) := key
  rw [wr0] at key
  unfold f_M_halve
  have e : nI s / 2 = nI w := by simp (disch := omega) only [n0, n1, n2, n3, n4, n5, n6, n7, n8, n10, n16, n40, n128, n255, n256, n1024, n2000, n2048, nJ_add, nJ_mul, nJ_sub, nJ_leT, nJ_leF, nJ_ltT, nJ_ltF, nJ_eqT, nJ_eqF, nJ_clamp, nJ_div, nM, iM_eqF, iM_eqF2, iM_leF, iM_ltF, iM_leT, iM_ltT, iM_add, iM_add0, natLeF, natLeT, natLtF, natLtT, natEqF, natEqT, if_true, if_false, ite_true, ite_false, false_or, or_false, or_self, Option.bind_some, ↓reduceIte, hw]
  rw [e, key]
  rfl
/-- a block's samples by running number -/
def blk (p : Nat → Nat) (s x y size k : Nat) : Nat := p ((y + k / size) * s + x + k % size)
theorem l_M_layBlock {s x y size m n : Nat} {f g : Nat → Int32} {p : Nat → Nat} (hs : s ≤ 64) (hx : x + size ≤ s) (hy : y + size ≤ s) (hn : s * s ≤ n) (hm : size * size ≤ m) (hf : ∀ k, k < s * s → f k = nI (p k)) :
    f_M_layBlock (nI x) (nI y) (nI size) (nI s) n f m g = some (wr g (fun k => nI (blk p s x y size k)) (size * size)) := by
  have hw2 := sq64 (show size ≤ 64 by omega)
  have hs2 := sq64 hs
  have key := lp_up (L := fun n' (h : Nat → Int32) v => f_M_layBlock_3 (nI x) (nI y) (nI size) (nI s) n f m n' (nI v) h) (st := fun v => wr g (fun k => nI (blk p s x y size k)) v) (b := size * size) (fin := (nI (size * size), wr g (fun k => nI (blk p s x y size k)) (size * size)))
    (fun n' => by
      show f_M_layBlock_3 _ _ _ _ _ _ _ (n' + 1) _ _ = _
      rw [f_M_layBlock_3]
      simp (disch := omega) only [n0, n1, n2, n3, n4, n5, n6, n7, n8, n10, n16, n40, n128, n255, n256, n1024, n2000, n2048, nJ_add, nJ_mul, nJ_sub, nJ_leT, nJ_leF, nJ_ltT, nJ_ltF, nJ_eqT, nJ_eqF, nJ_clamp, nJ_div, nM, iM_eqF, iM_eqF2, iM_leF, iM_ltF, iM_leT, iM_ltT, iM_add, iM_add0, natLeF, natLeT, natLtF, natLtT, natEqF, natEqT, if_true, if_false, ite_true, ite_false, false_or, or_false, or_self, Option.bind_some, ↓reduceIte])
    (fun n' v hv => by
      show f_M_layBlock_3 _ _ _ _ _ _ _ (n' + 1) _ _ = f_M_layBlock_3 _ _ _ _ _ _ _ n' _ _
      rw [f_M_layBlock_3]
      have hd : v / size * size ≤ v := Nat.div_mul_le_self v size
      have hx' := modLt hv
      have hy' := divLt hv
      have h1 : (y + v / size) * s + (x + v % size) < s * s := ix (by omega) (by omega)
      have h1 : (y + v / size) * s + x + v % size < s * s := by omega
      simp (disch := omega) only [n0, n1, n2, n3, n4, n5, n6, n7, n8, n10, n16, n40, n128, n255, n256, n1024, n2000, n2048, nJ_add, nJ_mul, nJ_sub, nJ_leT, nJ_leF, nJ_ltT, nJ_ltF, nJ_eqT, nJ_eqF, nJ_clamp, nJ_div, nM, iM_eqF, iM_eqF2, iM_leF, iM_ltF, iM_leT, iM_ltT, iM_add, iM_add0, natLeF, natLeT, natLtF, natLtT, natEqF, natEqT, if_true, if_false, ite_true, ite_false, false_or, or_false, or_self, Option.bind_some, ↓reduceIte, modSub, hf]
      rw [← wrS g (fun k => nI (blk p s x y size k)) v]
      simp only [blk])
    FU 0 (Nat.zero_le _) (fu (by omega))
  have key : f_M_layBlock_3 (nI x) (nI y) (nI size) (nI s) n f m FU 0 (wr g (fun k => nI (blk p s x y size k)) 0) = some (nI (size * size), wr g (fun k => nI (blk p s x y size k)) (size * size)) := key
  rw [wr0] at key
  unfold f_M_layBlock
  rw [key]
  rfl
def qOf (size k : Nat) : Nat := (if k / size < size / 2 then 0 else 2) + (if k % size < size / 2 then 0 else 1)
theorem l_M_quarterSum {size n q : Nat} {f : Nat → Int32} {r : Nat → Nat} (hs : size ≤ 64) (hn : size * size ≤ n) (hf : ∀ k, k < size * size → f k = nI (r k)) (hq : q < 4) :
    f_M_quarterSum (nI size) (nI q) n f = some (nI (sN (fun k => if qOf size k = q then r k else 0) (size * size))) := by
  have hs2 := sq64 hs
  have key := lp_up (L := fun n' (a : Nat) v => f_M_quarterSum_5 (nI size) (nI q) n f n' (nI a) (nI v)) (st := fun v => sN (fun k => if qOf size k = q then r k else 0) v) (b := size * size) (fin := (nI (sN (fun k => if qOf size k = q then r k else 0) (size * size)), nI (size * size)))
    (fun n' => by
      show f_M_quarterSum_5 _ _ _ _ (n' + 1) _ _ = _
      rw [f_M_quarterSum_5]
      simp (disch := omega) only [n0, n1, n2, n3, n4, n5, n6, n7, n8, n10, n16, n40, n128, n255, n256, n1024, n2000, n2048, nJ_add, nJ_mul, nJ_sub, nJ_leT, nJ_leF, nJ_ltT, nJ_ltF, nJ_eqT, nJ_eqF, nJ_clamp, nJ_div, nM, iM_eqF, iM_eqF2, iM_leF, iM_ltF, iM_leT, iM_ltT, iM_add, iM_add0, natLeF, natLeT, natLtF, natLtT, natEqF, natEqT, if_true, if_false, ite_true, ite_false, false_or, or_false, or_self, Option.bind_some, ↓reduceIte])
    (fun n' v hv => by
      show f_M_quarterSum_5 _ _ _ _ (n' + 1) _ _ = f_M_quarterSum_5 _ _ _ _ n' _ _
      rw [f_M_quarterSum_5]
      have hd : v / size * size ≤ v := Nat.div_mul_le_self v size
      have hx' := modLt hv
      have hy' := divLt hv
      have e : sN (fun k => if qOf size k = q then r k else 0) (v + 1) = sN (fun k => if qOf size k = q then r k else 0) v + (if qOf size v = q then r v else 0) := rfl
      rw [e]
      generalize sN (fun k => if qOf size k = q then r k else 0) v = a
      unfold qOf
      by_cases c1 : v / size < size / 2 <;> by_cases c2 : v % size < size / 2
      · by_cases c : q = 0
        · subst c
          simp (disch := omega) only [n0, n1, n2, n3, n4, n5, n6, n7, n8, n10, n16, n40, n128, n255, n256, n1024, n2000, n2048, nJ_add, nJ_mul, nJ_sub, nJ_leT, nJ_leF, nJ_ltT, nJ_ltF, nJ_eqT, nJ_eqF, nJ_clamp, nJ_div, nM, iM_eqF, iM_eqF2, iM_leF, iM_ltF, iM_leT, iM_ltT, iM_add, iM_add0, natLeF, natLeT, natLtF, natLtT, natEqF, natEqT, if_true, if_false, ite_true, ite_false, false_or, or_false, or_self, Option.bind_some, ↓reduceIte, modSub, hf, Nat.add_zero, Nat.zero_add, Nat.reduceAdd, eq_self]
        · simp (disch := omega) only [n0, n1, n2, n3, n4, n5, n6, n7, n8, n10, n16, n40, n128, n255, n256, n1024, n2000, n2048, nJ_add, nJ_mul, nJ_sub, nJ_leT, nJ_leF, nJ_ltT, nJ_ltF, nJ_eqT, nJ_eqF, nJ_clamp, nJ_div, nM, iM_eqF, iM_eqF2, iM_leF, iM_ltF, iM_leT, iM_ltT, iM_add, iM_add0, natLeF, natLeT, natLtF, natLtT, natEqF, natEqT, if_true, if_false, ite_true, ite_false, false_or, or_false, or_self, Option.bind_some, ↓reduceIte, modSub, hf, Nat.add_zero, Nat.zero_add, Nat.reduceAdd]
      · by_cases c : q = 1
        · subst c
          simp (disch := omega) only [n0, n1, n2, n3, n4, n5, n6, n7, n8, n10, n16, n40, n128, n255, n256, n1024, n2000, n2048, nJ_add, nJ_mul, nJ_sub, nJ_leT, nJ_leF, nJ_ltT, nJ_ltF, nJ_eqT, nJ_eqF, nJ_clamp, nJ_div, nM, iM_eqF, iM_eqF2, iM_leF, iM_ltF, iM_leT, iM_ltT, iM_add, iM_add0, natLeF, natLeT, natLtF, natLtT, natEqF, natEqT, if_true, if_false, ite_true, ite_false, false_or, or_false, or_self, Option.bind_some, ↓reduceIte, modSub, hf, Nat.add_zero, Nat.zero_add, Nat.reduceAdd, eq_self]
        · simp (disch := omega) only [n0, n1, n2, n3, n4, n5, n6, n7, n8, n10, n16, n40, n128, n255, n256, n1024, n2000, n2048, nJ_add, nJ_mul, nJ_sub, nJ_leT, nJ_leF, nJ_ltT, nJ_ltF, nJ_eqT, nJ_eqF, nJ_clamp, nJ_div, nM, iM_eqF, iM_eqF2, iM_leF, iM_ltF, iM_leT, iM_ltT, iM_add, iM_add0, natLeF, natLeT, natLtF, natLtT, natEqF, natEqT, if_true, if_false, ite_true, ite_false, false_or, or_false, or_self, Option.bind_some, ↓reduceIte, modSub, hf, Nat.add_zero, Nat.zero_add, Nat.reduceAdd]
      · by_cases c : q = 2
        · subst c
          simp (disch := omega) only [n0, n1, n2, n3, n4, n5, n6, n7, n8, n10, n16, n40, n128, n255, n256, n1024, n2000, n2048, nJ_add, nJ_mul, nJ_sub, nJ_leT, nJ_leF, nJ_ltT, nJ_ltF, nJ_eqT, nJ_eqF, nJ_clamp, nJ_div, nM, iM_eqF, iM_eqF2, iM_leF, iM_ltF, iM_leT, iM_ltT, iM_add, iM_add0, natLeF, natLeT, natLtF, natLtT, natEqF, natEqT, if_true, if_false, ite_true, ite_false, false_or, or_false, or_self, Option.bind_some, ↓reduceIte, modSub, hf, Nat.add_zero, Nat.zero_add, Nat.reduceAdd, eq_self]
        · simp (disch := omega) only [n0, n1, n2, n3, n4, n5, n6, n7, n8, n10, n16, n40, n128, n255, n256, n1024, n2000, n2048, nJ_add, nJ_mul, nJ_sub, nJ_leT, nJ_leF, nJ_ltT, nJ_ltF, nJ_eqT, nJ_eqF, nJ_clamp, nJ_div, nM, iM_eqF, iM_eqF2, iM_leF, iM_ltF, iM_leT, iM_ltT, iM_add, iM_add0, natLeF, natLeT, natLtF, natLtT, natEqF, natEqT, if_true, if_false, ite_true, ite_false, false_or, or_false, or_self, Option.bind_some, ↓reduceIte, modSub, hf, Nat.add_zero, Nat.zero_add, Nat.reduceAdd]
      · by_cases c : q = 3
        · subst c
          simp (disch := omega) only [n0, n1, n2, n3, n4, n5, n6, n7, n8, n10, n16, n40, n128, n255, n256, n1024, n2000, n2048, nJ_add, nJ_mul, nJ_sub, nJ_leT, nJ_leF, nJ_ltT, nJ_ltF, nJ_eqT, nJ_eqF, nJ_clamp, nJ_div, nM, iM_eqF, iM_eqF2, iM_leF, iM_ltF, iM_leT, iM_ltT, iM_add, iM_add0, natLeF, natLeT, natLtF, natLtT, natEqF, natEqT, if_true, if_false, ite_true, ite_false, false_or, or_false, or_self, Option.bind_some, ↓reduceIte, modSub, hf, Nat.add_zero, Nat.zero_add, Nat.reduceAdd, eq_self]
        · simp (disch := omega) only [n0, n1, n2, n3, n4, n5, n6, n7, n8, n10, n16, n40, n128, n255, n256, n1024, n2000, n2048, nJ_add, nJ_mul, nJ_sub, nJ_leT, nJ_leF, nJ_ltT, nJ_ltF, nJ_eqT, nJ_eqF, nJ_clamp, nJ_div, nM, iM_eqF, iM_eqF2, iM_leF, iM_ltF, iM_leT, iM_ltT, iM_add, iM_add0, natLeF, natLeT, natLtF, natLtT, natEqF, natEqT, if_true, if_false, ite_true, ite_false, false_or, or_false, or_self, Option.bind_some, ↓reduceIte, modSub, hf, Nat.add_zero, Nat.zero_add, Nat.reduceAdd])
    FU 0 (Nat.zero_le _) (fu (by omega))
  have key : f_M_quarterSum_5 (nI size) (nI q) n f FU (0 : Int32) (0 : Int32) = _ := key
  unfold f_M_quarterSum
  rw [key]
  rfl
end
section
/-! quarters and the class of a square -/
theorem sN_half {g : Nat → Nat} {h : Nat} : sN g (2 * h) = sN g h + sN (fun k => g (h + k)) h := by
  rw [show 2 * h = h + h by omega]; exact sN_split g h h
theorem sN_z {g : Nat → Nat} {n : Nat} (e : ∀ k, k < n → g k = 0) : sN g n = 0 := by
  rw [sN_congr (h := fun _ => 0) e]; exact sN_zero n
theorem sQ_z {g : Nat → Nat → Nat} {w h : Nat} (e : ∀ x y, x < w → y < h → g x y = 0) : sQ g w h = 0 := sN_z (fun y hy => sN_z (fun x hx => e x y hx hy))
theorem sQ_four (g : Nat → Nat → Nat) (h : Nat) : sQ g (2 * h) (2 * h) = sQ g h h + sQ (fun x y => g (h + x) y) h h + (sQ (fun x y => g x (h + y)) h h + sQ (fun x y => g (h + x) (h + y)) h h) := by
  unfold sQ
  rw [sN_half]
  congr 1
  · rw [← sN_add]; exact sN_congr (fun y _ => sN_half)
  · rw [← sN_add]; exact sN_congr (fun y _ => sN_half)
/-- the reference's sum of a quarter is the sum of that square -/
theorem quarter_sum (r : Nat → Nat) (h q : Nat) (hq : q < 4) : sN (fun k => if qOf (2 * h) k = q then r k else 0) (2 * h * (2 * h)) = sqS r (2 * h) (q % 2 * h) (q / 2 * h) h := by
  rw [sN_rows, sQ_four]
  unfold sqS
  have e0 : 2 * h / 2 = h := by omega
  have k0 : ∀ x y, x < 2 * h → qOf (2 * h) (y * (2 * h) + x) = (if y < h then 0 else 2) + (if x < h then 0 else 1) := fun x y hx => by
    unfold qOf
    rw [(rowOf hx).1, (rowOf hx).2, e0]
  have A : sQ (fun x y => if qOf (2 * h) (y * (2 * h) + x) = q then r (y * (2 * h) + x) else 0) h h = if q = 0 then sQ (fun x y => r (y * (2 * h) + x)) h h else 0 := by
    split
    · exact sQ_congr (fun x y hx hy => by simp (disch := omega) only [n0, n1, n2, n3, n4, n5, n6, n7, n8, n10, n16, n40, n128, n255, n256, n1024, n2000, n2048, nJ_add, nJ_mul, nJ_sub, nJ_leT, nJ_leF, nJ_ltT, nJ_ltF, nJ_eqT, nJ_eqF, nJ_clamp, nJ_div, nM, iM_eqF, iM_eqF2, iM_leF, iM_ltF, iM_leT, iM_ltT, iM_add, iM_add0, natLeF, natLeT, natLtF, natLtT, natEqF, natEqT, if_true, if_false, ite_true, ite_false, false_or, or_false, or_self, Option.bind_some, ↓reduceIte, k0, Nat.add_zero, Nat.zero_add, Nat.reduceAdd])
    · exact sQ_z (fun x y hx hy => by simp (disch := omega) only [n0, n1, n2, n3, n4, n5, n6, n7, n8, n10, n16, n40, n128, n255, n256, n1024, n2000, n2048, nJ_add, nJ_mul, nJ_sub, nJ_leT, nJ_leF, nJ_ltT, nJ_ltF, nJ_eqT, nJ_eqF, nJ_clamp, nJ_div, nM, iM_eqF, iM_eqF2, iM_leF, iM_ltF, iM_leT, iM_ltT, iM_add, iM_add0, natLeF, natLeT, natLtF, natLtT, natEqF, natEqT, if_true, if_false, ite_true, ite_false, false_or, or_false, or_self, Option.bind_some, ↓reduceIte, k0, Nat.add_zero, Nat.zero_add, Nat.reduceAdd])
  have B : sQ (fun x y => if qOf (2 * h) (y * (2 * h) + (h + x)) = q then r (y * (2 * h) + (h + x)) else 0) h h = if q = 1 then sQ (fun x y => r (y * (2 * h) + (h + x))) h h else 0 := by
    split
    · exact sQ_congr (fun x y hx hy => by simp (disch := omega) only [n0, n1, n2, n3, n4, n5, n6, n7, n8, n10, n16, n40, n128, n255, n256, n1024, n2000, n2048, nJ_add, nJ_mul, nJ_sub, nJ_leT, nJ_leF, nJ_ltT, nJ_ltF, nJ_eqT, nJ_eqF, nJ_clamp, nJ_div, nM, iM_eqF, iM_eqF2, iM_leF, iM_ltF, iM_leT, iM_ltT, iM_add, iM_add0, natLeF, natLeT, natLtF, natLtT, natEqF, natEqT, if_true, if_false, ite_true, ite_false, false_or, or_false, or_self, Option.bind_some, ↓reduceIte, k0, Nat.add_zero, Nat.zero_add, Nat.reduceAdd])
    · exact sQ_z (fun x y hx hy => by simp (disch := omega) only [n0, n1, n2, n3, n4, n5, n6, n7, n8, n10, n16, n40, n128, n255, n256, n1024, n2000, n2048, nJ_add, nJ_mul, nJ_sub, nJ_leT, nJ_leF, nJ_ltT, nJ_ltF, nJ_eqT, nJ_eqF, nJ_clamp, nJ_div, nM, iM_eqF, iM_eqF2, iM_leF, iM_ltF, iM_leT, iM_ltT, iM_add, iM_add0, natLeF, natLeT, natLtF, natLtT, natEqF, natEqT, if_true, if_false, ite_true, ite_false, false_or, or_false, or_self, Option.bind_some, ↓reduceIte, k0, Nat.add_zero, Nat.zero_add, Nat.reduceAdd])
  have C : sQ (fun x y => if qOf (2 * h) ((h + y) * (2 * h) + x) = q then r ((h + y) * (2 * h) + x) else 0) h h = if q = 2 then sQ (fun x y => r ((h + y) * (2 * h) + x)) h h else 0 := by
    split
    · exact sQ_congr (fun x y hx hy => by simp (disch := omega) only [n0, n1, n2, n3, n4, n5, n6, n7, n8, n10, n16, n40, n128, n255, n256, n1024, n2000, n2048, nJ_add, nJ_mul, nJ_sub, nJ_leT, nJ_leF, nJ_ltT, nJ_ltF, nJ_eqT, nJ_eqF, nJ_clamp, nJ_div, nM, iM_eqF, iM_eqF2, iM_leF, iM_ltF, iM_leT, iM_ltT, iM_add, iM_add0, natLeF, natLeT, natLtF, natLtT, natEqF, natEqT, if_true, if_false, ite_true, ite_false, false_or, or_false, or_self, Option.bind_some, ↓reduceIte, k0, Nat.add_zero, Nat.zero_add, Nat.reduceAdd])
    · exact sQ_z (fun x y hx hy => by simp (disch := omega) only [n0, n1, n2, n3, n4, n5, n6, n7, n8, n10, n16, n40, n128, n255, n256, n1024, n2000, n2048, nJ_add, nJ_mul, nJ_sub, nJ_leT, nJ_leF, nJ_ltT, nJ_ltF, nJ_eqT, nJ_eqF, nJ_clamp, nJ_div, nM, iM_eqF, iM_eqF2, iM_leF, iM_ltF, iM_leT, iM_ltT, iM_add, iM_add0, natLeF, natLeT, natLtF, natLtT, natEqF, natEqT, if_true, if_false, ite_true, ite_false, false_or, or_false, or_self, Option.bind_some, ↓reduceIte, k0, Nat.add_zero, Nat.zero_add, Nat.reduceAdd])
  have D : sQ (fun x y => if qOf (2 * h) ((h + y) * (2 * h) + (h + x)) = q then r ((h + y) * (2 * h) + (h + x)) else 0) h h = if q = 3 then sQ (fun x y => r ((h + y) * (2 * h) + (h + x))) h h else 0 := by
    split
    · exact sQ_congr (fun x y hx hy => by simp (disch := omega) only [n0, n1, n2, n3, n4, n5, n6, n7, n8, n10, n16, n40, n128, n255, n256, n1024, n2000, n2048, nJ_add, nJ_mul, nJ_sub, nJ_leT, nJ_leF, nJ_ltT, nJ_ltF, nJ_eqT, nJ_eqF, nJ_clamp, nJ_div, nM, iM_eqF, iM_eqF2, iM_leF, iM_ltF, iM_leT, iM_ltT, iM_add, iM_add0, natLeF, natLeT, natLtF, natLtT, natEqF, natEqT, if_true, if_false, ite_true, ite_false, false_or, or_false, or_self, Option.bind_some, ↓reduceIte, k0, Nat.add_zero, Nat.zero_add, Nat.reduceAdd])
    · exact sQ_z (fun x y hx hy => by simp (disch := omega) only [n0, n1, n2, n3, n4, n5, n6, n7, n8, n10, n16, n40, n128, n255, n256, n1024, n2000, n2048, nJ_add, nJ_mul, nJ_sub, nJ_leT, nJ_leF, nJ_ltT, nJ_ltF, nJ_eqT, nJ_eqF, nJ_clamp, nJ_div, nM, iM_eqF, iM_eqF2, iM_leF, iM_ltF, iM_leT, iM_ltT, iM_add, iM_add0, natLeF, natLeT, natLtF, natLtT, natEqF, natEqT, if_true, if_false, ite_true, ite_false, false_or, or_false, or_self, Option.bind_some, ↓reduceIte, k0, Nat.add_zero, Nat.zero_add, Nat.reduceAdd])
  rw [A, B, C, D]
  have : q = 0 ∨ q = 1 ∨ q = 2 ∨ q = 3 := by omega
  rcases this with rfl | rfl | rfl | rfl <;> simp
theorem l_M_quarter {h n q : Nat} {f : Nat → Int32} {r : Nat → Nat} (hs : h ≤ 32) (hn : 2 * h * (2 * h) ≤ n) (hf : ∀ k, k < 2 * h * (2 * h) → f k = nI (r k)) (hq : q < 4) :
    f_M_quarterSum (nI (2 * h)) (nI q) n f = some (nI (sqS r (2 * h) (q % 2 * h) (q / 2 * h) h)) := by
  rw [l_M_quarterSum (by omega) hn hf hq, quarter_sum r h q hq]
/-- the first of the greatest of four -/
def am (s : Nat → Nat) : Nat := if s 1 ≤ s 0 ∧ s 2 ≤ s 0 ∧ s 3 ≤ s 0 then 0 else if s 2 ≤ s 1 ∧ s 3 ≤ s 1 then 1 else if s 3 ≤ s 2 then 2 else 3
theorem am_lt (s : Nat → Nat) : am s < 4 := by unfold am; split; omega; split; omega; split <;> omega
theorem am_ge (s : Nat → Nat) (q : Nat) (hq : q < 4) : s q ≤ s (am s) := by
  unfold am
  have : q = 0 ∨ q = 1 ∨ q = 2 ∨ q = 3 := by omega
  split
  · rcases this with rfl | rfl | rfl | rfl <;> omega
  · split
    · rcases this with rfl | rfl | rfl | rfl <;> omega
    · split <;> rcases this with rfl | rfl | rfl | rfl <;> omega
theorem fu5 : FU = 1048571 + 5 := rfl
theorem q_across0 : f_F_acrossOf (nI 0) = some (nI 0) := by decide
theorem q_across1 : f_F_acrossOf (nI 1) = some (nI 1) := by decide
theorem q_across2 : f_F_acrossOf (nI 2) = some (nI 0) := by decide
theorem q_across3 : f_F_acrossOf (nI 3) = some (nI 1) := by decide
theorem q_down0 : f_F_downOf (nI 0) = some (nI 0) := by decide
theorem q_down1 : f_F_downOf (nI 1) = some (nI 0) := by decide
theorem q_down2 : f_F_downOf (nI 2) = some (nI 1) := by decide
theorem q_down3 : f_F_downOf (nI 3) = some (nI 1) := by decide
theorem l_across {q : Nat} (hq : q < 4) : f_F_acrossOf (nI q) = some (nI (q % 2)) := by
  have : q = 0 ∨ q = 1 ∨ q = 2 ∨ q = 3 := by omega
  rcases this with rfl | rfl | rfl | rfl <;> decide
theorem l_down {q : Nat} (hq : q < 4) : f_F_downOf (nI q) = some (nI (q / 2)) := by
  have : q = 0 ∨ q = 1 ∨ q = 2 ∨ q = 3 := by omega
  rcases this with rfl | rfl | rfl | rfl <;> decide
/-- the greatest of the first v, and where it is first -/
def amU (s : Nat → Nat) : Nat → Nat
  | 0 => 0
  | v + 1 => if v = 0 then 0 else if s v ≤ s (amU s v) then amU s v else v
theorem amU4 (s : Nat → Nat) : amU s 4 = am s := by
  have h1 : amU s 1 = 0 := rfl
  have h2 : amU s 2 = if s 1 ≤ s 0 then 0 else 1 := rfl
  have h3 : amU s 3 = if s 2 ≤ s (amU s 2) then amU s 2 else 2 := rfl
  have h4 : amU s 4 = if s 3 ≤ s (amU s 3) then amU s 3 else 3 := rfl
  unfold am
  by_cases c1 : s 1 ≤ s 0
  · rw [if_pos c1] at h2
    rw [h2] at h3
    by_cases c2 : s 2 ≤ s 0
    · rw [if_pos c2] at h3
      rw [h3] at h4
      by_cases c3 : s 3 ≤ s 0
      · rw [if_pos c3] at h4; rw [h4, if_pos ⟨c1, c2, c3⟩]
      · rw [if_neg c3] at h4; rw [h4, if_neg (by omega), if_neg (by omega), if_neg (by omega)]
    · rw [if_neg c2] at h3
      rw [h3] at h4
      by_cases c3 : s 3 ≤ s 2
      · rw [if_pos c3] at h4; rw [h4, if_neg (by omega), if_neg (by omega), if_pos c3]
      · rw [if_neg c3] at h4; rw [h4, if_neg (by omega), if_neg (by omega), if_neg (by omega)]
  · rw [if_neg c1] at h2
    rw [h2] at h3
    by_cases c2 : s 2 ≤ s 1
    · rw [if_pos c2] at h3
      rw [h3] at h4
      by_cases c3 : s 3 ≤ s 1
      · rw [if_pos c3] at h4; rw [h4, if_neg (by omega), if_pos ⟨c2, c3⟩]
      · rw [if_neg c3] at h4; rw [h4, if_neg (by omega), if_neg (by omega), if_neg (by omega)]
    · rw [if_neg c2] at h3
      rw [h3] at h4
      by_cases c3 : s 3 ≤ s 2
      · rw [if_pos c3] at h4; rw [h4, if_neg (by omega), if_neg (by omega), if_pos c3]
      · rw [if_neg c3] at h4; rw [h4, if_neg (by omega), if_neg (by omega), if_neg (by omega)]
/-- the quarters' sums of a square -/
def qS (p : Nat → Nat) (s x y h q : Nat) : Nat := sqS p s (x + q % 2 * h) (y + q / 2 * h) h
theorem qmul {q h : Nat} (hq : q < 4) : q % 2 * h + h ≤ 2 * h ∧ q / 2 * h + h ≤ 2 * h := by
  have : q = 0 ∨ q = 1 ∨ q = 2 ∨ q = 3 := by omega
  rcases this with rfl | rfl | rfl | rfl <;> simp <;> omega
theorem qS_le {p : Nat → Nat} {s x y h q : Nat} (hs : s ≤ 64) (hq : q < 4) (hx : x + 2 * h ≤ s) (hy : y + 2 * h ≤ s) (hp : ∀ k, k < s * s → p k ≤ 255) : qS p s x y h q ≤ 261120 := by
  have h1 := qmul (h := h) hq
  unfold qS
  have h2 := sqS_le (p := p) (s := s) (left := x + q % 2 * h) (top := y + q / 2 * h) (size := h) (c := 255) (by omega) (by omega) hp
  have h3 : h * (h * 255) ≤ 32 * (32 * 255) := Nat.mul_le_mul (by omega) (Nat.mul_le_mul (by omega) (Nat.le_refl _))
  omega
theorem amU_le (s : Nat → Nat) : ∀ v, amU s (v + 1) ≤ v
  | 0 => by simp [amU]
  | v + 1 => by
    rw [amU]
    split
    · omega
    · split
      · have := amU_le s v; omega
      · omega
theorem l_G_brightest {s x y h n : Nat} {f : Nat → Int32} {p : Nat → Nat} (hs : s ≤ 64) (hx : x + 2 * h ≤ s) (hy : y + 2 * h ≤ s) (hn : s * s ≤ n) (hf : ∀ k, k < s * s → f k = nI (p k)) (hp : ∀ k, k < s * s → p k ≤ 255) :
    f_G_brightestQuarter (nI x) (nI y) (nI (2 * h)) (nI s) n f = some (nI (am (qS p s x y h))) := by
  have key := lp_up (L := fun n' (a : Int32 × Int32) v => f_G_brightestQuarter_14 (nI x) (nI y) (nI (2 * h)) (nI h) (nI s) n f n' a.1 a.2 (nI v)) (st := fun v => (nI (amU (qS p s x y h) v), if v = 0 then iM else nI (qS p s x y h (amU (qS p s x y h) v)))) (b := 4) (fin := (nI (am (qS p s x y h)), nI (qS p s x y h (am (qS p s x y h))), nI 4))
    (fun n' => by
      show f_G_brightestQuarter_14 _ _ _ _ _ _ _ (n' + 1) _ _ _ = _
      rw [f_G_brightestQuarter_14, amU4]
      simp (disch := omega) only [n0, n1, n2, n3, n4, n5, n6, n7, n8, n10, n16, n40, n128, n255, n256, n1024, n2000, n2048, nJ_add, nJ_mul, nJ_sub, nJ_leT, nJ_leF, nJ_ltT, nJ_ltF, nJ_eqT, nJ_eqF, nJ_clamp, nJ_div, nM, iM_eqF, iM_eqF2, iM_leF, iM_ltF, iM_leT, iM_ltT, iM_add, iM_add0, natLeF, natLeT, natLtF, natLtT, natEqF, natEqT, if_true, if_false, ite_true, ite_false, false_or, or_false, or_self, Option.bind_some, ↓reduceIte])
    (fun n' v hv => by
      show f_G_brightestQuarter_14 _ _ _ _ _ _ _ (n' + 1) _ _ _ = f_G_brightestQuarter_14 _ _ _ _ _ _ _ n' _ _ _
      rw [f_G_brightestQuarter_14, l_across hv, l_down hv]
      have h1 := qmul (h := h) hv
      have hb := qS_le hs hv hx hy hp
      have hS := l_G_sum (left := x + v % 2 * h) (top := y + v / 2 * h) (size := h) hs (by omega) (by omega) hn hf
      have e : sqS p s (x + v % 2 * h) (y + v / 2 * h) h = qS p s x y h v := rfl
      rw [e] at hS
      by_cases c0 : v = 0
      · have e1 : amU (qS p s x y h) (v + 1) = v := by subst c0; rfl
        rw [e1]
        simp (disch := omega) only [n0, n1, n2, n3, n4, n5, n6, n7, n8, n10, n16, n40, n128, n255, n256, n1024, n2000, n2048, nJ_add, nJ_mul, nJ_sub, nJ_leT, nJ_leF, nJ_ltT, nJ_ltF, nJ_eqT, nJ_eqF, nJ_clamp, nJ_div, nM, iM_eqF, iM_eqF2, iM_leF, iM_ltF, iM_leT, iM_ltT, iM_add, iM_add0, natLeF, natLeT, natLtF, natLtT, natEqF, natEqT, if_true, if_false, ite_true, ite_false, false_or, or_false, or_self, Option.bind_some, ↓reduceIte, hS]
      · have hb2 := qS_le hs (show amU (qS p s x y h) v < 4 by
          have := amU_le (qS p s x y h) (v - 1)
          rw [show v - 1 + 1 = v by omega] at this
          omega) hx hy hp
        by_cases c1 : qS p s x y h v ≤ qS p s x y h (amU (qS p s x y h) v)
        · have e2 : amU (qS p s x y h) (v + 1) = amU (qS p s x y h) v := by rw [amU, if_neg c0, if_pos c1]
          rw [e2]
          simp (disch := omega) only [n0, n1, n2, n3, n4, n5, n6, n7, n8, n10, n16, n40, n128, n255, n256, n1024, n2000, n2048, nJ_add, nJ_mul, nJ_sub, nJ_leT, nJ_leF, nJ_ltT, nJ_ltF, nJ_eqT, nJ_eqF, nJ_clamp, nJ_div, nM, iM_eqF, iM_eqF2, iM_leF, iM_ltF, iM_leT, iM_ltT, iM_add, iM_add0, natLeF, natLeT, natLtF, natLtT, natEqF, natEqT, if_true, if_false, ite_true, ite_false, false_or, or_false, or_self, Option.bind_some, ↓reduceIte, hS]
        · have e2 : amU (qS p s x y h) (v + 1) = v := by rw [amU, if_neg c0, if_neg c1]
          rw [e2]
          simp (disch := omega) only [n0, n1, n2, n3, n4, n5, n6, n7, n8, n10, n16, n40, n128, n255, n256, n1024, n2000, n2048, nJ_add, nJ_mul, nJ_sub, nJ_leT, nJ_leF, nJ_ltT, nJ_ltF, nJ_eqT, nJ_eqF, nJ_clamp, nJ_div, nM, iM_eqF, iM_eqF2, iM_leF, iM_ltF, iM_leT, iM_ltT, iM_add, iM_add0, natLeF, natLeT, natLtF, natLtT, natEqF, natEqT, if_true, if_false, ite_true, ite_false, false_or, or_false, or_self, Option.bind_some, ↓reduceIte, hS])
    FU 0 (Nat.zero_le _) (fu (by omega))
  have key : f_G_brightestQuarter_14 (nI x) (nI y) (nI (2 * h)) (nI h) (nI s) n f FU (0 : Int32) ((-1) : Int32) (0 : Int32) = _ := key
  unfold f_G_brightestQuarter
  have e : nI (2 * h) / 2 = nI h := by
    simp (disch := omega) only [n0, n1, n2, n3, n4, n5, n6, n7, n8, n10, n16, n40, n128, n255, n256, n1024, n2000, n2048, nJ_add, nJ_mul, nJ_sub, nJ_leT, nJ_leF, nJ_ltT, nJ_ltF, nJ_eqT, nJ_eqF, nJ_clamp, nJ_div, nM, iM_eqF, iM_eqF2, iM_leF, iM_ltF, iM_leT, iM_ltT, iM_add, iM_add0, natLeF, natLeT, natLtF, natLtT, natEqF, natEqT, if_true, if_false, ite_true, ite_false, false_or, or_false, or_self, Option.bind_some, ↓reduceIte]
  rw [e, key]
  rfl
theorem am_is0 {s : Nat → Nat} (h1 : s 1 ≤ s 0) (h2 : s 2 ≤ s 0) (h3 : s 3 ≤ s 0) : am s = 0 := by unfold am; rw [if_pos ⟨h1, h2, h3⟩]
theorem am_is1 {s : Nat → Nat} (h1 : s 0 < s 1) (h2 : s 2 ≤ s 1) (h3 : s 3 ≤ s 1) : am s = 1 := by unfold am; rw [if_neg (by omega), if_pos ⟨h2, h3⟩]
theorem am_is2 {s : Nat → Nat} (h1 : s 0 < s 2) (h2 : s 1 < s 2) (h3 : s 3 ≤ s 2) : am s = 2 := by unfold am; rw [if_neg (by omega), if_neg (by omega), if_pos h3]
theorem am_is3 {s : Nat → Nat} (h1 : s 0 < s 3) (h2 : s 1 < s 3) (h3 : s 2 < s 3) : am s = 3 := by unfold am; rw [if_neg (by omega), if_neg (by omega), if_neg (by omega)]
theorem l_M_classOf {h n : Nat} {f : Nat → Int32} {r : Nat → Nat} (hs : h ≤ 32) (hn : 2 * h * (2 * h) ≤ n) (hf : ∀ k, k < 2 * h * (2 * h) → f k = nI (r k)) (hr : ∀ k, k < 2 * h * (2 * h) → r k ≤ 255) :
    f_M_classOf (nI (2 * h)) n f = some (nI (am (qS r (2 * h) 0 0 h))) := by
  have Hq : ∀ q, q < 4 → f_M_quarterSum (nI (2 * h)) (nI q) n f = some (nI (qS r (2 * h) 0 0 h q)) := fun q hq => by
    rw [l_M_quarter hs hn hf hq]; unfold qS; rw [Nat.zero_add, Nat.zero_add]
  have B : ∀ q, q < 4 → qS r (2 * h) 0 0 h q ≤ 261120 := fun q hq => qS_le (by omega) hq (by omega) (by omega) hr
  generalize qS r (2 * h) 0 0 h = S at Hq B ⊢
  have b0 := B 0 (by omega)
  have b1 := B 1 (by omega)
  have b2 := B 2 (by omega)
  have b3 := B 3 (by omega)
  have q0 := Hq 0 (by omega)
  have q1 := Hq 1 (by omega)
  have q2 := Hq 2 (by omega)
  have q3 := Hq 3 (by omega)
  clear B Hq
  unfold f_M_classOf
  rw [show FU = 1048572 + 1 + 1 + 1 + 1 from rfl, f_M_classOf_4]
  by_cases c2 : S 2 < S 3
  · by_cases c1 : S 1 < S 3
    · by_cases c0 : S 0 < S 3
      · simp (disch := omega) only [n0, n1, n2, n3, n4, n5, n6, n7, n8, n10, n16, n40, n128, n255, n256, n1024, n2000, n2048, nJ_add, nJ_mul, nJ_sub, nJ_leT, nJ_leF, nJ_ltT, nJ_ltF, nJ_eqT, nJ_eqF, nJ_clamp, nJ_div, nM, iM_eqF, iM_eqF2, iM_leF, iM_ltF, iM_leT, iM_ltT, iM_add, iM_add0, natLeF, natLeT, natLtF, natLtT, natEqF, natEqT, if_true, if_false, ite_true, ite_false, false_or, or_false, or_self, Option.bind_some, ↓reduceIte, q0, q1, q2, q3, Nat.reduceSub, f_M_classOf_4, am_is3 c0 c1 c2]
      · simp (disch := omega) only [n0, n1, n2, n3, n4, n5, n6, n7, n8, n10, n16, n40, n128, n255, n256, n1024, n2000, n2048, nJ_add, nJ_mul, nJ_sub, nJ_leT, nJ_leF, nJ_ltT, nJ_ltF, nJ_eqT, nJ_eqF, nJ_clamp, nJ_div, nM, iM_eqF, iM_eqF2, iM_leF, iM_ltF, iM_leT, iM_ltT, iM_add, iM_add0, natLeF, natLeT, natLtF, natLtT, natEqF, natEqT, if_true, if_false, ite_true, ite_false, false_or, or_false, or_self, Option.bind_some, ↓reduceIte, q0, q1, q2, q3, Nat.reduceSub, f_M_classOf_4, am_is0 (s := S)]
    · by_cases c0 : S 0 < S 1
      · simp (disch := omega) only [n0, n1, n2, n3, n4, n5, n6, n7, n8, n10, n16, n40, n128, n255, n256, n1024, n2000, n2048, nJ_add, nJ_mul, nJ_sub, nJ_leT, nJ_leF, nJ_ltT, nJ_ltF, nJ_eqT, nJ_eqF, nJ_clamp, nJ_div, nM, iM_eqF, iM_eqF2, iM_leF, iM_ltF, iM_leT, iM_ltT, iM_add, iM_add0, natLeF, natLeT, natLtF, natLtT, natEqF, natEqT, if_true, if_false, ite_true, ite_false, false_or, or_false, or_self, Option.bind_some, ↓reduceIte, q0, q1, q2, q3, Nat.reduceSub, f_M_classOf_4, am_is1 (s := S)]
      · simp (disch := omega) only [n0, n1, n2, n3, n4, n5, n6, n7, n8, n10, n16, n40, n128, n255, n256, n1024, n2000, n2048, nJ_add, nJ_mul, nJ_sub, nJ_leT, nJ_leF, nJ_ltT, nJ_ltF, nJ_eqT, nJ_eqF, nJ_clamp, nJ_div, nM, iM_eqF, iM_eqF2, iM_leF, iM_ltF, iM_leT, iM_ltT, iM_add, iM_add0, natLeF, natLeT, natLtF, natLtT, natEqF, natEqT, if_true, if_false, ite_true, ite_false, false_or, or_false, or_self, Option.bind_some, ↓reduceIte, q0, q1, q2, q3, Nat.reduceSub, f_M_classOf_4, am_is0 (s := S)]
  · by_cases c1 : S 1 < S 2
    · by_cases c0 : S 0 < S 2
      · simp (disch := omega) only [n0, n1, n2, n3, n4, n5, n6, n7, n8, n10, n16, n40, n128, n255, n256, n1024, n2000, n2048, nJ_add, nJ_mul, nJ_sub, nJ_leT, nJ_leF, nJ_ltT, nJ_ltF, nJ_eqT, nJ_eqF, nJ_clamp, nJ_div, nM, iM_eqF, iM_eqF2, iM_leF, iM_ltF, iM_leT, iM_ltT, iM_add, iM_add0, natLeF, natLeT, natLtF, natLtT, natEqF, natEqT, if_true, if_false, ite_true, ite_false, false_or, or_false, or_self, Option.bind_some, ↓reduceIte, q0, q1, q2, q3, Nat.reduceSub, f_M_classOf_4, am_is2 (s := S)]
      · simp (disch := omega) only [n0, n1, n2, n3, n4, n5, n6, n7, n8, n10, n16, n40, n128, n255, n256, n1024, n2000, n2048, nJ_add, nJ_mul, nJ_sub, nJ_leT, nJ_leF, nJ_ltT, nJ_ltF, nJ_eqT, nJ_eqF, nJ_clamp, nJ_div, nM, iM_eqF, iM_eqF2, iM_leF, iM_ltF, iM_leT, iM_ltT, iM_add, iM_add0, natLeF, natLeT, natLtF, natLtT, natEqF, natEqT, if_true, if_false, ite_true, ite_false, false_or, or_false, or_self, Option.bind_some, ↓reduceIte, q0, q1, q2, q3, Nat.reduceSub, f_M_classOf_4, am_is0 (s := S)]
    · by_cases c0 : S 0 < S 1
      · simp (disch := omega) only [n0, n1, n2, n3, n4, n5, n6, n7, n8, n10, n16, n40, n128, n255, n256, n1024, n2000, n2048, nJ_add, nJ_mul, nJ_sub, nJ_leT, nJ_leF, nJ_ltT, nJ_ltF, nJ_eqT, nJ_eqF, nJ_clamp, nJ_div, nM, iM_eqF, iM_eqF2, iM_leF, iM_ltF, iM_leT, iM_ltT, iM_add, iM_add0, natLeF, natLeT, natLtF, natLtT, natEqF, natEqT, if_true, if_false, ite_true, ite_false, false_or, or_false, or_self, Option.bind_some, ↓reduceIte, q0, q1, q2, q3, Nat.reduceSub, f_M_classOf_4, am_is1 (s := S)]
      · simp (disch := omega) only [n0, n1, n2, n3, n4, n5, n6, n7, n8, n10, n16, n40, n128, n255, n256, n1024, n2000, n2048, nJ_add, nJ_mul, nJ_sub, nJ_leT, nJ_leF, nJ_ltT, nJ_ltF, nJ_eqT, nJ_eqF, nJ_clamp, nJ_div, nM, iM_eqF, iM_eqF2, iM_leF, iM_ltF, iM_leT, iM_ltT, iM_add, iM_add0, natLeF, natLeT, natLtF, natLtT, natEqF, natEqT, if_true, if_false, ite_true, ite_false, false_or, or_false, or_self, Option.bind_some, ↓reduceIte, q0, q1, q2, q3, Nat.reduceSub, f_M_classOf_4, am_is0 (s := S)]
/-- a block's quarters, laid out, are the picture's -/
theorem qS_blk {p : Nat → Nat} {s x y h q : Nat} (hq : q < 4) : qS (blk p s x y (2 * h)) (2 * h) 0 0 h q = qS p s x y h q := by
  unfold qS sqS
  refine sQ_congr (fun i j hi hj => ?_)
  have h1 := qmul (h := h) hq
  unfold blk
  have hx : 0 + q % 2 * h + i < 2 * h := by omega
  obtain ⟨e1, e2⟩ := rowOf (y := 0 + q / 2 * h + j) hx
  rw [e1, e2]
  congr 1
  rw [Nat.zero_add, Nat.zero_add, Nat.add_assoc (_ * s), Nat.add_assoc x, Nat.add_assoc y]
theorem l_kind {s x y h n m : Nat} {f fm g : Nat → Int32} {p : Nat → Nat} (hs : s ≤ 64) (h1 : h ≤ 8) (hx : x + 2 * h ≤ s) (hy : y + 2 * h ≤ s) (hn : s * s ≤ n) (hf : ∀ k, k < s * s → fm k = nI (p k)) (hp : ∀ k, k < s * s → p k ≤ 255) (hm : 256 ≤ m) :
    ∃ g', f_M_layBlock (nI x) (nI y) (nI (2 * h)) (nI s) n fm m g = some g' ∧ f_M_classOf (nI (2 * h)) m g' = some (nI (am (qS p s x y h))) ∧ (∀ k, k < 2 * h * (2 * h) → g' k = nI (blk p s x y (2 * h) k)) := by
  have hz : 2 * h * (2 * h) ≤ 256 := Nat.mul_le_mul (show 2 * h ≤ 16 by omega) (show 2 * h ≤ 16 by omega)
  have B : ∀ k, k < 2 * h * (2 * h) → blk p s x y (2 * h) k ≤ 255 := fun k hk => by
    unfold blk
    have hx' := modLt hk
    have hy' := divLt hk
    have := ix (x := x + k % (2 * h)) (y := y + k / (2 * h)) (s := s) (by omega) (by omega)
    exact hp _ (by omega)
  refine ⟨_, l_M_layBlock hs hx hy hn (by omega) hf, ?_, fun k hk => wr_lt hk⟩
  rw [l_M_classOf (f := wr g (fun k => nI (blk p s x y (2 * h) k)) (2 * h * (2 * h))) (r := blk p s x y (2 * h)) (by omega) (by omega) (fun k hk => wr_lt hk) B]
  have : am (qS (blk p s x y (2 * h)) (2 * h) 0 0 h) = am (qS p s x y h) := by
    unfold am
    rw [qS_blk (by omega), qS_blk (by omega), qS_blk (by omega), qS_blk (by omega)]
  rw [this]
end
section
/-! domains: a square of the half picture, turned -/
def srcX (m turn x y : Nat) : Nat := match turn with
  | 0 => x
  | 1 => y
  | 2 => m - x
  | 3 => m - y
  | 4 => m - x
  | 5 => m - y
  | 6 => x
  | _ => y
def srcY (m turn x y : Nat) : Nat := match turn with
  | 0 => y
  | 1 => m - x
  | 2 => m - y
  | 3 => x
  | 4 => y
  | 5 => m - x
  | 6 => m - y
  | _ => x
theorem turn8 {turn : Nat} (h : turn < 8) : turn = 0 ∨ turn = 1 ∨ turn = 2 ∨ turn = 3 ∨ turn = 4 ∨ turn = 5 ∨ turn = 6 ∨ turn = 7 := by omega
theorem srcX_le {m turn x y : Nat} (h : turn < 8) (hx : x ≤ m) (hy : y ≤ m) : srcX m turn x y ≤ m := by
  rcases turn8 h with rfl | rfl | rfl | rfl | rfl | rfl | rfl | rfl <;> simp only [srcX] <;> omega
theorem srcY_le {m turn x y : Nat} (h : turn < 8) (hx : x ≤ m) (hy : y ≤ m) : srcY m turn x y ≤ m := by
  rcases turn8 h with rfl | rfl | rfl | rfl | rfl | rfl | rfl | rfl <;> simp only [srcY] <;> omega
/-- the cell of a turned domain -/
def dcell (w left top m turn x y : Nat) : Nat := (top + srcY m turn x y) * w + left + srcX m turn x y
theorem dcell_lt {w left top m turn x y : Nat} (h : turn < 8) (hx : x ≤ m) (hy : y ≤ m) (hl : left + (m + 1) ≤ w) (ht : top + (m + 1) ≤ w) : dcell w left top m turn x y < w * w := by
  have h1 := srcX_le h hx hy
  have h2 := srcY_le h hx hy
  have := ix (x := left + srcX m turn x y) (y := top + srcY m turn x y) (s := w) (by omega) (by omega)
  unfold dcell; omega
theorem l_M_turned {w left top size turn k n : Nat} {f : Nat → Int32} (hw : w ≤ 64) (hl : left + size ≤ w) (ht : top + size ≤ w) (hn : w * w ≤ n) (hk : k < size * size) (h8 : turn < 8) :
    f_M_turned (nI w) (nI left) (nI top) (nI size) (nI turn) (nI k) n f = some (f (dcell w left top (size - 1) turn (k % size) (k / size))) := by
  have hd : k / size * size ≤ k := Nat.div_mul_le_self k size
  have hx := modLt hk
  have hy := divLt hk
  have hs2 := sq64 (show size ≤ 64 by omega)
  have hw2 := sq64 hw
  have hc := dcell_lt (w := w) (left := left) (top := top) (m := size - 1) (x := k % size) (y := k / size) h8 (by omega) (by omega) (by omega) (by omega)
  unfold f_M_turned
  rw [show FU = 1048572 + 1 + 1 + 1 + 1 from rfl]
  generalize hX : k % size = x at *
  generalize hY : k / size = y at *
  have hM : k - y * size = x := by
    have := modSub k size
    rw [hX, hY] at this; exact this
  rcases turn8 h8 with rfl | rfl | rfl | rfl | rfl | rfl | rfl | rfl <;> simp only [dcell, srcX, srcY] at hc ⊢
  · simp (disch := omega) only [n0, n1, n2, n3, n4, n5, n6, n7, n8, n10, n16, n40, n128, n255, n256, n1024, n2000, n2048, nJ_add, nJ_mul, nJ_sub, nJ_leT, nJ_leF, nJ_ltT, nJ_ltF, nJ_eqT, nJ_eqF, nJ_clamp, nJ_div, nM, iM_eqF, iM_eqF2, iM_leF, iM_ltF, iM_leT, iM_ltT, iM_add, iM_add0, natLeF, natLeT, natLtF, natLtT, natEqF, natEqT, if_true, if_false, ite_true, ite_false, false_or, or_false, or_self, Option.bind_some, ↓reduceIte, modSub, f_M_turned_17, hX, hY, hM, Nat.reduceDiv, Nat.reduceMul, Nat.reduceSub, Nat.reduceMod]
  · simp (disch := omega) only [n0, n1, n2, n3, n4, n5, n6, n7, n8, n10, n16, n40, n128, n255, n256, n1024, n2000, n2048, nJ_add, nJ_mul, nJ_sub, nJ_leT, nJ_leF, nJ_ltT, nJ_ltF, nJ_eqT, nJ_eqF, nJ_clamp, nJ_div, nM, iM_eqF, iM_eqF2, iM_leF, iM_ltF, iM_leT, iM_ltT, iM_add, iM_add0, natLeF, natLeT, natLtF, natLtT, natEqF, natEqT, if_true, if_false, ite_true, ite_false, false_or, or_false, or_self, Option.bind_some, ↓reduceIte, modSub, f_M_turned_17, hX, hY, hM, Nat.reduceDiv, Nat.reduceMul, Nat.reduceSub, Nat.reduceMod, Nat.zero_add]
  · simp (disch := omega) only [n0, n1, n2, n3, n4, n5, n6, n7, n8, n10, n16, n40, n128, n255, n256, n1024, n2000, n2048, nJ_add, nJ_mul, nJ_sub, nJ_leT, nJ_leF, nJ_ltT, nJ_ltF, nJ_eqT, nJ_eqF, nJ_clamp, nJ_div, nM, iM_eqF, iM_eqF2, iM_leF, iM_ltF, iM_leT, iM_ltT, iM_add, iM_add0, natLeF, natLeT, natLtF, natLtT, natEqF, natEqT, if_true, if_false, ite_true, ite_false, false_or, or_false, or_self, Option.bind_some, ↓reduceIte, modSub, f_M_turned_17, hX, hY, hM, Nat.reduceDiv, Nat.reduceMul, Nat.reduceSub, Nat.reduceMod, Nat.zero_add, Nat.reduceAdd]
  · have e : size - 1 - (size - 1 - x) = x := by omega
    simp (disch := omega) only [n0, n1, n2, n3, n4, n5, n6, n7, n8, n10, n16, n40, n128, n255, n256, n1024, n2000, n2048, nJ_add, nJ_mul, nJ_sub, nJ_leT, nJ_leF, nJ_ltT, nJ_ltF, nJ_eqT, nJ_eqF, nJ_clamp, nJ_div, nM, iM_eqF, iM_eqF2, iM_leF, iM_ltF, iM_leT, iM_ltT, iM_add, iM_add0, natLeF, natLeT, natLtF, natLtT, natEqF, natEqT, if_true, if_false, ite_true, ite_false, false_or, or_false, or_self, Option.bind_some, ↓reduceIte, modSub, f_M_turned_17, hX, hY, hM, Nat.reduceDiv, Nat.reduceMul, Nat.reduceSub, Nat.reduceMod, Nat.zero_add, Nat.reduceAdd, e]
  · simp (disch := omega) only [n0, n1, n2, n3, n4, n5, n6, n7, n8, n10, n16, n40, n128, n255, n256, n1024, n2000, n2048, nJ_add, nJ_mul, nJ_sub, nJ_leT, nJ_leF, nJ_ltT, nJ_ltF, nJ_eqT, nJ_eqF, nJ_clamp, nJ_div, nM, iM_eqF, iM_eqF2, iM_leF, iM_ltF, iM_leT, iM_ltT, iM_add, iM_add0, natLeF, natLeT, natLtF, natLtT, natEqF, natEqT, if_true, if_false, ite_true, ite_false, false_or, or_false, or_self, Option.bind_some, ↓reduceIte, modSub, f_M_turned_17, hX, hY, hM, Nat.reduceDiv, Nat.reduceMul, Nat.reduceSub, Nat.reduceMod, Nat.zero_add, Nat.reduceAdd]
  · simp (disch := omega) only [n0, n1, n2, n3, n4, n5, n6, n7, n8, n10, n16, n40, n128, n255, n256, n1024, n2000, n2048, nJ_add, nJ_mul, nJ_sub, nJ_leT, nJ_leF, nJ_ltT, nJ_ltF, nJ_eqT, nJ_eqF, nJ_clamp, nJ_div, nM, iM_eqF, iM_eqF2, iM_leF, iM_ltF, iM_leT, iM_ltT, iM_add, iM_add0, natLeF, natLeT, natLtF, natLtT, natEqF, natEqT, if_true, if_false, ite_true, ite_false, false_or, or_false, or_self, Option.bind_some, ↓reduceIte, modSub, f_M_turned_17, hX, hY, hM, Nat.reduceDiv, Nat.reduceMul, Nat.reduceSub, Nat.reduceMod, Nat.zero_add, Nat.reduceAdd]
  · have e : size - 1 - (size - 1 - x) = x := by omega
    simp (disch := omega) only [n0, n1, n2, n3, n4, n5, n6, n7, n8, n10, n16, n40, n128, n255, n256, n1024, n2000, n2048, nJ_add, nJ_mul, nJ_sub, nJ_leT, nJ_leF, nJ_ltT, nJ_ltF, nJ_eqT, nJ_eqF, nJ_clamp, nJ_div, nM, iM_eqF, iM_eqF2, iM_leF, iM_ltF, iM_leT, iM_ltT, iM_add, iM_add0, natLeF, natLeT, natLtF, natLtT, natEqF, natEqT, if_true, if_false, ite_true, ite_false, false_or, or_false, or_self, Option.bind_some, ↓reduceIte, modSub, f_M_turned_17, hX, hY, hM, Nat.reduceDiv, Nat.reduceMul, Nat.reduceSub, Nat.reduceMod, Nat.zero_add, Nat.reduceAdd, e]
  · have e : size - 1 - (size - 1 - x) = x := by omega
    have e2 : size - 1 - (size - 1 - y) = y := by omega
    simp (disch := omega) only [n0, n1, n2, n3, n4, n5, n6, n7, n8, n10, n16, n40, n128, n255, n256, n1024, n2000, n2048, nJ_add, nJ_mul, nJ_sub, nJ_leT, nJ_leF, nJ_ltT, nJ_ltF, nJ_eqT, nJ_eqF, nJ_clamp, nJ_div, nM, iM_eqF, iM_eqF2, iM_leF, iM_ltF, iM_leT, iM_ltT, iM_add, iM_add0, natLeF, natLeT, natLtF, natLtT, natEqF, natEqT, if_true, if_false, ite_true, ite_false, false_or, or_false, or_self, Option.bind_some, ↓reduceIte, modSub, f_M_turned_17, hX, hY, hM, Nat.reduceDiv, Nat.reduceMul, Nat.reduceSub, Nat.reduceMod, Nat.zero_add, Nat.reduceAdd, e, e2]
theorem t3 {turn : Nat} (h8 : turn < 8) : (nI turn &&& (3 : Int32)) = nI (turn % 4) := by
  rcases turn8 h8 with rfl | rfl | rfl | rfl | rfl | rfl | rfl | rfl <;> decide
theorem l_V_down {size turn x y : Nat} (hs : size ≤ 64) (hx : x < size) (hy : y < size) (h8 : turn < 8) : f_V_sourceDown (nI size) (nI turn) (nI x) (nI y) = some (nI (srcY (size - 1) turn x y)) := by
  unfold f_V_sourceDown
  rw [t3 h8]
  rcases turn8 h8 with rfl | rfl | rfl | rfl | rfl | rfl | rfl | rfl <;> simp only [srcY] <;> simp (disch := omega) only [n0, n1, n2, n3, n4, n5, n6, n7, n8, n10, n16, n40, n128, n255, n256, n1024, n2000, n2048, nJ_add, nJ_mul, nJ_sub, nJ_leT, nJ_leF, nJ_ltT, nJ_ltF, nJ_eqT, nJ_eqF, nJ_clamp, nJ_div, nM, iM_eqF, iM_eqF2, iM_leF, iM_ltF, iM_leT, iM_ltT, iM_add, iM_add0, natLeF, natLeT, natLtF, natLtT, natEqF, natEqT, if_true, if_false, ite_true, ite_false, false_or, or_false, or_self, Option.bind_some, ↓reduceIte, Nat.reduceMod]
theorem l_V_across {size turn x y : Nat} (hs : size ≤ 64) (hx : x < size) (hy : y < size) (h8 : turn < 8) : f_V_sourceAcross (nI size) (nI turn) (nI x) (nI y) = some (nI (srcX (size - 1) turn x y)) := by
  unfold f_V_sourceAcross
  rw [t3 h8]
  have e : size - 1 - (size - 1 - x) = x := by omega
  have e2 : size - 1 - (size - 1 - y) = y := by omega
  rcases turn8 h8 with rfl | rfl | rfl | rfl | rfl | rfl | rfl | rfl <;> simp only [srcX] <;> simp (disch := omega) only [n0, n1, n2, n3, n4, n5, n6, n7, n8, n10, n16, n40, n128, n255, n256, n1024, n2000, n2048, nJ_add, nJ_mul, nJ_sub, nJ_leT, nJ_leF, nJ_ltT, nJ_ltF, nJ_eqT, nJ_eqF, nJ_clamp, nJ_div, nM, iM_eqF, iM_eqF2, iM_leF, iM_ltF, iM_leT, iM_ltT, iM_add, iM_add0, natLeF, natLeT, natLtF, natLtT, natEqF, natEqT, if_true, if_false, ite_true, ite_false, false_or, or_false, or_self, Option.bind_some, ↓reduceIte, Nat.reduceMod, e, e2]
theorem l_V_cellFor {size turn x y left top w : Nat} (hs : size ≤ 64) (hx : x < size) (hy : y < size) (h8 : turn < 8) : f_V_cellFor (nI size) (nI turn) (nI x) (nI y) (nI left) (nI top) (nI w) = some (nI (dcell w left top (size - 1) turn x y)) := by
  unfold f_V_cellFor
  rw [l_V_down hs hx hy h8, l_V_across hs hx hy h8]
  simp (disch := omega) only [n0, n1, n2, n3, n4, n5, n6, n7, n8, n10, n16, n40, n128, n255, n256, n1024, n2000, n2048, nJ_add, nJ_mul, nJ_sub, nJ_leT, nJ_leF, nJ_ltT, nJ_ltF, nJ_eqT, nJ_eqF, nJ_clamp, nJ_div, nM, iM_eqF, iM_eqF2, iM_leF, iM_ltF, iM_leT, iM_ltT, iM_add, iM_add0, natLeF, natLeT, natLtF, natLtT, natEqF, natEqT, if_true, if_false, ite_true, ite_false, false_or, or_false, or_self, Option.bind_some, ↓reduceIte, dcell]
/-- domains in a row, for a half picture of side w and blocks of side 2 h -/
def dac (w h : Nat) : Nat := w / h - 1
theorem dac_pos {w h : Nat} (h1 : 0 < h) (h2 : 2 * h ≤ w) : 1 ≤ dac w h := by
  unfold dac
  have : 2 ≤ w / h := (Nat.le_div_iff_mul_le h1).mpr h2
  omega
theorem l_F_across {w h : Nat} (hw : w ≤ 32) (h1 : 0 < h) (h2 : 2 * h ≤ w) : f_F_domainsAcross (nI (2 * w)) (nI (2 * h)) = some (nI (dac w h)) := by
  unfold f_F_domainsAcross dac
  have e : 2 * w / (2 * h) = w / h := Nat.mul_div_mul_left w h (by omega)
  have : 2 ≤ w / h := (Nat.le_div_iff_mul_le h1).mpr h2
  have h3 : w / h ≤ w := Nat.div_le_self w h
  simp (disch := omega) only [n0, n1, n2, n3, n4, n5, n6, n7, n8, n10, n16, n40, n128, n255, n256, n1024, n2000, n2048, nJ_add, nJ_mul, nJ_sub, nJ_leT, nJ_leF, nJ_ltT, nJ_ltF, nJ_eqT, nJ_eqF, nJ_clamp, nJ_div, nM, iM_eqF, iM_eqF2, iM_leF, iM_ltF, iM_leT, iM_ltT, iM_add, iM_add0, natLeF, natLeT, natLtF, natLtT, natEqF, natEqT, if_true, if_false, ite_true, ite_false, false_or, or_false, or_self, Option.bind_some, ↓reduceIte, e]
theorem l_M_domains {w h : Nat} (hw : w ≤ 32) (h1 : 0 < h) (h2 : 2 * h ≤ w) : f_M_domains (nI (2 * h)) (nI (2 * w)) = some (nI (dac w h)) := by
  unfold f_M_domains dac
  have e : (2 * w - 2 * (2 * h)) / (2 * h) = w / h - 2 := by
    rw [Nat.mul_comm 2 (2 * h), Nat.sub_mul_div, Nat.mul_div_mul_left w h (by omega)]
  have : 2 ≤ w / h := (Nat.le_div_iff_mul_le h1).mpr h2
  have h3 : w / h ≤ w := Nat.div_le_self w h
  simp (disch := omega) only [n0, n1, n2, n3, n4, n5, n6, n7, n8, n10, n16, n40, n128, n255, n256, n1024, n2000, n2048, nJ_add, nJ_mul, nJ_sub, nJ_leT, nJ_leF, nJ_ltT, nJ_ltF, nJ_eqT, nJ_eqF, nJ_clamp, nJ_div, nM, iM_eqF, iM_eqF2, iM_leF, iM_ltF, iM_leT, iM_ltT, iM_add, iM_add0, natLeF, natLeT, natLtF, natLtT, natEqF, natEqT, if_true, if_false, ite_true, ite_false, false_or, or_false, or_self, Option.bind_some, ↓reduceIte, e]
  rw [show w / h - 2 + 1 = w / h - 1 by omega]
def domL (w h d : Nat) : Nat := d % dac w h * h
def domT (w h d : Nat) : Nat := d / dac w h * h
theorem dom_in {w h d : Nat} (h1 : 0 < h) (h2 : 2 * h ≤ w) (hd : d < dac w h * dac w h) : domL w h d + 2 * h ≤ w ∧ domT w h d + 2 * h ≤ w := by
  have ha := dac_pos h1 h2
  have hx := modLt hd
  have hy := divLt hd
  have key : ∀ i, i < dac w h → i * h + 2 * h ≤ w := fun i hi => by
    have e : i * h + 2 * h = (i + 2) * h := (Nat.add_mul i 2 h).symm
    rw [e]
    have : i + 2 ≤ w / h := by unfold dac at hi ha; omega
    exact Nat.le_trans (Nat.mul_le_mul_right h this) (Nat.div_mul_le_self w h)
  exact ⟨key _ hx, key _ hy⟩
theorem dom_le {w h d : Nat} (h1 : 0 < h) (h2 : 2 * h ≤ w) (hw : w ≤ 32) (hd : d < dac w h * dac w h) : dac w h ≤ 31 ∧ dac w h * dac w h ≤ 961 ∧ d < 961 := by
  have h3 : w / h ≤ w := Nat.div_le_self w h
  have h4 : dac w h ≤ 31 := by unfold dac; omega
  have h5 : dac w h * dac w h ≤ 31 * 31 := Nat.mul_le_mul h4 h4
  omega
theorem l_V_aim {w h d turn : Nat} {a b c : Int32} (hw : w ≤ 32) (h1 : 0 < h) (h2 : 2 * h ≤ w) (hd : d < dac w h * dac w h) (h8 : turn < 8) :
    f_V_aim (nI (2 * h)) (nI d) (nI turn) a b c (nI w) = some (nI (domL w h d), nI (domT w h d), nI (dcell w (domL w h d) (domT w h d) (2 * h - 1) turn 0 0), nI (dcell w (domL w h d) (domT w h d) (2 * h - 1) turn 1 0) - nI (dcell w (domL w h d) (domT w h d) (2 * h - 1) turn 0 0), nI (dcell w (domL w h d) (domT w h d) (2 * h - 1) turn 0 1) - nI (dcell w (domL w h d) (domT w h d) (2 * h - 1) turn 0 0)) := by
  have ha := dac_pos h1 h2
  obtain ⟨ha2, _, hd2⟩ := dom_le h1 h2 hw hd
  have hle : d / dac w h * dac w h ≤ d := Nat.div_mul_le_self d _
  have e1 : 2 * h / 2 = h := by omega
  have c0 := fun (x y : Nat) (hx : x < 2 * h) (hy : y < 2 * h) => l_V_cellFor (size := 2 * h) (turn := turn) (x := x) (y := y) (left := domL w h d) (top := domT w h d) (w := w) (by omega) hx hy h8
  have c00 := c0 0 0 (by omega) (by omega)
  have c10 := c0 1 0 (by omega) (by omega)
  have c01 := c0 0 1 (by omega) (by omega)
  unfold f_V_aim
  rw [n2, nJ_mul, l_F_across hw h1 h2]
  unfold domL domT at *
  generalize dac w h = A at *
  simp (disch := omega) only [n0, n1, n2, n3, n4, n5, n6, n7, n8, n10, n16, n40, n128, n255, n256, n1024, n2000, n2048, nJ_add, nJ_mul, nJ_sub, nJ_leT, nJ_leF, nJ_ltT, nJ_ltF, nJ_eqT, nJ_eqF, nJ_clamp, nJ_div, nM, iM_eqF, iM_eqF2, iM_leF, iM_ltF, iM_leT, iM_ltT, iM_add, iM_add0, natLeF, natLeT, natLtF, natLtT, natEqF, natEqT, if_true, if_false, ite_true, ite_false, false_or, or_false, or_self, Option.bind_some, ↓reduceIte, modSub, e1, c00, c10, c01]
theorem ofNat_ring {c00 c10 c01 x y z : Nat} (h : (c00 : Int) + x * ((c10 : Int) - c00) + y * ((c01 : Int) - c00) = z) : nI c00 + nI x * (nI c10 - nI c00) + nI y * (nI c01 - nI c00) = nI z := by
  simp only [nJ_int, ← Int32.ofInt_sub, ← Int32.ofInt_mul, ← Int32.ofInt_add, h]
theorem dcell_aff {w left top m turn x y : Nat} (hm : 1 ≤ m) (h8 : turn < 8) (hx : x ≤ m) (hy : y ≤ m) :
    ((dcell w left top m turn 0 0 : Nat) : Int) + x * (((dcell w left top m turn 1 0 : Nat) : Int) - (dcell w left top m turn 0 0 : Nat)) + y * (((dcell w left top m turn 0 1 : Nat) : Int) - (dcell w left top m turn 0 0 : Nat)) = (dcell w left top m turn x y : Nat) := by
  rcases turn8 h8 with rfl | rfl | rfl | rfl | rfl | rfl | rfl | rfl <;> simp only [dcell, srcX, srcY, Int.natCast_add, Int.natCast_mul, Nat.sub_zero, Int.ofNat_sub hm, Int.ofNat_sub hx, Int.ofNat_sub hy] <;> grind
theorem l_V_sample {w left top size turn x y n : Nat} {f : Nat → Int32} (hw : w ≤ 64) (hs : 2 ≤ size) (h8 : turn < 8) (hx : x < size) (hy : y < size) (hl : left + size ≤ w) (ht : top + size ≤ w) (hn : w * w ≤ n) (hn2 : n < 2147483648) :
    f_V_sample (nI x) (nI y) (nI (dcell w left top (size - 1) turn 0 0)) (nI (dcell w left top (size - 1) turn 1 0) - nI (dcell w left top (size - 1) turn 0 0)) (nI (dcell w left top (size - 1) turn 0 1) - nI (dcell w left top (size - 1) turn 0 0)) n f = some (f (dcell w left top (size - 1) turn x y)) := by
  have hc := dcell_lt (w := w) (left := left) (top := top) (m := size - 1) (turn := turn) (x := x) (y := y) h8 (by omega) (by omega) (by omega) (by omega)
  have hw2 := sq64 hw
  unfold f_V_sample
  rw [ofNat_ring (dcell_aff (by omega) h8 (show x ≤ size - 1 by omega) (show y ≤ size - 1 by omega))]
  simp (disch := omega) only [n0, n1, n2, n3, n4, n5, n6, n7, n8, n10, n16, n40, n128, n255, n256, n1024, n2000, n2048, nJ_add, nJ_mul, nJ_sub, nJ_leT, nJ_leF, nJ_ltT, nJ_ltF, nJ_eqT, nJ_eqF, nJ_clamp, nJ_div, nM, iM_eqF, iM_eqF2, iM_leF, iM_ltF, iM_leT, iM_ltT, iM_add, iM_add0, natLeF, natLeT, natLtF, natLtT, natEqF, natEqT, if_true, if_false, ite_true, ite_false, false_or, or_false, or_self, Option.bind_some, ↓reduceIte]
/-- the samples of a turned domain by running number -/
def dmn (q : Nat → Nat) (w h d turn k : Nat) : Nat := q (dcell w (domL w h d) (domT w h d) (2 * h - 1) turn (k % (2 * h)) (k / (2 * h)))
theorem l_M_layDomain {w h d turn m n : Nat} {f g : Nat → Int32} {q : Nat → Nat} (hw : w ≤ 32) (h1 : 0 < h) (h2 : 2 * h ≤ w) (hd : d < dac w h * dac w h) (h8 : turn < 8) (hn : w * w ≤ n) (hm : 2 * h * (2 * h) ≤ m) (hf : ∀ k, k < w * w → f k = nI (q k)) :
    f_M_layDomain (nI (2 * h)) (nI d) (nI turn) (nI (2 * w)) n f m g = some (wr g (fun k => nI (dmn q w h d turn k)) (2 * h * (2 * h))) := by
  have hw2 := sq64 (show 2 * h ≤ 64 by omega)
  have ha := dac_pos h1 h2
  obtain ⟨ha2, _, hd2⟩ := dom_le h1 h2 hw hd
  have hle : d / dac w h * dac w h ≤ d := Nat.div_mul_le_self d _
  obtain ⟨i1, i2⟩ := dom_in h1 h2 hd
  have e0 : 2 * w / 2 = w := by omega
  have e1 : 2 * h * (d % dac w h) / 2 = domL w h d := by
    unfold domL; rw [Nat.mul_assoc, Nat.mul_div_cancel_left _ (by omega), Nat.mul_comm]
  have e2 : 2 * h * (d / dac w h) / 2 = domT w h d := by
    unfold domT; rw [Nat.mul_assoc, Nat.mul_div_cancel_left _ (by omega), Nat.mul_comm]
  have b1 : 2 * h * (d % dac w h) ≤ 64 * 31 := Nat.mul_le_mul (by omega) (by have := modLt hd; omega)
  have b2 : 2 * h * (d / dac w h) ≤ 64 * 31 := Nat.mul_le_mul (by omega) (by have := divLt hd; omega)
  have key := lp_up (L := fun n' (z : Nat → Int32) v => f_M_layDomain_10 (nI (2 * h)) (nI d) (nI turn) (nI (dac w h)) (nI (2 * w)) n f m n' (nI v) z) (st := fun v => wr g (fun k => nI (dmn q w h d turn k)) v) (b := 2 * h * (2 * h)) (fin := (nI (2 * h * (2 * h)), wr g (fun k => nI (dmn q w h d turn k)) (2 * h * (2 * h))))
    (fun n' => by
      show f_M_layDomain_10 _ _ _ _ _ _ _ _ (n' + 1) _ _ = _
      rw [f_M_layDomain_10]
      simp (disch := omega) only [n0, n1, n2, n3, n4, n5, n6, n7, n8, n10, n16, n40, n128, n255, n256, n1024, n2000, n2048, nJ_add, nJ_mul, nJ_sub, nJ_leT, nJ_leF, nJ_ltT, nJ_ltF, nJ_eqT, nJ_eqF, nJ_clamp, nJ_div, nM, iM_eqF, iM_eqF2, iM_leF, iM_ltF, iM_leT, iM_ltT, iM_add, iM_add0, natLeF, natLeT, natLtF, natLtT, natEqF, natEqT, if_true, if_false, ite_true, ite_false, false_or, or_false, or_self, Option.bind_some, ↓reduceIte])
    (fun n' v hv => by
      show f_M_layDomain_10 _ _ _ _ _ _ _ _ (n' + 1) _ _ = f_M_layDomain_10 _ _ _ _ _ _ _ _ n' _ _
      rw [f_M_layDomain_10]
      have hx := modLt hv
      have hy := divLt hv
      have hc := dcell_lt (w := w) (left := domL w h d) (top := domT w h d) (m := 2 * h - 1) (turn := turn) (x := v % (2 * h)) (y := v / (2 * h)) h8 (by omega) (by omega) (by omega) (by omega)
      simp (disch := omega) only [n0, n1, n2, n3, n4, n5, n6, n7, n8, n10, n16, n40, n128, n255, n256, n1024, n2000, n2048, nJ_add, nJ_mul, nJ_sub, nJ_leT, nJ_leF, nJ_ltT, nJ_ltF, nJ_eqT, nJ_eqF, nJ_clamp, nJ_div, nM, iM_eqF, iM_eqF2, iM_leF, iM_ltF, iM_leT, iM_ltT, iM_add, iM_add0, natLeF, natLeT, natLtF, natLtT, natEqF, natEqT, if_true, if_false, ite_true, ite_false, false_or, or_false, or_self, Option.bind_some, ↓reduceIte, modSub, e0, e1, e2]
      rw [l_M_turned (by omega) i1 i2 hn hv h8, hf _ hc]
      simp (disch := omega) only [n0, n1, n2, n3, n4, n5, n6, n7, n8, n10, n16, n40, n128, n255, n256, n1024, n2000, n2048, nJ_add, nJ_mul, nJ_sub, nJ_leT, nJ_leF, nJ_ltT, nJ_ltF, nJ_eqT, nJ_eqF, nJ_clamp, nJ_div, nM, iM_eqF, iM_eqF2, iM_leF, iM_ltF, iM_leT, iM_ltT, iM_add, iM_add0, natLeF, natLeT, natLtF, natLtT, natEqF, natEqT, if_true, if_false, ite_true, ite_false, false_or, or_false, or_self, Option.bind_some, ↓reduceIte]
      rw [← wrS g (fun k => nI (dmn q w h d turn k)) v]
      simp only [dmn])
    FU 0 (Nat.zero_le _) (fu (by omega))
  have key : f_M_layDomain_10 (nI (2 * h)) (nI d) (nI turn) (nI (dac w h)) (nI (2 * w)) n f m FU 0 (wr g (fun k => nI (dmn q w h d turn k)) 0) = _ := key
  rw [wr0] at key
  unfold f_M_layDomain
  rw [l_M_domains hw h1 h2]
  simp only [Option.bind_some]
  rw [key]
  rfl
end
section
/-! numbers with a sign -/
def iI (z : Int) : Int32 := Int32.ofInt z
def lI (z : Int) : Int64 := Int64.ofInt z
theorem iI_add (a b : Int) : iI a + iI b = iI (a + b) := (Int32.ofInt_add a b).symm
theorem iI_sub (a b : Int) : iI a - iI b = iI (a - b) := (Int32.ofInt_sub a b).symm
theorem iI_mul (a b : Int) : iI a * iI b = iI (a * b) := (Int32.ofInt_mul a b).symm
theorem iI_neg (a : Int) : -iI a = iI (-a) := (Int32.ofInt_neg a).symm
theorem lI_add (a b : Int) : lI a + lI b = lI (a + b) := (Int64.ofInt_add a b).symm
theorem lI_sub (a b : Int) : lI a - lI b = lI (a - b) := (Int64.ofInt_sub a b).symm
theorem lI_mul (a b : Int) : lI a * lI b = lI (a * b) := (Int64.ofInt_mul a b).symm
theorem lI_neg (a : Int) : -lI a = lI (-a) := (Int64.ofInt_neg a).symm
theorem iI_toInt {z : Int} (h1 : -2147483648 ≤ z) (h2 : z < 2147483648) : (iI z).toInt = z := Int32.toInt_ofInt_of_le (by omega) (by omega)
theorem lI_toInt {z : Int} (h1 : -9223372036854775808 ≤ z) (h2 : z < 9223372036854775808) : (lI z).toInt = z := Int64.toInt_ofInt_of_le (by omega) (by omega)
theorem nJ_iI (n : Nat) : nI n = iI (n : Int) := nJ_int n
theorem iM_iI : iM = iI (-1) := rfl
theorem iI_leT {a b : Int} (h : a ≤ b) (h1 : -2147483648 ≤ a) (h2 : b < 2147483648) : (iI a ≤ iI b) = True := by
  rw [eq_iff_iff, Int32.le_iff_toInt_le, iI_toInt h1 (by omega), iI_toInt (by omega) h2]; simp <;> omega
theorem iI_leF {a b : Int} (h : b < a) (h1 : -2147483648 ≤ b) (h2 : a < 2147483648) : (iI a ≤ iI b) = False := by
  rw [eq_iff_iff, Int32.le_iff_toInt_le, iI_toInt (by omega) h2, iI_toInt h1 (by omega)]; simp <;> omega
theorem iI_ltT {a b : Int} (h : a < b) (h1 : -2147483648 ≤ a) (h2 : b < 2147483648) : (iI a < iI b) = True := by
  rw [eq_iff_iff, Int32.lt_iff_toInt_lt, iI_toInt h1 (by omega), iI_toInt (by omega) h2]; simp <;> omega
theorem iI_ltF {a b : Int} (h : b ≤ a) (h1 : -2147483648 ≤ b) (h2 : a < 2147483648) : (iI a < iI b) = False := by
  rw [eq_iff_iff, Int32.lt_iff_toInt_lt, iI_toInt (by omega) h2, iI_toInt h1 (by omega)]; simp <;> omega
theorem iI_inj {a b : Int} (h : iI a = iI b) (h1 : -2147483648 ≤ a) (h2 : a < 2147483648) (h3 : -2147483648 ≤ b) (h4 : b < 2147483648) : a = b := by
  have := congrArg Int32.toInt h
  rwa [iI_toInt h1 h2, iI_toInt h3 h4] at this
theorem iI_eqT {a b : Int} (h : a = b) : (iI a = iI b) = True := by simp [h]
theorem iI_eqF {a b : Int} (h : a ≠ b) (h1 : -2147483648 ≤ a) (h2 : a < 2147483648) (h3 : -2147483648 ≤ b) (h4 : b < 2147483648) : (iI a = iI b) = False := by
  rw [eq_iff_iff]; exact ⟨fun e => h (iI_inj e h1 h2 h3 h4), False.elim⟩
theorem lI_leT {a b : Int} (h : a ≤ b) (h1 : -9223372036854775808 ≤ a) (h2 : b < 9223372036854775808) : (lI a ≤ lI b) = True := by
  rw [eq_iff_iff, Int64.le_iff_toInt_le, lI_toInt h1 (by omega), lI_toInt (by omega) h2]; simp <;> omega
theorem lI_leF {a b : Int} (h : b < a) (h1 : -9223372036854775808 ≤ b) (h2 : a < 9223372036854775808) : (lI a ≤ lI b) = False := by
  rw [eq_iff_iff, Int64.le_iff_toInt_le, lI_toInt (by omega) h2, lI_toInt h1 (by omega)]; simp <;> omega
theorem lI_ltT {a b : Int} (h : a < b) (h1 : -9223372036854775808 ≤ a) (h2 : b < 9223372036854775808) : (lI a < lI b) = True := by
  rw [eq_iff_iff, Int64.lt_iff_toInt_lt, lI_toInt h1 (by omega), lI_toInt (by omega) h2]; simp <;> omega
theorem lI_ltF {a b : Int} (h : b ≤ a) (h1 : -9223372036854775808 ≤ b) (h2 : a < 9223372036854775808) : (lI a < lI b) = False := by
  rw [eq_iff_iff, Int64.lt_iff_toInt_lt, lI_toInt (by omega) h2, lI_toInt h1 (by omega)]; simp <;> omega
theorem lI_inj {a b : Int} (h : lI a = lI b) (h1 : -9223372036854775808 ≤ a) (h2 : a < 9223372036854775808) (h3 : -9223372036854775808 ≤ b) (h4 : b < 9223372036854775808) : a = b := by
  have := congrArg Int64.toInt h
  rwa [lI_toInt h1 h2, lI_toInt h3 h4] at this
theorem lI_eqT {a b : Int} (h : a = b) : (lI a = lI b) = True := by simp [h]
theorem lI_eqF {a b : Int} (h : a ≠ b) (h1 : -9223372036854775808 ≤ a) (h2 : a < 9223372036854775808) (h3 : -9223372036854775808 ≤ b) (h4 : b < 9223372036854775808) : (lI a = lI b) = False := by
  rw [eq_iff_iff]; exact ⟨fun e => h (lI_inj e h1 h2 h3 h4), False.elim⟩
theorem iI_long {z : Int} (h1 : -2147483648 ≤ z) (h2 : z < 2147483648) : (iI z).toInt64 = lI z := by
  apply Int64.toInt_inj.mp
  rw [Int32.toInt_toInt64, iI_toInt h1 h2, lI_toInt (by omega) (by omega)]
theorem nJ_long {a : Nat} (h : a < 2147483648) : (nI a).toInt64 = lI (a : Int) := by
  rw [nJ_iI, iI_long (by omega) (by omega)]
theorem lI_int (z : Int) : (lI z).toInt32 = iI z := by
  show (Int64.ofInt z).toInt32 = Int32.ofInt z
  simp [Int64.toInt32_ofInt]
theorem iI_div {a b : Int} (h1 : -2147483648 ≤ a) (h2 : a < 2147483648) (h3 : 0 < b) (h4 : b < 2147483648) : iI a / iI b = iI (a.tdiv b) := by
  apply Int32.toInt_inj.mp
  rw [Int32.toInt_div, iI_toInt h1 h2, iI_toInt (by omega) h4]
  show _ = (Int32.ofInt _).toInt
  rw [Int32.toInt_ofInt]
theorem lI_div {a b : Int} (h1 : -9223372036854775808 ≤ a) (h2 : a < 9223372036854775808) (h3 : 0 < b) (h4 : b < 9223372036854775808) : lI a / lI b = lI (a.tdiv b) := by
  apply Int64.toInt_inj.mp
  rw [Int64.toInt_div, lI_toInt h1 h2, lI_toInt (by omega) h4]
  show _ = (Int64.ofInt _).toInt
  rw [Int64.toInt_ofInt]
theorem l0 : (0 : Int64) = lI 0 := rfl
theorem l1 : (1 : Int64) = lI 1 := rfl
theorem l2 : (2 : Int64) = lI 2 := rfl
theorem l7 : (7 : Int64) = lI 7 := rfl
theorem l8 : (8 : Int64) = lI 8 := rfl
theorem l255 : (255 : Int64) = lI 255 := rfl
theorem intEqF {a b : Int} (h : a ≠ b) : (a = b) = False := by simp; omega
/-- division downward, by what Java has -/
theorem fl_pos {a b : Int} (ha : 0 ≤ a) : a.tdiv b = a / b := Int.tdiv_eq_ediv_of_nonneg ha
theorem fl_ex {a b : Int} (hb : 0 < b) (h : a.tdiv b * b = a) : a.tdiv b = a / b := by
  have : a / b = (a.tdiv b * b) / b := by rw [h]
  rw [this, Int.mul_ediv_cancel _ (by omega)]
theorem fl_neg {a b : Int} (hb : 0 < b) (ha : a < 0) (h : ¬ a.tdiv b * b = a) : a.tdiv b - 1 = a / b := by
  have e := Int.tdiv_eq_ediv (a := a) (b := b)
  rw [if_neg, Int.sign_eq_one_of_pos hb] at e
  · omega
  · rintro (q | q)
    · omega
    · exact h (Int.tdiv_mul_cancel q)
theorem tdiv_abs {a b : Int} (hb : 0 < b) (m : Int) (h1 : -m ≤ a) (h2 : a ≤ m) : -m ≤ a.tdiv b ∧ a.tdiv b ≤ m := by
  have hm : 0 ≤ m := by omega
  by_cases ha : 0 ≤ a
  · rw [fl_pos ha]
    have q1 : a / b ≤ a := Int.ediv_le_self b ha
    have q2 : 0 ≤ a / b := Int.ediv_nonneg ha (by omega)
    omega
  · have e : a.tdiv b = -((-a).tdiv b) := by rw [Int.neg_tdiv]; omega
    rw [e, fl_pos (by omega)]
    have q1 : (-a) / b ≤ -a := Int.ediv_le_self b (by omega)
    have q2 : 0 ≤ (-a) / b := Int.ediv_nonneg (by omega) (by omega)
    omega
theorem tdiv_mul_abs {a b : Int} (hb : 0 < b) (m : Int) (h1 : -m ≤ a) (h2 : a ≤ m) : -m ≤ a.tdiv b * b ∧ a.tdiv b * b ≤ m := by
  by_cases ha : 0 ≤ a
  · rw [fl_pos ha]
    have q1 : a / b * b ≤ a := Int.ediv_mul_le a (by omega)
    have q2 : 0 ≤ a / b * b := Int.mul_nonneg (Int.ediv_nonneg ha (by omega)) (by omega)
    omega
  · have e : a.tdiv b = -((-a).tdiv b) := by rw [Int.neg_tdiv]; omega
    rw [e, fl_pos (by omega), Int.neg_mul]
    have q1 : (-a) / b * b ≤ -a := Int.ediv_mul_le (-a) (by omega)
    have q2 : 0 ≤ (-a) / b * b := Int.mul_nonneg (Int.ediv_nonneg (by omega) (by omega)) (by omega)
    omega
theorem xor64 {x y : Int64} (hy : 0 ≤ y.toInt) : (0 ≤ x ^^^ y) = (0 ≤ x) := by
  rw [eq_iff_iff, Int64.le_iff_toInt_le, Int64.le_iff_toInt_le]
  have e0 : (0 : Int64).toInt = 0 := rfl
  rw [e0]
  have h1 : (x ^^^ y).toBitVec.msb = (x.toBitVec.msb ^^ y.toBitVec.msb) := by rw [Int64.toBitVec_xor, BitVec.msb_xor]
  rw [BitVec.msb_eq_toInt, BitVec.msb_eq_toInt, BitVec.msb_eq_toInt] at h1
  have h2 : decide (y.toBitVec.toInt < 0) = false := by
    have : y.toBitVec.toInt = y.toInt := rfl
    rw [this]; simp; omega
  rw [h2, Bool.xor_false, decide_eq_decide] at h1
  have a1 : (x ^^^ y).toBitVec.toInt = (x ^^^ y).toInt := rfl
  have a2 : x.toBitVec.toInt = x.toInt := rfl
  rw [a1, a2] at h1
  omega
theorem xor32 {x y : Int32} (hy : 0 ≤ y.toInt) : (0 ≤ x ^^^ y) = (0 ≤ x) := by
  rw [eq_iff_iff, Int32.le_iff_toInt_le, Int32.le_iff_toInt_le]
  have e0 : (0 : Int32).toInt = 0 := rfl
  rw [e0]
  have h1 : (x ^^^ y).toBitVec.msb = (x.toBitVec.msb ^^ y.toBitVec.msb) := by rw [Int32.toBitVec_xor, BitVec.msb_xor]
  rw [BitVec.msb_eq_toInt, BitVec.msb_eq_toInt, BitVec.msb_eq_toInt] at h1
  have h2 : decide (y.toBitVec.toInt < 0) = false := by
    have : y.toBitVec.toInt = y.toInt := rfl
    rw [this]; simp; omega
  rw [h2, Bool.xor_false, decide_eq_decide] at h1
  have a1 : (x ^^^ y).toBitVec.toInt = (x ^^^ y).toInt := rfl
  have a2 : x.toBitVec.toInt = x.toInt := rfl
  rw [a1, a2] at h1
  omega
theorem l_floorDiv64 {a b : Int} (h1 : -4611686018427387904 ≤ a) (h2 : a ≤ 4611686018427387904) (hb : 0 < b) (hb2 : b ≤ 4611686018427387904) : f_JM_floorDiv1 (lI a) (lI b) = some (lI (a / b)) := by
  unfold f_JM_floorDiv1
  have k1 := tdiv_mul_abs hb 4611686018427387904 h1 h2
  have k2 := tdiv_abs hb 4611686018427387904 h1 h2
  have hx : (0 ≤ (lI a ^^^ lI b)) = (0 ≤ lI a) := xor64 (by rw [lI_toInt (by omega) (by omega)]; omega)
  simp only [cmp_ge0, cmp_eq0, hx]
  rw [lI_div (by omega) (by omega) hb (by omega)]
  by_cases ha : 0 ≤ a
  · simp (disch := omega) only [l0, lI_eqF, lI_leT, ↓reduceIte, fl_pos ha]
  · by_cases hc : a.tdiv b * b = a
    · simp (disch := omega) only [l0, lI_eqF, lI_leF, lI_mul, lI_eqT, ↓reduceIte]
      rw [fl_ex hb hc]
    · simp (disch := omega) only [l0, l1, lI_eqF, lI_leF, lI_mul, lI_sub, ↓reduceIte, fl_neg hb (by omega) hc]
theorem l_floorDiv32 {a b : Int} (h1 : -1073741824 ≤ a) (h2 : a ≤ 1073741824) (hb : 0 < b) (hb2 : b ≤ 1073741824) : f_JM_floorDiv0 (iI a) (iI b) = some (iI (a / b)) := by
  unfold f_JM_floorDiv0
  have k1 := tdiv_mul_abs hb 1073741824 h1 h2
  have k2 := tdiv_abs hb 1073741824 h1 h2
  have hx : (0 ≤ (iI a ^^^ iI b)) = (0 ≤ iI a) := xor32 (by rw [iI_toInt (by omega) (by omega)]; omega)
  simp only [hx]
  rw [iI_div (by omega) (by omega) hb (by omega)]
  have i0 : (0 : Int32) = iI 0 := rfl
  have i1 : (1 : Int32) = iI 1 := rfl
  by_cases ha : 0 ≤ a
  · simp (disch := omega) only [i0, iI_eqF, iI_leT, ↓reduceIte, fl_pos ha]
  · by_cases hc : a.tdiv b * b = a
    · simp (disch := omega) only [i0, iI_eqF, iI_leF, iI_mul, iI_eqT, ↓reduceIte]
      rw [fl_ex hb hc]
    · simp (disch := omega) only [i0, i1, iI_eqF, iI_leF, iI_mul, iI_sub, ↓reduceIte, fl_neg hb (by omega) hc]
/-- the nearest quotient -/
def nrst (a b : Int) : Int := (2 * a + b) / (2 * b)
theorem l_F_nearest {a b : Int} (h1 : -1000000000000000000 ≤ a) (h2 : a ≤ 1000000000000000000) (hb : 0 < b) (hb2 : b ≤ 1000000000000000000) : f_F_nearest (lI a) (lI b) = some (lI (nrst a b)) := by
  unfold f_F_nearest nrst
  simp only [cmp_gt0]
  simp (disch := omega) only [l0, l2, lI_ltT, lI_mul, lI_add, ↓reduceIte]
  rw [l_floorDiv64 (by omega) (by omega) (by omega) (by omega)]
  rfl
theorem l_M_nearest {a b : Int} (h1 : -1000000000000000000 ≤ a) (h2 : a ≤ 1000000000000000000) (hb : 0 < b) (hb2 : b ≤ 1000000000000000000) : f_M_nearest (lI a) (lI b) = some (lI (nrst a b)) := by
  unfold f_M_nearest nrst
  have hB : 0 < 2 * b := by omega
  have k1 := tdiv_mul_abs hB 4611686018427387904 (show -4611686018427387904 ≤ 2 * a + b by omega) (by omega)
  have k2 := tdiv_abs hB 4611686018427387904 (show -4611686018427387904 ≤ 2 * a + b by omega) (by omega)
  simp only [cmp_ge0, cmp_eq0, l0, l1, l2, lI_mul, lI_add]
  rw [lI_div (by omega) (by omega) hB (by omega)]
  have e : (2 * a + b).tdiv (2 * b) * 2 * b = (2 * a + b).tdiv (2 * b) * (2 * b) := by rw [Int.mul_assoc]
  simp only [lI_mul, e, lI_sub]
  by_cases ha : 0 ≤ 2 * a + b
  · simp (disch := omega) only [lI_eqF, lI_leT, ↓reduceIte, fl_pos ha]
  · by_cases hc : (2 * a + b).tdiv (2 * b) * (2 * b) = 2 * a + b
    · simp (disch := omega) only [lI_eqF, lI_leF, lI_eqT, ↓reduceIte]
      rw [fl_ex hB hc]
    · simp (disch := omega) only [lI_eqF, lI_leF, ↓reduceIte, fl_neg hB (by omega) hc]
/-- a sample dimmed -/
def dim (s : Int) (d : Nat) : Int := s * (d : Int) / 8
theorem sd_bound {s : Int} {d : Nat} (h1 : -7 ≤ s) (h2 : s ≤ 7) (hd : d ≤ 255) : -1785 ≤ s * (d : Int) ∧ s * (d : Int) ≤ 1785 := by
  have a1 : s * (d : Int) ≤ 7 * (d : Int) := Int.mul_le_mul_of_nonneg_right h2 (by omega)
  have a2 : -7 * (d : Int) ≤ s * (d : Int) := Int.mul_le_mul_of_nonneg_right h1 (by omega)
  omega
theorem dim_bound {s : Int} {d : Nat} (h1 : -7 ≤ s) (h2 : s ≤ 7) (hd : d ≤ 255) : -224 ≤ dim s d ∧ dim s d ≤ 223 := by
  have := sd_bound h1 h2 hd
  unfold dim; omega
theorem l_F_dimmed {s : Int} {d : Nat} (h1 : -7 ≤ s) (h2 : s ≤ 7) (hd : d ≤ 255) : f_F_dimmed (nI d) (iI s) = some (iI (dim s d)) := by
  have := sd_bound h1 h2 hd
  unfold f_F_dimmed
  rw [nJ_iI, iI_mul, show (8 : Int32) = iI 8 from rfl, l_floorDiv32 (by omega) (by omega) (by omega) (by omega)]
  rfl
theorem l_M_mapped {s : Int} {d : Nat} (h1 : -7 ≤ s) (h2 : s ≤ 7) (hd : d ≤ 255) : f_M_mapped (iI s) (nI d) = some (iI (dim s d)) := by
  have hb := sd_bound h1 h2 hd
  unfold f_M_mapped dim
  rw [nJ_iI, iI_mul]
  have i0 : (0 : Int32) = iI 0 := rfl
  have i7 : (7 : Int32) = iI 7 := rfl
  have i8 : (8 : Int32) = iI 8 := rfl
  by_cases hc : 0 ≤ s * (d : Int)
  · simp (disch := omega) only [i0, i8, iI_leT, ↓reduceIte, iI_div, fl_pos hc]
  · simp (disch := omega) only [i0, i7, i8, iI_leF, ↓reduceIte, iI_sub, iI_div, iI_neg]
    rw [fl_pos (by omega)]
    congr 2; omega
def clampI (lo hi z : Int) : Int := if z < lo then lo else if hi < z then hi else z
theorem clampI_in {lo hi z : Int} (h : lo ≤ hi) : lo ≤ clampI lo hi z ∧ clampI lo hi z ≤ hi := by unfold clampI; split; omega; split <;> omega
theorem l_F_brought {a lo hi : Int} (h : lo ≤ hi) (h1 : -9223372036854775808 ≤ a) (h2 : a < 9223372036854775808) (h3 : -1000000 ≤ lo) (h4 : hi ≤ 1000000) : f_F_brought (lI a) (lI lo) (lI hi) = some (lI (clampI lo hi a)) := by
  unfold f_F_brought clampI
  by_cases c1 : hi < a
  · simp (disch := omega) only [lI_ltT, lI_ltF, ↓reduceIte]
    rw [if_neg (by omega), if_pos c1]
  · by_cases c2 : a < lo
    · simp (disch := omega) only [lI_ltT, lI_ltF, ↓reduceIte]
      rw [if_pos c2]
    · simp (disch := omega) only [lI_ltT, lI_ltF, ↓reduceIte]
      rw [if_neg (by omega), if_neg c1]
theorem l_M_brought {a lo hi : Int} (h : lo ≤ hi) (h1 : -9223372036854775808 ≤ a) (h2 : a < 9223372036854775808) (h3 : -1000000 ≤ lo) (h4 : hi ≤ 1000000) : f_M_brought (lI a) (iI lo) (iI hi) = some (iI (clampI lo hi a)) := by
  unfold f_M_brought clampI
  simp only [cmp_ge0, cmp_le0]
  simp (disch := omega) only [iI_long]
  by_cases c1 : hi < a
  · simp (disch := omega) only [lI_leT, lI_leF, ↓reduceIte]
    rw [if_neg (by omega), if_pos c1]
  · by_cases c2 : a < lo
    · simp (disch := omega) only [lI_leT, lI_leF, ↓reduceIte]
      rw [if_pos c2]
    · simp (disch := omega) only [lI_leT, lI_leF, ↓reduceIte, lI_int]
      rw [if_neg (by omega), if_neg c1]
end
section
/-! the fit of a domain to a block: what it is -/
def sI (g : Nat → Int) : Nat → Int
  | 0 => 0
  | n + 1 => sI g n + g n
theorem sI_congr {g h : Nat → Int} {n : Nat} (e : ∀ k, k < n → g k = h k) : sI g n = sI h n := by
  induction n with
  | zero => rfl
  | succ n ih => rw [sI, sI, ih (fun k hk => e k (by omega)), e n (by omega)]
theorem sI_nat (g : Nat → Nat) (n : Nat) : sI (fun k => (g k : Int)) n = (sN g n : Int) := by
  induction n with
  | zero => rfl
  | succ n ih => rw [sI, sN, ih]; omega
theorem sI_sub (g h : Nat → Int) (n : Nat) : sI (fun k => g k - h k) n = sI g n - sI h n := by
  induction n with
  | zero => rfl
  | succ n ih => simp only [sI, ih]; omega
theorem sI_bound {g : Nat → Int} {n : Nat} {a b : Int} (e : ∀ k, k < n → a ≤ g k ∧ g k ≤ b) : n * a ≤ sI g n ∧ sI g n ≤ n * b := by
  induction n with
  | zero => simp [sI]
  | succ n ih =>
    have h1 := ih (fun k hk => e k (by omega)); have h2 := e n (by omega)
    rw [sI, Int.natCast_add, Int.add_mul, Int.add_mul]; omega
theorem sI_sqr (g : Nat → Int) (c : Int) (n : Nat) : sI (fun k => (g k - c) * (g k - c)) n = sI (fun k => g k * g k) n - 2 * c * sI g n + n * c * c := by
  induction n with
  | zero => simp [sI]
  | succ n ih => simp only [sI, ih, Int.natCast_add]; grind
theorem sqr_nonneg (x : Int) : 0 ≤ x * x := by
  rcases Int.le_total 0 x with h | h
  · exact Int.mul_nonneg h h
  · have := Int.mul_nonneg (show 0 ≤ -x by omega) (show 0 ≤ -x by omega)
    rwa [Int.neg_mul_neg] at this
theorem sI_sq_nonneg (g : Nat → Int) (n : Nat) : 0 ≤ sI (fun k => g k * g k) n := by
  induction n with
  | zero => simp [sI]
  | succ n ih => rw [sI]; have := sqr_nonneg (g n); omega
/-- Cauchy and Schwarz -/
theorem cauchy (g : Nat → Int) (n : Nat) : 0 ≤ n * sI (fun k => g k * g k) n - sI g n * sI g n := by
  induction n with
  | zero => simp [sI]
  | succ n ih =>
    have h1 := sI_sq_nonneg (fun k => g k - g n) n
    have h2 := sI_sqr g (g n) n
    have h1 : 0 ≤ sI (fun k => (g k - g n) * (g k - g n)) n := h1
    rw [h2] at h1
    have e : ((n + 1 : Nat) : Int) * sI (fun k => g k * g k) (n + 1) - sI g (n + 1) * sI g (n + 1) = (n * sI (fun k => g k * g k) n - sI g n * sI g n) + (sI (fun k => g k * g k) n - 2 * g n * sI g n + n * g n * g n) := by
      simp only [sI, Int.natCast_add]; grind
    rw [e]; omega
def fP (D R : Nat → Nat) (n : Nat) : Int := (n : Int) * (sN (fun k => D k * R k) n : Nat) - (sN D n : Nat) * (sN R n : Nat)
def fQ (D : Nat → Nat) (n : Nat) : Int := (n : Int) * (sN (fun k => D k * D k) n : Nat) - (sN D n : Nat) * (sN D n : Nat)
def fS (D R : Nat → Nat) (n : Nat) : Int := if fQ D n = 0 then 0 else clampI (-7) 7 (nrst (8 * fP D R n) (fQ D n))
def fR (D R : Nat → Nat) (n : Nat) : Int := sI (fun k => (R k : Int) - dim (fS D R n) (D k)) n
def fO (D R : Nat → Nat) (n : Nat) : Int := nrst (fR D R n) n
def fE (D R : Nat → Nat) (n : Nat) : Int := sI (fun k => ((R k : Int) - dim (fS D R n) (D k) - fO D R n) * ((R k : Int) - dim (fS D R n) (D k) - fO D R n)) n
theorem fQ_nonneg (D : Nat → Nat) (n : Nat) : 0 ≤ fQ D n := by
  have h := cauchy (fun k => (D k : Int)) n
  rw [sI_nat] at h
  have e : sI (fun k => (D k : Int) * (D k : Int)) n = ((sN (fun k => D k * D k) n : Nat) : Int) := by
    rw [← sI_nat]; exact sI_congr (fun k _ => (Int.natCast_mul _ _).symm)
  rw [e] at h
  exact h
theorem fS_in (D R : Nat → Nat) (n : Nat) : -7 ≤ fS D R n ∧ fS D R n ≤ 7 := by
  unfold fS; split
  · omega
  · exact clampI_in (by omega)
section
variable {D R : Nat → Nat} {n : Nat} (hn : n ≤ 256) (hD : ∀ k, k < n → D k ≤ 255) (hR : ∀ k, k < n → R k ≤ 255)
theorem sN_b (hn : n ≤ 256) (hD : ∀ k, k < n → D k ≤ 255) : sN D n ≤ 65280 := by
  have := sN_le hD; have : n * 255 ≤ 256 * 255 := Nat.mul_le_mul_right _ hn; omega
theorem sN_bb (hn : n ≤ 256) (hD : ∀ k, k < n → D k ≤ 255) (hR : ∀ k, k < n → R k ≤ 255) : sN (fun k => D k * R k) n ≤ 16646400 := by
  have := sN_le (g := fun k => D k * R k) (c := 65025) (n := n) (fun k hk => Nat.mul_le_mul (hD k hk) (hR k hk)); have : n * 65025 ≤ 256 * 65025 := Nat.mul_le_mul_right _ hn; omega
theorem prod_b {a b A B : Nat} (h1 : a ≤ A) (h2 : b ≤ B) : (a : Int) * (b : Int) ≤ (A * B : Nat) ∧ 0 ≤ (a : Int) * (b : Int) := by
  have h := Nat.mul_le_mul h1 h2
  rw [← Int.natCast_mul]; omega
theorem fP_b (hn : n ≤ 256) (hD : ∀ k, k < n → D k ≤ 255) (hR : ∀ k, k < n → R k ≤ 255) : -4261478400 ≤ fP D R n ∧ fP D R n ≤ 4261478400 := by
  unfold fP
  have h1 := prod_b hn (sN_bb hn hD hR)
  have h2 := prod_b (sN_b hn hD) (sN_b hn hR)
  omega
theorem fQ_b (hn : n ≤ 256) (hD : ∀ k, k < n → D k ≤ 255) : fQ D n ≤ 4261478400 := by
  unfold fQ
  have h1 := prod_b hn (sN_bb hn hD hD)
  have h2 := prod_b (sN_b hn hD) (sN_b hn hD)
  omega
theorem rest_b (hD : ∀ k, k < n → D k ≤ 255) (hR : ∀ k, k < n → R k ≤ 255) (k : Nat) (hk : k < n) : -223 ≤ (R k : Int) - dim (fS D R n) (D k) ∧ (R k : Int) - dim (fS D R n) (D k) ≤ 479 := by
  have h1 := dim_bound (fS_in D R n).1 (fS_in D R n).2 (hD k hk)
  have h2 := hR k hk
  omega
theorem fR_b (hn : n ≤ 256) (hD : ∀ k, k < n → D k ≤ 255) (hR : ∀ k, k < n → R k ≤ 255) : (n : Int) * -223 ≤ fR D R n ∧ fR D R n ≤ n * 479 := sI_bound (fun k hk => rest_b hD hR k hk)
theorem fO_b (h0 : 0 < n) (hn : n ≤ 256) (hD : ∀ k, k < n → D k ≤ 255) (hR : ∀ k, k < n → R k ≤ 255) : -223 ≤ fO D R n ∧ fO D R n ≤ 479 := by
  unfold fO nrst
  have h1 := fR_b hn hD hR
  have hp : (0 : Int) < 2 * n := by omega
  constructor
  · rw [Int.le_ediv_iff_mul_le hp]
    have : -223 * (2 * (n : Int)) = 2 * ((n : Int) * -223) := by grind
    omega
  · have : (2 * fR D R n + n) / (2 * n) < 480 := by
      rw [Int.ediv_lt_iff_lt_mul hp]
      have : 480 * (2 * (n : Int)) = 2 * ((n : Int) * 479) + 2 * n := by grind
      omega
    omega
theorem fE_b (h0 : 0 < n) (hn : n ≤ 256) (hD : ∀ k, k < n → D k ≤ 255) (hR : ∀ k, k < n → R k ≤ 255) : 0 ≤ fE D R n ∧ fE D R n ≤ 126157824 := by
  have ho := fO_b h0 hn hD hR
  have h := sI_bound (g := fun k => ((R k : Int) - dim (fS D R n) (D k) - fO D R n) * ((R k : Int) - dim (fS D R n) (D k) - fO D R n)) (n := n) (a := 0) (b := 492804) (fun k hk => by
    have h1 := rest_b hD hR k hk
    generalize hx : (R k : Int) - dim (fS D R n) (D k) - fO D R n = x
    refine ⟨sqr_nonneg x, ?_⟩
    rcases Int.le_total 0 x with q | q
    · exact Int.le_trans (Int.mul_le_mul (show x ≤ 702 by omega) (show x ≤ 702 by omega) q (by omega)) (by decide)
    · have := Int.mul_le_mul (show -x ≤ 702 by omega) (show -x ≤ 702 by omega) (by omega) (by omega)
      rw [Int.neg_mul_neg] at this
      exact Int.le_trans this (by decide))
  unfold fE
  have : (n : Int) * 492804 ≤ 256 * 492804 := Int.mul_le_mul_of_nonneg_right (by omega) (by omega)
  omega
/-- the class's way to the error -/
theorem fE_eq : fE D R n = sI (fun k => ((R k : Int) - dim (fS D R n) (D k)) * ((R k : Int) - dim (fS D R n) (D k))) n - 2 * fO D R n * fR D R n + n * fO D R n * fO D R n := by
  unfold fE fR
  exact sI_sqr (fun k => (R k : Int) - dim (fS D R n) (D k)) (fO D R n) n
end
theorem nsubI (a : Nat) (z : Int) : nI a - iI z = iI ((a : Int) - z) := by rw [nJ_iI, iI_sub]
/-! the class's fit -/
theorem l_S_contrast_37 {D R : Nat → Nat} {n wn dn : Nat} {W Df : Nat → Int32} {z : Int64} (hn : n ≤ 256) (hwn : n ≤ wn) (hdn : n ≤ dn) (hW : ∀ k, k < n → W k = nI (R k)) (hDf : ∀ k, k < n → Df k = nI (D k)) (hD : ∀ k, k < n → D k ≤ 255) (hR : ∀ k, k < n → R k ≤ 255) :
    f_S_contrastWanted_37 z (nI n) wn W dn Df FU 0 0 = some (lI (sN (fun k => D k * R k) n : Nat), nI n) := by
  have key := lp_up (L := fun n' (a : Nat) v => f_S_contrastWanted_37 z (nI n) wn W dn Df n' (lI (a : Int)) (nI v)) (st := fun v => sN (fun k => D k * R k) v) (b := n) (fin := (lI (sN (fun k => D k * R k) n : Nat), nI n))
    (fun n' => by
      show f_S_contrastWanted_37 _ _ _ _ _ _ (n' + 1) _ _ = _
      rw [f_S_contrastWanted_37]
      simp (disch := omega) only [n0, n1, n2, n3, n4, n5, n6, n7, n8, n10, n16, n40, n128, n255, n256, n1024, n2000, n2048, nJ_add, nJ_mul, nJ_sub, nJ_leT, nJ_leF, nJ_ltT, nJ_ltF, nJ_eqT, nJ_eqF, nJ_clamp, nJ_div, nM, iM_eqF, iM_eqF2, iM_leF, iM_ltF, iM_leT, iM_ltT, iM_add, iM_add0, natLeF, natLeT, natLtF, natLtT, natEqF, natEqT, if_true, if_false, ite_true, ite_false, false_or, or_false, or_self, Option.bind_some, ↓reduceIte])
    (fun n' v hv => by
      show f_S_contrastWanted_37 _ _ _ _ _ _ (n' + 1) _ _ = f_S_contrastWanted_37 _ _ _ _ _ _ n' _ _
      rw [f_S_contrastWanted_37]
      have b1 := hD v hv
      have b2 := hR v hv
      have e : ((sN (fun k => D k * R k) (v + 1) : Nat) : Int) = (sN (fun k => D k * R k) v : Nat) + (R v : Int) * (D v : Int) := by
        rw [sN, Int.natCast_add, Int.natCast_mul, Int.mul_comm]
      simp (disch := omega) only [n0, n1, n2, n3, n4, n5, n6, n7, n8, n10, n16, n40, n128, n255, n256, n1024, n2000, n2048, nJ_add, nJ_mul, nJ_sub, nJ_leT, nJ_leF, nJ_ltT, nJ_ltF, nJ_eqT, nJ_eqF, nJ_clamp, nJ_div, nM, iM_eqF, iM_eqF2, iM_leF, iM_ltF, iM_leT, iM_ltT, iM_add, iM_add0, natLeF, natLeT, natLtF, natLtT, natEqF, natEqT, if_true, if_false, ite_true, ite_false, false_or, or_false, or_self, Option.bind_some, ↓reduceIte, hW, hDf, nJ_long, lI_mul, lI_add, e])
    FU 0 (Nat.zero_le _) (fu (by omega))
  exact key
theorem i0I : (0 : Int32) = iI 0 := rfl
theorem lm7 : (-7 : Int64) = lI (-7) := rfl
theorem nrst_b {a b : Int} (h1 : -100000000000 ≤ a) (h2 : a ≤ 100000000000) (hb : 0 < b) (hb2 : b ≤ 100000000000) : -9223372036854775808 ≤ nrst a b ∧ nrst a b < 9223372036854775808 := by
  unfold nrst
  have h1 := tdiv_abs (a := 2 * a + b) (b := 2 * b) (by omega) 1000000000000 (by omega) (by omega)
  have h2 := Int.tdiv_eq_ediv (a := 2 * a + b) (b := 2 * b)
  rw [Int.sign_eq_one_of_pos (by omega)] at h2
  split at h2 <;> omega
theorem l_brought7 {z : Int} (h1 : -9223372036854775808 ≤ z) (h2 : z < 9223372036854775808) : (f_F_brought (lI z) (-7) 7).bind (fun q => some q.toInt32) = some (iI (clampI (-7) 7 z)) := by
  have e := l_F_brought (a := z) (lo := -7) (hi := 7) (by decide) h1 h2 (by decide) (by decide)
  rw [lm7, l7, e]
  exact congrArg some (lI_int _)
theorem contrast_core {Q P : Int} (q0 : 0 ≤ Q) (q1 : Q ≤ 4261478400) (p1 : -4261478400 ≤ P) (p2 : P ≤ 4261478400) :
    (if lI 0 < lI Q then (f_F_nearest (lI (8 * P)) (lI Q)).bind (fun q310 => (f_F_brought q310 (-7) 7).bind (fun q312 => some q312.toInt32)) else some 0) = some (iI (if Q = 0 then 0 else clampI (-7) 7 (nrst (8 * P) Q))) := by
  by_cases c : Q = 0
  · rw [if_pos c]
    simp (disch := omega) only [lI_ltF, ↓reduceIte]
    exact congrArg some i0I
  · rw [if_neg c]
    simp (disch := omega) only [lI_ltT, ↓reduceIte]
    have hb := nrst_b (a := 8 * P) (b := Q) (by omega) (by omega) (by omega) (by omega)
    rw [l_F_nearest (by omega) (by omega) (by omega) (by omega), Option.bind_some, l_brought7 hb.1 hb.2]
theorem l_S_contrast {D R : Nat → Nat} {n wn dn : Nat} {W Df : Nat → Int32} (hn : n ≤ 256) (hwn : n ≤ wn) (hdn : n ≤ dn) (hW : ∀ k, k < n → W k = nI (R k)) (hDf : ∀ k, k < n → Df k = nI (D k)) (hD : ∀ k, k < n → D k ≤ 255) (hR : ∀ k, k < n → R k ≤ 255) :
    f_S_contrastWanted (nI n) (nI (sN R n)) (nI (sN D n)) (nI (sN (fun k => D k * D k) n)) wn W dn Df = some (iI (fS D R n)) := by
  have b1 := sN_b hn hD
  have b2 := sN_b hn hR
  have b3 := sN_bb hn hD hD
  have main := contrast_core (fQ_nonneg D n) (fQ_b hn hD) (fP_b hn hD hR).1 (fP_b hn hD hR).2
  unfold fQ fP at main
  unfold f_S_contrastWanted fS fQ fP
  rw [l_S_contrast_37 hn hwn hdn hW hDf hD hR]
  simp only [cmp_gt0, Option.bind_some]
  simp (disch := omega) only [nJ_long, lI_mul, lI_sub, l0, l8]
  exact main
theorem l_S_try_31 {D R : Nat → Nat} {n wn dn : Nat} {W Df : Nat → Int32} {a b : Int32} {s : Int} (hs : -7 ≤ s ∧ s ≤ 7) (hn : n ≤ 256) (hwn : n ≤ wn) (hdn : n ≤ dn) (hW : ∀ k, k < n → W k = nI (R k)) (hDf : ∀ k, k < n → Df k = nI (D k)) (hD : ∀ k, k < n → D k ≤ 255) :
    f_S_tryTurn_31 a b (iI s) (nI n) wn W dn Df FU 0 0 0 = some (iI (sI (fun k => (R k : Int) - dim s (D k)) n), iI (sI (fun k => ((R k : Int) - dim s (D k)) * ((R k : Int) - dim s (D k))) n), nI n) := by
  have key := lp_up (L := fun n' (z : Int × Int) v => f_S_tryTurn_31 a b (iI s) (nI n) wn W dn Df n' (iI z.1) (iI z.2) (nI v)) (st := fun v => (sI (fun k => (R k : Int) - dim s (D k)) v, sI (fun k => ((R k : Int) - dim s (D k)) * ((R k : Int) - dim s (D k))) v)) (b := n) (fin := (iI (sI (fun k => (R k : Int) - dim s (D k)) n), iI (sI (fun k => ((R k : Int) - dim s (D k)) * ((R k : Int) - dim s (D k))) n), nI n))
    (fun n' => by
      show f_S_tryTurn_31 _ _ _ _ _ _ _ _ (n' + 1) _ _ _ = _
      rw [f_S_tryTurn_31]
      simp (disch := omega) only [n0, n1, n2, n3, n4, n5, n6, n7, n8, n10, n16, n40, n128, n255, n256, n1024, n2000, n2048, nJ_add, nJ_mul, nJ_sub, nJ_leT, nJ_leF, nJ_ltT, nJ_ltF, nJ_eqT, nJ_eqF, nJ_clamp, nJ_div, nM, iM_eqF, iM_eqF2, iM_leF, iM_ltF, iM_leT, iM_ltT, iM_add, iM_add0, natLeF, natLeT, natLtF, natLtT, natEqF, natEqT, if_true, if_false, ite_true, ite_false, false_or, or_false, or_self, Option.bind_some, ↓reduceIte])
    (fun n' v hv => by
      show f_S_tryTurn_31 _ _ _ _ _ _ _ _ (n' + 1) _ _ _ = f_S_tryTurn_31 _ _ _ _ _ _ _ _ n' _ _ _
      rw [f_S_tryTurn_31]
      have b1 := hD v hv
      simp (disch := omega) only [n0, n1, n2, n3, n4, n5, n6, n7, n8, n10, n16, n40, n128, n255, n256, n1024, n2000, n2048, nJ_add, nJ_mul, nJ_sub, nJ_leT, nJ_leF, nJ_ltT, nJ_ltF, nJ_eqT, nJ_eqF, nJ_clamp, nJ_div, nM, iM_eqF, iM_eqF2, iM_leF, iM_ltF, iM_leT, iM_ltT, iM_add, iM_add0, natLeF, natLeT, natLtF, natLtT, natEqF, natEqT, if_true, if_false, ite_true, ite_false, false_or, or_false, or_self, Option.bind_some, ↓reduceIte, hW, hDf]
      rw [l_F_dimmed hs.1 hs.2 b1]
      simp (disch := omega) only [n0, n1, n2, n3, n4, n5, n6, n7, n8, n10, n16, n40, n128, n255, n256, n1024, n2000, n2048, nJ_add, nJ_mul, nJ_sub, nJ_leT, nJ_leF, nJ_ltT, nJ_ltF, nJ_eqT, nJ_eqF, nJ_clamp, nJ_div, nM, iM_eqF, iM_eqF2, iM_leF, iM_ltF, iM_leT, iM_ltT, iM_add, iM_add0, natLeF, natLeT, natLtF, natLtT, natEqF, natEqT, if_true, if_false, ite_true, ite_false, false_or, or_false, or_self, Option.bind_some, ↓reduceIte, nsubI, iI_add, iI_mul]
      rfl)
    FU 0 (Nat.zero_le _) (fu (by omega))
  exact key
theorem l_M_try_21 {D R : Nat → Nat} {sz n wn dn : Nat} {Rf Df : Nat → Int32} {a b : Int32} {c : Int64} (hsz : sz * sz = n) (hn : n ≤ 256) (hwn : n ≤ wn) (hdn : n ≤ dn) (hRf : ∀ k, k < n → Rf k = nI (R k)) (hDf : ∀ k, k < n → Df k = nI (D k)) (hD : ∀ k, k < n → D k ≤ 255) (hR : ∀ k, k < n → R k ≤ 255) :
    f_M_tryOne_21 (nI sz) a b c dn Df wn Rf FU 0 0 0 0 0 = some (lI (sN D n : Nat), lI (sN R n : Nat), lI (sN (fun k => D k * R k) n : Nat), lI (sN (fun k => D k * D k) n : Nat), nI n) := by
  have key := lp_up (L := fun n' (z : Nat × Nat × Nat × Nat) v => f_M_tryOne_21 (nI sz) a b c dn Df wn Rf n' (lI (z.1 : Int)) (lI (z.2.1 : Int)) (lI (z.2.2.1 : Int)) (lI (z.2.2.2 : Int)) (nI v)) (st := fun v => (sN D v, sN R v, sN (fun k => D k * R k) v, sN (fun k => D k * D k) v)) (b := n) (fin := (lI (sN D n : Nat), lI (sN R n : Nat), lI (sN (fun k => D k * R k) n : Nat), lI (sN (fun k => D k * D k) n : Nat), nI n))
    (fun n' => by
      show f_M_tryOne_21 _ _ _ _ _ _ _ _ (n' + 1) _ _ _ _ _ = _
      rw [f_M_tryOne_21]
      simp (disch := omega) only [n0, n1, n2, n3, n4, n5, n6, n7, n8, n10, n16, n40, n128, n255, n256, n1024, n2000, n2048, nJ_add, nJ_mul, nJ_sub, nJ_leT, nJ_leF, nJ_ltT, nJ_ltF, nJ_eqT, nJ_eqF, nJ_clamp, nJ_div, nM, iM_eqF, iM_eqF2, iM_leF, iM_ltF, iM_leT, iM_ltT, iM_add, iM_add0, natLeF, natLeT, natLtF, natLtT, natEqF, natEqT, if_true, if_false, ite_true, ite_false, false_or, or_false, or_self, Option.bind_some, ↓reduceIte, hsz])
    (fun n' v hv => by
      show f_M_tryOne_21 _ _ _ _ _ _ _ _ (n' + 1) _ _ _ _ _ = f_M_tryOne_21 _ _ _ _ _ _ _ _ n' _ _ _ _ _
      rw [f_M_tryOne_21]
      have b1 := hD v hv
      have b2 := hR v hv
      have m1 : D v * R v ≤ 255 * 255 := Nat.mul_le_mul b1 b2
      have m2 : D v * D v ≤ 255 * 255 := Nat.mul_le_mul b1 b1
      simp (disch := omega) only [n0, n1, n2, n3, n4, n5, n6, n7, n8, n10, n16, n40, n128, n255, n256, n1024, n2000, n2048, nJ_add, nJ_mul, nJ_sub, nJ_leT, nJ_leF, nJ_ltT, nJ_ltF, nJ_eqT, nJ_eqF, nJ_clamp, nJ_div, nM, iM_eqF, iM_eqF2, iM_leF, iM_ltF, iM_leT, iM_ltT, iM_add, iM_add0, natLeF, natLeT, natLtF, natLtT, natEqF, natEqT, if_true, if_false, ite_true, ite_false, false_or, or_false, or_self, Option.bind_some, ↓reduceIte, hsz, hRf, hDf, nJ_long, lI_add, ← Int.natCast_add]
      rfl)
    FU 0 (Nat.zero_le _) (fu (by omega))
  exact key
theorem l_M_try_167 {D : Nat → Nat} {sz n dn : Nat} {Df : Nat → Int32} {s : Int} {a b : Int32} {c d e f g h : Int64} {r0 : Int} (hs : -7 ≤ s ∧ s ≤ 7) (hsz : sz * sz = n) (hn : n ≤ 256) (hdn : n ≤ dn) (hDf : ∀ k, k < n → Df k = nI (D k)) (hD : ∀ k, k < n → D k ≤ 255) {i : Int64} :
    f_M_tryOne_167 (nI sz) a b c d e f g h i (iI s) dn Df FU (lI r0) 0 = some (lI (r0 - sI (fun k => dim s (D k)) n), nI n) := by
  have key := lp_up (L := fun n' (z : Int) v => f_M_tryOne_167 (nI sz) a b c d e f g h i (iI s) dn Df n' (lI z) (nI v)) (st := fun v => r0 - sI (fun k => dim s (D k)) v) (b := n) (fin := (lI (r0 - sI (fun k => dim s (D k)) n), nI n))
    (fun n' => by
      show f_M_tryOne_167 _ _ _ _ _ _ _ _ _ _ _ _ _ (n' + 1) _ _ = _
      rw [f_M_tryOne_167]
      simp (disch := omega) only [n0, n1, n2, n3, n4, n5, n6, n7, n8, n10, n16, n40, n128, n255, n256, n1024, n2000, n2048, nJ_add, nJ_mul, nJ_sub, nJ_leT, nJ_leF, nJ_ltT, nJ_ltF, nJ_eqT, nJ_eqF, nJ_clamp, nJ_div, nM, iM_eqF, iM_eqF2, iM_leF, iM_ltF, iM_leT, iM_ltT, iM_add, iM_add0, natLeF, natLeT, natLtF, natLtT, natEqF, natEqT, if_true, if_false, ite_true, ite_false, false_or, or_false, or_self, Option.bind_some, ↓reduceIte, hsz])
    (fun n' v hv => by
      show f_M_tryOne_167 _ _ _ _ _ _ _ _ _ _ _ _ _ (n' + 1) _ _ = f_M_tryOne_167 _ _ _ _ _ _ _ _ _ _ _ _ _ n' _ _
      rw [f_M_tryOne_167]
      have b1 := hD v hv
      have b2 := dim_bound hs.1 hs.2 b1
      simp (disch := omega) only [n0, n1, n2, n3, n4, n5, n6, n7, n8, n10, n16, n40, n128, n255, n256, n1024, n2000, n2048, nJ_add, nJ_mul, nJ_sub, nJ_leT, nJ_leF, nJ_ltT, nJ_ltF, nJ_eqT, nJ_eqF, nJ_clamp, nJ_div, nM, iM_eqF, iM_eqF2, iM_leF, iM_ltF, iM_leT, iM_ltT, iM_add, iM_add0, natLeF, natLeT, natLtF, natLtT, natEqF, natEqT, if_true, if_false, ite_true, ite_false, false_or, or_false, or_self, Option.bind_some, ↓reduceIte, hsz, hDf]
      rw [l_M_mapped hs.1 hs.2 b1]
      have e0 : r0 - sI (fun k => dim s (D k)) (v + 1) = r0 - sI (fun k => dim s (D k)) v - dim s (D v) := by rw [sI]; omega
      simp (disch := omega) only [n0, n1, n2, n3, n4, n5, n6, n7, n8, n10, n16, n40, n128, n255, n256, n1024, n2000, n2048, nJ_add, nJ_mul, nJ_sub, nJ_leT, nJ_leF, nJ_ltT, nJ_ltF, nJ_eqT, nJ_eqF, nJ_clamp, nJ_div, nM, iM_eqF, iM_eqF2, iM_leF, iM_ltF, iM_leT, iM_ltT, iM_add, iM_add0, natLeF, natLeT, natLtF, natLtT, natEqF, natEqT, if_true, if_false, ite_true, ite_false, false_or, or_false, or_self, Option.bind_some, ↓reduceIte, iI_long, lI_sub, e0])
    FU 0 (Nat.zero_le _) (fu (by omega))
  have z : r0 - sI (fun k => dim s (D k)) 0 = r0 := by rw [sI]; omega
  have key : f_M_tryOne_167 (nI sz) a b c d e f g h i (iI s) dn Df FU (lI (r0 - sI (fun k => dim s (D k)) 0)) 0 = _ := key
  rw [z] at key
  exact key
theorem l_M_try_215 {D R : Nat → Nat} {sz n dn rn : Nat} {Df Rf : Nat → Int32} {s o : Int} {a b : Int32} {c d e f g h i j : Int64} (hs : -7 ≤ s ∧ s ≤ 7) (ho : -223 ≤ o ∧ o ≤ 479) (hsz : sz * sz = n) (hn : n ≤ 256) (hdn : n ≤ dn) (hrn : n ≤ rn) (hDf : ∀ k, k < n → Df k = nI (D k)) (hRf : ∀ k, k < n → Rf k = nI (R k)) (hD : ∀ k, k < n → D k ≤ 255) (hR : ∀ k, k < n → R k ≤ 255) :
    f_M_tryOne_215 (nI sz) a b c d e f g h i (iI s) j (iI o) dn Df rn Rf FU 0 0 = some (lI (sI (fun k => ((R k : Int) - dim s (D k) - o) * ((R k : Int) - dim s (D k) - o)) n), nI n) := by
  have key := lp_up (L := fun n' (z : Int) v => f_M_tryOne_215 (nI sz) a b c d e f g h i (iI s) j (iI o) dn Df rn Rf n' (lI z) (nI v)) (st := fun v => sI (fun k => ((R k : Int) - dim s (D k) - o) * ((R k : Int) - dim s (D k) - o)) v) (b := n) (fin := (lI (sI (fun k => ((R k : Int) - dim s (D k) - o) * ((R k : Int) - dim s (D k) - o)) n), nI n))
    (fun n' => by
      show f_M_tryOne_215 _ _ _ _ _ _ _ _ _ _ _ _ _ _ _ _ _ (n' + 1) _ _ = _
      rw [f_M_tryOne_215]
      simp (disch := omega) only [n0, n1, n2, n3, n4, n5, n6, n7, n8, n10, n16, n40, n128, n255, n256, n1024, n2000, n2048, nJ_add, nJ_mul, nJ_sub, nJ_leT, nJ_leF, nJ_ltT, nJ_ltF, nJ_eqT, nJ_eqF, nJ_clamp, nJ_div, nM, iM_eqF, iM_eqF2, iM_leF, iM_ltF, iM_leT, iM_ltT, iM_add, iM_add0, natLeF, natLeT, natLtF, natLtT, natEqF, natEqT, if_true, if_false, ite_true, ite_false, false_or, or_false, or_self, Option.bind_some, ↓reduceIte, hsz])
    (fun n' v hv => by
      show f_M_tryOne_215 _ _ _ _ _ _ _ _ _ _ _ _ _ _ _ _ _ (n' + 1) _ _ = f_M_tryOne_215 _ _ _ _ _ _ _ _ _ _ _ _ _ _ _ _ _ n' _ _
      rw [f_M_tryOne_215]
      have b1 := hD v hv
      have b3 := hR v hv
      have b2 := dim_bound hs.1 hs.2 b1
      simp (disch := omega) only [n0, n1, n2, n3, n4, n5, n6, n7, n8, n10, n16, n40, n128, n255, n256, n1024, n2000, n2048, nJ_add, nJ_mul, nJ_sub, nJ_leT, nJ_leF, nJ_ltT, nJ_ltF, nJ_eqT, nJ_eqF, nJ_clamp, nJ_div, nM, iM_eqF, iM_eqF2, iM_leF, iM_ltF, iM_leT, iM_ltT, iM_add, iM_add0, natLeF, natLeT, natLtF, natLtT, natEqF, natEqT, if_true, if_false, ite_true, ite_false, false_or, or_false, or_self, Option.bind_some, ↓reduceIte, hsz, hDf, hRf]
      rw [l_M_mapped hs.1 hs.2 b1]
      simp (disch := omega) only [n0, n1, n2, n3, n4, n5, n6, n7, n8, n10, n16, n40, n128, n255, n256, n1024, n2000, n2048, nJ_add, nJ_mul, nJ_sub, nJ_leT, nJ_leF, nJ_ltT, nJ_ltF, nJ_eqT, nJ_eqF, nJ_clamp, nJ_div, nM, iM_eqF, iM_eqF2, iM_leF, iM_ltF, iM_leT, iM_ltT, iM_add, iM_add0, natLeF, natLeT, natLtF, natLtT, natEqF, natEqT, if_true, if_false, ite_true, ite_false, false_or, or_false, or_self, Option.bind_some, ↓reduceIte, nsubI, iI_sub, iI_long, lI_mul, lI_add]
      rfl)
    FU 0 (Nat.zero_le _) (fu (by omega))
  exact key
end
section
/-! what no turn changes -/
theorem sQ_turn (G : Nat → Nat → Nat) (n t : Nat) (h8 : t < 8) : sQ (fun x y => G (srcX (n - 1) t x y) (srcY (n - 1) t x y)) n n = sQ G n n := by
  rcases turn8 h8 with rfl | rfl | rfl | rfl | rfl | rfl | rfl | rfl <;> simp only [srcX, srcY]
  · rw [sQ_swap (fun x y => G y (n - 1 - x))]
    exact sQ_revY (fun x y => G x y) n n
  · rw [sQ_revX (fun x y => G x (n - 1 - y))]
    exact sQ_revY G n n
  · rw [sQ_swap (fun x y => G (n - 1 - y) x)]
    exact sQ_revX G n n
  · exact sQ_revX G n n
  · rw [sQ_swap (fun x y => G (n - 1 - y) (n - 1 - x)), sQ_revX (fun x y => G x (n - 1 - y))]
    exact sQ_revY G n n
  · exact sQ_revY G n n
  · exact sQ_swap (fun x y => G y x) n n
/-- a sum over a turned domain -/
theorem dmn_sum (G : Nat → Nat) (q : Nat → Nat) (w h d t : Nat) (h8 : t < 8) : sN (fun k => G (dmn q w h d t k)) (2 * h * (2 * h)) = sQ (fun x y => G (q ((domT w h d + y) * w + domL w h d + x))) (2 * h) (2 * h) := by
  rw [sN_rows]
  rw [← sQ_turn (fun x y => G (q ((domT w h d + y) * w + domL w h d + x))) (2 * h) t h8]
  refine sQ_congr (fun x y hx hy => ?_)
  obtain ⟨e1, e2⟩ := rowOf (y := y) hx
  unfold dmn dcell
  rw [e1, e2]
theorem src_half {h t cx cy i j : Nat} (h8 : t < 8) (hc : cx ≤ 1) (hd : cy ≤ 1) (hi : i < h) (hj : j < h) :
    srcX (2 * h - 1) t (cx * h + i) (cy * h + j) = srcX 1 t cx cy * h + srcX (h - 1) t i j ∧ srcY (2 * h - 1) t (cx * h + i) (cy * h + j) = srcY 1 t cx cy * h + srcY (h - 1) t i j := by
  have hx : cx = 0 ∨ cx = 1 := by omega
  have hy : cy = 0 ∨ cy = 1 := by omega
  rcases turn8 h8 with rfl | rfl | rfl | rfl | rfl | rfl | rfl | rfl <;> rcases hx with rfl | rfl <;> rcases hy with rfl | rfl <;> simp only [srcX, srcY, Nat.zero_mul, Nat.one_mul, Nat.sub_self, Nat.sub_zero, Nat.zero_add] <;> refine ⟨?_, ?_⟩ <;> first | omega | trivial
/-- which quarter a turn brings to a quarter's place -/
def sqr (t c : Nat) : Nat := 2 * srcY 1 t (c % 2) (c / 2) + srcX 1 t (c % 2) (c / 2)
theorem four {c : Nat} (h : c < 4) : c = 0 ∨ c = 1 ∨ c = 2 ∨ c = 3 := by omega
theorem sqr_lt {t c : Nat} (h8 : t < 8) (hc : c < 4) : sqr t c < 4 := by
  have h1 := srcX_le (m := 1) (x := c % 2) (y := c / 2) h8 (by omega) (by omega)
  have h2 := srcY_le (m := 1) (x := c % 2) (y := c / 2) h8 (by omega) (by omega)
  unfold sqr; omega
theorem sqr_onto {t q : Nat} (h8 : t < 8) (hq : q < 4) : ∃ c, c < 4 ∧ sqr t c = q := by
  rcases turn8 h8 with rfl | rfl | rfl | rfl | rfl | rfl | rfl | rfl <;> rcases four hq with rfl | rfl | rfl | rfl <;>
  first
  | exact ⟨0, by decide, by decide⟩
  | exact ⟨1, by decide, by decide⟩
  | exact ⟨2, by decide, by decide⟩
  | exact ⟨3, by decide, by decide⟩
theorem sqr_some {c q : Nat} (hc : c < 4) (hq : q < 4) : ∃ t, t < 8 ∧ sqr t c = q := by
  rcases four hc with rfl | rfl | rfl | rfl <;> rcases four hq with rfl | rfl | rfl | rfl <;>
  first
  | exact ⟨0, by decide, by decide⟩
  | exact ⟨1, by decide, by decide⟩
  | exact ⟨2, by decide, by decide⟩
  | exact ⟨3, by decide, by decide⟩
theorem dmn_quarter {q : Nat → Nat} {w h d t c : Nat} (h8 : t < 8) (hc : c < 4) : qS (dmn q w h d t) (2 * h) 0 0 h c = qS q w (domL w h d) (domT w h d) h (sqr t c) := by
  have m := qmul (h := h) hc
  have e1 : sqr t c % 2 = srcX 1 t (c % 2) (c / 2) := by
    have h1 := srcX_le (m := 1) (x := c % 2) (y := c / 2) h8 (by omega) (by omega)
    unfold sqr; omega
  have e2 : sqr t c / 2 = srcY 1 t (c % 2) (c / 2) := by
    have h1 := srcX_le (m := 1) (x := c % 2) (y := c / 2) h8 (by omega) (by omega)
    unfold sqr; omega
  unfold qS sqS
  rw [e1, e2, ← sQ_turn (fun x y => q ((domT w h d + srcY 1 t (c % 2) (c / 2) * h + y) * w + (domL w h d + srcX 1 t (c % 2) (c / 2) * h + x))) h t h8]
  refine sQ_congr (fun i j hi hj => ?_)
  have hx : 0 + c % 2 * h + i < 2 * h := by omega
  obtain ⟨r1, r2⟩ := rowOf (y := 0 + c / 2 * h + j) hx
  unfold dmn
  rw [r1, r2]
  unfold dcell
  rw [Nat.zero_add, Nat.zero_add]
  obtain ⟨s1, s2⟩ := src_half (h := h) (t := t) (cx := c % 2) (cy := c / 2) (i := i) (j := j) h8 (by omega) (by omega) hi hj
  rw [s1, s2]
  congr 1
  rw [← Nat.add_assoc (domT w h d)]
  omega
theorem dmn_le {q : Nat → Nat} {w h d t k : Nat} (h1 : 0 < h) (h2 : 2 * h ≤ w) (hd : d < dac w h * dac w h) (h8 : t < 8) (hk : k < 2 * h * (2 * h)) (hq : ∀ k, k < w * w → q k ≤ 255) : dmn q w h d t k ≤ 255 := by
  obtain ⟨i1, i2⟩ := dom_in h1 h2 hd
  have hx := modLt hk
  have hy := divLt hk
  exact hq _ (dcell_lt h8 (by omega) (by omega) (by omega) (by omega))
theorem blk_le {p : Nat → Nat} {s x y size k : Nat} (hx : x + size ≤ s) (hy : y + size ≤ s) (hk : k < size * size) (hp : ∀ k, k < s * s → p k ≤ 255) : blk p s x y size k ≤ 255 := by
  unfold blk
  have hx' := modLt hk
  have hy' := divLt hk
  have := ix (x := x + k % size) (y := y + k / size) (s := s) (by omega) (by omega)
  exact hp _ (by omega)
/-- is quarter j the greatest -/
abbrev gd (Q : Nat → Nat) (j : Nat) : Prop := Q 0 ≤ Q j ∧ Q 1 ≤ Q j ∧ Q 2 ≤ Q j ∧ Q 3 ≤ Q j
def mxU (Q : Nat → Nat) : Nat → Nat
  | 0 => 0
  | v + 1 => if mxU Q v < Q v then Q v else mxU Q v
theorem mx_ge (Q : Nat → Nat) : ∀ v q, q < v → Q q ≤ mxU Q v := by
  intro v
  induction v with
  | zero => intro q h; omega
  | succ v ih =>
    intro q h
    rw [mxU]
    by_cases e : q = v
    · subst e; split <;> omega
    · have := ih q (by omega)
      split <;> omega
theorem mx_is (Q : Nat → Nat) : ∀ v, 0 < v → ∃ q, q < v ∧ mxU Q v = Q q := by
  intro v
  induction v with
  | zero => intro h; omega
  | succ v ih =>
    intro _
    rw [mxU]
    by_cases c : mxU Q v < Q v
    · rw [if_pos c]; exact ⟨v, by omega, rfl⟩
    · rw [if_neg c]
      by_cases e : v = 0
      · subst e
        refine ⟨0, by omega, ?_⟩
        have : mxU Q 0 = 0 := rfl
        omega
      · obtain ⟨q, h1, h2⟩ := ih (by omega)
        exact ⟨q, by omega, h2⟩
theorem gd_iff (Q : Nat → Nat) (j : Nat) (hj : j < 4) : gd Q j ↔ Q j = mxU Q 4 := by
  have g := mx_ge Q 4
  have g0 := g 0 (by omega)
  have g1 := g 1 (by omega)
  have g2 := g 2 (by omega)
  have g3 := g 3 (by omega)
  have gj := g j hj
  obtain ⟨q, h1, h2⟩ := mx_is Q 4 (by omega)
  show _ ∧ _ ∧ _ ∧ _ ↔ _
  constructor
  · intro h
    rcases four h1 with rfl | rfl | rfl | rfl <;> omega
  · intro h; omega
theorem mx_le {Q : Nat → Nat} {v b : Nat} (h : ∀ q, q < v → Q q ≤ b) : mxU Q v ≤ b := by
  by_cases e : v = 0
  · subst e; exact Nat.zero_le _
  · obtain ⟨q, h1, h2⟩ := mx_is Q v (by omega)
    rw [h2]; exact h q h1
end
section
/-! the search for the best domain -/
/-- a loop that counts up, with what holds of its state -/
theorem lp_inv {σ ρ : Type} (L : Nat → σ → Nat → Option ρ) (I : Nat → σ → Prop) (F : ρ → Prop) (b : Nat)
    (h0 : ∀ n s, I b s → ∃ r, L (n + 1) s b = some r ∧ F r) (h1 : ∀ n s v, v < b → I v s → ∃ s', L (n + 1) s v = L n s' (v + 1) ∧ I (v + 1) s') :
    ∀ n v s, v ≤ b → b - v < n → I v s → ∃ r, L n s v = some r ∧ F r := by
  intro n
  induction n with
  | zero => intro v s _ h; omega
  | succ n ih =>
    intro v s hv h hi
    by_cases e : v = b
    · subst e; exact h0 n s hi
    · obtain ⟨s', e1, e2⟩ := h1 n s v (by omega) hi
      rw [e1]; exact ih (v + 1) s' (by omega) (by omega) e2
abbrev Fit5 := Nat × Nat × Int × Int × Int
def fit0 : Fit5 := (0, 0, 0, 0, -1)
/-- the better of what was best and a new fit -/
def bstep (D R : Nat → Nat) (n : Nat) (B : Fit5) (d t : Nat) : Fit5 := if B.2.2.2.2 < 0 ∨ fE D R n < B.2.2.2.2 then (d, t, fS D R n, fO D R n, fE D R n) else B
theorem l_S_sourceQ {t c : Nat} (h8 : t < 8) (hc : c < 4) : f_V_sourceQuarter (nI t) (nI c) = some (nI (sqr t c)) := by
  unfold f_V_sourceQuarter
  rw [l_across hc, l_down hc]
  simp only [Option.bind_some]
  rw [n2, l_V_down (by omega) (by omega) (by omega) h8]
  simp only [Option.bind_some]
  rw [l_V_across (by omega) (by omega) (by omega) h8]
  simp (disch := omega) only [n0, n1, n2, n3, n4, n5, n6, n7, n8, n10, n16, n40, n128, n255, n256, n1024, n2000, n2048, nJ_add, nJ_mul, nJ_sub, nJ_leT, nJ_leF, nJ_ltT, nJ_ltF, nJ_eqT, nJ_eqF, nJ_clamp, nJ_div, nM, iM_eqF, iM_eqF2, iM_leF, iM_ltF, iM_leT, iM_ltT, iM_add, iM_add0, natLeF, natLeT, natLtF, natLtT, natEqF, natEqT, if_true, if_false, ite_true, ite_false, false_or, or_false, or_self, Option.bind_some, ↓reduceIte]
  rfl
theorem l_S_take_35 {a b c' : Int32} {c rn : Nat} {R : Nat → Int32} (hc : c < 4) (hrn : 8 ≤ rn) : f_S_takeBlock_35 a b c' (nI c) rn FU 0 R = some (nI 8, wr R (fun t => nI (sqr t c)) 8) := by
  have key := lp_up (L := fun n' (z : Nat → Int32) v => f_S_takeBlock_35 a b c' (nI c) rn n' (nI v) z) (st := fun v => wr R (fun t => nI (sqr t c)) v) (b := 8) (fin := (nI 8, wr R (fun t => nI (sqr t c)) 8))
    (fun n' => by
      show f_S_takeBlock_35 _ _ _ _ _ (n' + 1) _ _ = _
      rw [f_S_takeBlock_35]
      simp (disch := omega) only [n0, n1, n2, n3, n4, n5, n6, n7, n8, n10, n16, n40, n128, n255, n256, n1024, n2000, n2048, nJ_add, nJ_mul, nJ_sub, nJ_leT, nJ_leF, nJ_ltT, nJ_ltF, nJ_eqT, nJ_eqF, nJ_clamp, nJ_div, nM, iM_eqF, iM_eqF2, iM_leF, iM_ltF, iM_leT, iM_ltT, iM_add, iM_add0, natLeF, natLeT, natLtF, natLtT, natEqF, natEqT, if_true, if_false, ite_true, ite_false, false_or, or_false, or_self, Option.bind_some, ↓reduceIte])
    (fun n' v hv => by
      show f_S_takeBlock_35 _ _ _ _ _ (n' + 1) _ _ = f_S_takeBlock_35 _ _ _ _ _ n' _ _
      rw [f_S_takeBlock_35, l_S_sourceQ hv hc]
      simp (disch := omega) only [n0, n1, n2, n3, n4, n5, n6, n7, n8, n10, n16, n40, n128, n255, n256, n1024, n2000, n2048, nJ_add, nJ_mul, nJ_sub, nJ_leT, nJ_leF, nJ_ltT, nJ_ltF, nJ_eqT, nJ_eqF, nJ_clamp, nJ_div, nM, iM_eqF, iM_eqF2, iM_leF, iM_ltF, iM_leT, iM_ltT, iM_add, iM_add0, natLeF, natLeT, natLtF, natLtT, natEqF, natEqT, if_true, if_false, ite_true, ite_false, false_or, or_false, or_self, Option.bind_some, ↓reduceIte, wrS R (fun t => nI (sqr t c))])
    FU 0 (Nat.zero_le _) (fu (by omega))
  have key : f_S_takeBlock_35 a b c' (nI c) rn FU 0 (wr R (fun t => nI (sqr t c)) 0) = _ := key
  rw [wr0] at key
  exact key
section
variable {s x y size n wn : Nat} {f W : Nat → Int32} {p : Nat → Nat} {c' : Int32}
theorem l_S_take_91 (hs : s ≤ 64) (hx : x + size ≤ s) (hy : y + size ≤ s) (hn : s * s ≤ n) (hw : size * size ≤ wn) (hw2 : wn < 2147483648) (hf : ∀ k, k < s * s → f k = nI (p k)) {j : Nat} (hj : j < size) :
    f_S_takeBlock_91 (nI x) (nI y) (nI size) c' (nI j) (nI s) n f wn FU (nI (j * size)) 0 (wr W (fun k => nI (blk p s x y size k)) (j * size)) = some (nI ((j + 1) * size), nI size, wr W (fun k => nI (blk p s x y size k)) ((j + 1) * size)) := by
  have hsz := sq64 (show size ≤ 64 by omega)
  have key := lp_up (L := fun n' (z : Nat × (Nat → Int32)) v => f_S_takeBlock_91 (nI x) (nI y) (nI size) c' (nI j) (nI s) n f wn n' (nI z.1) (nI v) z.2) (st := fun v => (j * size + v, wr W (fun k => nI (blk p s x y size k)) (j * size + v))) (b := size) (fin := (nI ((j + 1) * size), nI size, wr W (fun k => nI (blk p s x y size k)) ((j + 1) * size)))
    (fun n' => by
      show f_S_takeBlock_91 _ _ _ _ _ _ _ _ _ (n' + 1) _ _ _ = _
      rw [f_S_takeBlock_91]
      simp (disch := omega) only [n0, n1, n2, n3, n4, n5, n6, n7, n8, n10, n16, n40, n128, n255, n256, n1024, n2000, n2048, nJ_add, nJ_mul, nJ_sub, nJ_leT, nJ_leF, nJ_ltT, nJ_ltF, nJ_eqT, nJ_eqF, nJ_clamp, nJ_div, nM, iM_eqF, iM_eqF2, iM_leF, iM_ltF, iM_leT, iM_ltT, iM_add, iM_add0, natLeF, natLeT, natLtF, natLtT, natEqF, natEqT, if_true, if_false, ite_true, ite_false, false_or, or_false, or_self, Option.bind_some, ↓reduceIte, Nat.succ_mul])
    (fun n' v hv => by
      show f_S_takeBlock_91 _ _ _ _ _ _ _ _ _ (n' + 1) _ _ _ = f_S_takeBlock_91 _ _ _ _ _ _ _ _ _ n' _ _ _
      rw [f_S_takeBlock_91]
      have h1 := ix hv hj
      have h2 := ix (x := x + v) (y := y + j) (s := s) (by omega) (by omega)
      obtain ⟨e1, e2⟩ := rowOf (y := j) hv
      have e : blk p s x y size (j * size + v) = p ((y + j) * s + (x + v)) := by unfold blk; rw [e1, e2, Nat.add_assoc]
      simp (disch := omega) only [n0, n1, n2, n3, n4, n5, n6, n7, n8, n10, n16, n40, n128, n255, n256, n1024, n2000, n2048, nJ_add, nJ_mul, nJ_sub, nJ_leT, nJ_leF, nJ_ltT, nJ_ltF, nJ_eqT, nJ_eqF, nJ_clamp, nJ_div, nM, iM_eqF, iM_eqF2, iM_leF, iM_ltF, iM_leT, iM_ltT, iM_add, iM_add0, natLeF, natLeT, natLtF, natLtT, natEqF, natEqT, if_true, if_false, ite_true, ite_false, false_or, or_false, or_self, Option.bind_some, ↓reduceIte]
      rw [l_G_sample hs (by omega) (by omega) hn, hf _ h2, ← e]
      simp (disch := omega) only [n0, n1, n2, n3, n4, n5, n6, n7, n8, n10, n16, n40, n128, n255, n256, n1024, n2000, n2048, nJ_add, nJ_mul, nJ_sub, nJ_leT, nJ_leF, nJ_ltT, nJ_ltF, nJ_eqT, nJ_eqF, nJ_clamp, nJ_div, nM, iM_eqF, iM_eqF2, iM_leF, iM_ltF, iM_leT, iM_ltT, iM_add, iM_add0, natLeF, natLeT, natLtF, natLtT, natEqF, natEqT, if_true, if_false, ite_true, ite_false, false_or, or_false, or_self, Option.bind_some, ↓reduceIte, wrS W (fun k => nI (blk p s x y size k)), Nat.add_assoc])
    FU 0 (Nat.zero_le _) (fu (by omega))
  exact key
theorem l_S_take_82 (hs : s ≤ 64) (hx : x + size ≤ s) (hy : y + size ≤ s) (hn : s * s ≤ n) (hw : size * size ≤ wn) (hw2 : wn < 2147483648) (hf : ∀ k, k < s * s → f k = nI (p k)) :
    f_S_takeBlock_82 (nI x) (nI y) (nI size) c' (nI s) n f wn FU 0 0 W = some (nI (size * size), nI size, wr W (fun k => nI (blk p s x y size k)) (size * size)) := by
  have key := lp_up (L := fun n' (z : Nat × (Nat → Int32)) v => f_S_takeBlock_82 (nI x) (nI y) (nI size) c' (nI s) n f wn n' (nI z.1) (nI v) z.2) (st := fun v => (v * size, wr W (fun k => nI (blk p s x y size k)) (v * size))) (b := size) (fin := (nI (size * size), nI size, wr W (fun k => nI (blk p s x y size k)) (size * size)))
    (fun n' => by
      show f_S_takeBlock_82 _ _ _ _ _ _ _ _ (n' + 1) _ _ _ = _
      rw [f_S_takeBlock_82]
      simp (disch := omega) only [n0, n1, n2, n3, n4, n5, n6, n7, n8, n10, n16, n40, n128, n255, n256, n1024, n2000, n2048, nJ_add, nJ_mul, nJ_sub, nJ_leT, nJ_leF, nJ_ltT, nJ_ltF, nJ_eqT, nJ_eqF, nJ_clamp, nJ_div, nM, iM_eqF, iM_eqF2, iM_leF, iM_ltF, iM_leT, iM_ltT, iM_add, iM_add0, natLeF, natLeT, natLtF, natLtT, natEqF, natEqT, if_true, if_false, ite_true, ite_false, false_or, or_false, or_self, Option.bind_some, ↓reduceIte])
    (fun n' v hv => by
      show f_S_takeBlock_82 _ _ _ _ _ _ _ _ (n' + 1) _ _ _ = f_S_takeBlock_82 _ _ _ _ _ _ _ _ n' _ _ _
      rw [f_S_takeBlock_82, l_S_take_91 hs hx hy hn hw hw2 hf hv]
      simp (disch := omega) only [n0, n1, n2, n3, n4, n5, n6, n7, n8, n10, n16, n40, n128, n255, n256, n1024, n2000, n2048, nJ_add, nJ_mul, nJ_sub, nJ_leT, nJ_leF, nJ_ltT, nJ_ltF, nJ_eqT, nJ_eqF, nJ_clamp, nJ_div, nM, iM_eqF, iM_eqF2, iM_leF, iM_ltF, iM_leT, iM_ltT, iM_add, iM_add0, natLeF, natLeT, natLtF, natLtT, natEqF, natEqT, if_true, if_false, ite_true, ite_false, false_or, or_false, or_self, Option.bind_some, ↓reduceIte])
    FU 0 (Nat.zero_le _) (fu (by omega))
  have key : f_S_takeBlock_82 (nI x) (nI y) (nI size) c' (nI s) n f wn FU (nI (0 * size)) 0 (wr W (fun k => nI (blk p s x y size k)) (0 * size)) = _ := key
  rw [Nat.zero_mul, wr0] at key
  exact key
end
theorem blk_sum {p : Nat → Nat} {s x y size : Nat} : sqS p s x y size = sN (blk p s x y size) (size * size) := by
  rw [sN_rows]
  refine sQ_congr (fun i j hi hj => ?_)
  obtain ⟨e1, e2⟩ := rowOf (y := j) hi
  unfold blk; rw [e1, e2, Nat.add_assoc]
theorem l_S_takeBlock {s x y h n wn rn : Nat} {f W Rf : Nat → Int32} {p : Nat → Nat} (hs : s ≤ 64) (hx : x + 2 * h ≤ s) (hy : y + 2 * h ≤ s) (hn : s * s ≤ n) (hw : 2 * h * (2 * h) ≤ wn) (hw2 : wn < 2147483648) (hrn : 8 ≤ rn) (hf : ∀ k, k < s * s → f k = nI (p k)) (hp : ∀ k, k < s * s → p k ≤ 255) :
    f_S_takeBlock (nI x) (nI y) (nI (2 * h)) (nI s) n f wn W rn Rf = some (nI (2 * h), nI (2 * h * (2 * h)), nI (sN (blk p s x y (2 * h)) (2 * h * (2 * h))), wr W (fun k => nI (blk p s x y (2 * h) k)) (2 * h * (2 * h)), wr Rf (fun t => nI (sqr t (am (qS p s x y h)))) 8) := by
  have hsz := sq64 (show 2 * h ≤ 64 by omega)
  unfold f_S_takeBlock
  rw [l_G_brightest hs hx hy hn hf hp]
  simp only [Option.bind_some]
  rw [l_S_take_35 (am_lt _) hrn]
  simp only [Option.bind_some]
  rw [l_G_sum hs hx hy hn hf]
  simp only [Option.bind_some]
  rw [l_S_take_82 hs hx hy hn hw hw2 hf, blk_sum]
  simp (disch := omega) only [n0, n1, n2, n3, n4, n5, n6, n7, n8, n10, n16, n40, n128, n255, n256, n1024, n2000, n2048, nJ_add, nJ_mul, nJ_sub, nJ_leT, nJ_leF, nJ_ltT, nJ_ltF, nJ_eqT, nJ_eqF, nJ_clamp, nJ_div, nM, iM_eqF, iM_eqF2, iM_leF, iM_ltF, iM_leT, iM_ltT, iM_add, iM_add0, natLeF, natLeT, natLtF, natLtT, natEqF, natEqT, if_true, if_false, ite_true, ite_false, false_or, or_false, or_self, Option.bind_some, ↓reduceIte]
end
section
/-! measuring a domain, trying a turn -/
theorem l_S_measure_30 {a : Int32} {w L T h n qn : Nat} {f Qf : Nat → Int32} {q : Nat → Nat} (hw : w ≤ 64) (hL : L + 2 * h ≤ w) (hT : T + 2 * h ≤ w) (hn : w * w ≤ n) (hqn : 4 ≤ qn) (hf : ∀ k, k < w * w → f k = nI (q k)) (hq : ∀ k, k < w * w → q k ≤ 255) :
    f_S_measure_30 a (nI h) (nI w) n f (nI L) (nI T) qn FU 0 0 0 Qf = some (nI (mxU (qS q w L T h) 4), nI 4, nI (sN (qS q w L T h) 4), wr Qf (fun j => nI (qS q w L T h j)) 4) := by
  have key := lp_up (L := fun n' (z : Nat × Nat × (Nat → Int32)) v => f_S_measure_30 a (nI h) (nI w) n f (nI L) (nI T) qn n' (nI z.1) (nI v) (nI z.2.1) z.2.2) (st := fun v => (mxU (qS q w L T h) v, sN (qS q w L T h) v, wr Qf (fun j => nI (qS q w L T h j)) v)) (b := 4) (fin := (nI (mxU (qS q w L T h) 4), nI 4, nI (sN (qS q w L T h) 4), wr Qf (fun j => nI (qS q w L T h j)) 4))
    (fun n' => by
      show f_S_measure_30 _ _ _ _ _ _ _ _ (n' + 1) _ _ _ _ = _
      rw [f_S_measure_30]
      simp (disch := omega) only [n0, n1, n2, n3, n4, n5, n6, n7, n8, n10, n16, n40, n128, n255, n256, n1024, n2000, n2048, nJ_add, nJ_mul, nJ_sub, nJ_leT, nJ_leF, nJ_ltT, nJ_ltF, nJ_eqT, nJ_eqF, nJ_clamp, nJ_div, nM, iM_eqF, iM_eqF2, iM_leF, iM_ltF, iM_leT, iM_ltT, iM_add, iM_add0, natLeF, natLeT, natLtF, natLtT, natEqF, natEqT, if_true, if_false, ite_true, ite_false, false_or, or_false, or_self, Option.bind_some, ↓reduceIte])
    (fun n' v hv => by
      show f_S_measure_30 _ _ _ _ _ _ _ _ (n' + 1) _ _ _ _ = f_S_measure_30 _ _ _ _ _ _ _ _ n' _ _ _ _
      rw [f_S_measure_30, l_across hv, l_down hv]
      have m := qmul (h := h) hv
      have hS := l_G_sum (left := L + v % 2 * h) (top := T + v / 2 * h) (size := h) hw (by omega) (by omega) hn hf
      have e : sqS q w (L + v % 2 * h) (T + v / 2 * h) h = qS q w L T h v := rfl
      rw [e] at hS
      have hb := qS_le hw hv hL hT hq
      have hm : mxU (qS q w L T h) v ≤ 261120 := mx_le (fun j hj => qS_le hw (by omega) hL hT hq)
      by_cases c : mxU (qS q w L T h) v < qS q w L T h v
      · have e2 : mxU (qS q w L T h) (v + 1) = qS q w L T h v := by rw [mxU, if_pos c]
        rw [e2]
        simp (disch := omega) only [n0, n1, n2, n3, n4, n5, n6, n7, n8, n10, n16, n40, n128, n255, n256, n1024, n2000, n2048, nJ_add, nJ_mul, nJ_sub, nJ_leT, nJ_leF, nJ_ltT, nJ_ltF, nJ_eqT, nJ_eqF, nJ_clamp, nJ_div, nM, iM_eqF, iM_eqF2, iM_leF, iM_ltF, iM_leT, iM_ltT, iM_add, iM_add0, natLeF, natLeT, natLtF, natLtT, natEqF, natEqT, if_true, if_false, ite_true, ite_false, false_or, or_false, or_self, Option.bind_some, ↓reduceIte, hS, wrS Qf (fun j => nI (qS q w L T h j))]
        rfl
      · have e2 : mxU (qS q w L T h) (v + 1) = mxU (qS q w L T h) v := by rw [mxU, if_neg c]
        rw [e2]
        simp (disch := omega) only [n0, n1, n2, n3, n4, n5, n6, n7, n8, n10, n16, n40, n128, n255, n256, n1024, n2000, n2048, nJ_add, nJ_mul, nJ_sub, nJ_leT, nJ_leF, nJ_ltT, nJ_ltF, nJ_eqT, nJ_eqF, nJ_clamp, nJ_div, nM, iM_eqF, iM_eqF2, iM_leF, iM_ltF, iM_leT, iM_ltT, iM_add, iM_add0, natLeF, natLeT, natLtF, natLtT, natEqF, natEqT, if_true, if_false, ite_true, ite_false, false_or, or_false, or_self, Option.bind_some, ↓reduceIte, hS, wrS Qf (fun j => nI (qS q w L T h j))]
        rfl)
    FU 0 (Nat.zero_le _) (fu (by omega))
  have key : f_S_measure_30 a (nI h) (nI w) n f (nI L) (nI T) qn FU 0 0 0 (wr Qf (fun j => nI (qS q w L T h j)) 0) = _ := key
  rw [wr0] at key
  exact key
section
variable {w L T size n : Nat} {f : Nat → Int32} {q : Nat → Nat} {a b c : Int32}
abbrev v0 (w L T size : Nat) : Int32 := nI (dcell w L T (size - 1) 0 0 0)
abbrev vA (w L T size : Nat) : Int32 := nI (dcell w L T (size - 1) 0 1 0) - nI (dcell w L T (size - 1) 0 0 0)
abbrev vD (w L T size : Nat) : Int32 := nI (dcell w L T (size - 1) 0 0 1) - nI (dcell w L T (size - 1) 0 0 0)
theorem l_S_measure_129 (hw : w ≤ 64) (hs : 2 ≤ size) (hL : L + size ≤ w) (hT : T + size ≤ w) (hn : w * w ≤ n) (hn2 : n < 2147483648) (hf : ∀ k, k < w * w → f k = nI (q k)) {y : Nat} (hy : y < size) (z0 : Nat) :
    f_S_measure_129 a b c (nI y) (nI size) n f (v0 w L T size) (vA w L T size) (vD w L T size) FU 0 (nI z0) = some (nI size, nI (z0 + sN (fun x => q ((T + y) * w + L + x) * q ((T + y) * w + L + x)) size)) := by
  have key := lp_up (L := fun n' (z : Nat) v => f_S_measure_129 a b c (nI y) (nI size) n f (v0 w L T size) (vA w L T size) (vD w L T size) n' (nI v) (nI z)) (st := fun v => z0 + sN (fun x => q ((T + y) * w + L + x) * q ((T + y) * w + L + x)) v) (b := size) (fin := (nI size, nI (z0 + sN (fun x => q ((T + y) * w + L + x) * q ((T + y) * w + L + x)) size)))
    (fun n' => by
      show f_S_measure_129 _ _ _ _ _ _ _ _ _ _ (n' + 1) _ _ = _
      rw [f_S_measure_129]
      simp (disch := omega) only [n0, n1, n2, n3, n4, n5, n6, n7, n8, n10, n16, n40, n128, n255, n256, n1024, n2000, n2048, nJ_add, nJ_mul, nJ_sub, nJ_leT, nJ_leF, nJ_ltT, nJ_ltF, nJ_eqT, nJ_eqF, nJ_clamp, nJ_div, nM, iM_eqF, iM_eqF2, iM_leF, iM_ltF, iM_leT, iM_ltT, iM_add, iM_add0, natLeF, natLeT, natLtF, natLtT, natEqF, natEqT, if_true, if_false, ite_true, ite_false, false_or, or_false, or_self, Option.bind_some, ↓reduceIte])
    (fun n' v hv => by
      show f_S_measure_129 _ _ _ _ _ _ _ _ _ _ (n' + 1) _ _ = f_S_measure_129 _ _ _ _ _ _ _ _ _ _ n' _ _
      rw [f_S_measure_129, l_V_sample hw hs (by omega) hv hy hL hT hn hn2]
      have hc := dcell_lt (w := w) (left := L) (top := T) (m := size - 1) (turn := 0) (x := v) (y := y) (by omega) (by omega) (by omega) (by omega) (by omega)
      rw [hf _ hc]
      have e : dcell w L T (size - 1) 0 v y = (T + y) * w + L + v := rfl
      rw [e]
      simp (disch := omega) only [n0, n1, n2, n3, n4, n5, n6, n7, n8, n10, n16, n40, n128, n255, n256, n1024, n2000, n2048, nJ_add, nJ_mul, nJ_sub, nJ_leT, nJ_leF, nJ_ltT, nJ_ltF, nJ_eqT, nJ_eqF, nJ_clamp, nJ_div, nM, iM_eqF, iM_eqF2, iM_leF, iM_ltF, iM_leT, iM_ltT, iM_add, iM_add0, natLeF, natLeT, natLtF, natLtT, natEqF, natEqT, if_true, if_false, ite_true, ite_false, false_or, or_false, or_self, Option.bind_some, ↓reduceIte, sN, Nat.add_assoc])
    FU 0 (Nat.zero_le _) (fu (by omega))
  exact key
theorem l_S_measure_117 (hw : w ≤ 64) (hs : 2 ≤ size) (hL : L + size ≤ w) (hT : T + size ≤ w) (hn : w * w ≤ n) (hn2 : n < 2147483648) (hf : ∀ k, k < w * w → f k = nI (q k)) :
    f_S_measure_117 a b c (nI size) n f (v0 w L T size) (vA w L T size) (vD w L T size) FU 0 0 = some (nI size, nI (sQ (fun x y => q ((T + y) * w + L + x) * q ((T + y) * w + L + x)) size size)) := by
  have key := lp_up (L := fun n' (z : Nat) v => f_S_measure_117 a b c (nI size) n f (v0 w L T size) (vA w L T size) (vD w L T size) n' (nI v) (nI z)) (st := fun v => sQ (fun x y => q ((T + y) * w + L + x) * q ((T + y) * w + L + x)) size v) (b := size) (fin := (nI size, nI (sQ (fun x y => q ((T + y) * w + L + x) * q ((T + y) * w + L + x)) size size)))
    (fun n' => by
      show f_S_measure_117 _ _ _ _ _ _ _ _ _ (n' + 1) _ _ = _
      rw [f_S_measure_117]
      simp (disch := omega) only [n0, n1, n2, n3, n4, n5, n6, n7, n8, n10, n16, n40, n128, n255, n256, n1024, n2000, n2048, nJ_add, nJ_mul, nJ_sub, nJ_leT, nJ_leF, nJ_ltT, nJ_ltF, nJ_eqT, nJ_eqF, nJ_clamp, nJ_div, nM, iM_eqF, iM_eqF2, iM_leF, iM_ltF, iM_leT, iM_ltT, iM_add, iM_add0, natLeF, natLeT, natLtF, natLtT, natEqF, natEqT, if_true, if_false, ite_true, ite_false, false_or, or_false, or_self, Option.bind_some, ↓reduceIte])
    (fun n' v hv => by
      show f_S_measure_117 _ _ _ _ _ _ _ _ _ (n' + 1) _ _ = f_S_measure_117 _ _ _ _ _ _ _ _ _ n' _ _
      rw [f_S_measure_117, l_S_measure_129 hw hs hL hT hn hn2 hf hv]
      simp (disch := omega) only [n0, n1, n2, n3, n4, n5, n6, n7, n8, n10, n16, n40, n128, n255, n256, n1024, n2000, n2048, nJ_add, nJ_mul, nJ_sub, nJ_leT, nJ_leF, nJ_ltT, nJ_ltF, nJ_eqT, nJ_eqF, nJ_clamp, nJ_div, nM, iM_eqF, iM_eqF2, iM_leF, iM_ltF, iM_leT, iM_ltT, iM_add, iM_add0, natLeF, natLeT, natLtF, natLtT, natEqF, natEqT, if_true, if_false, ite_true, ite_false, false_or, or_false, or_self, Option.bind_some, ↓reduceIte]
      rfl)
    FU 0 (Nat.zero_le _) (fu (by omega))
  exact key
end
theorem q4_sum {q : Nat → Nat} {w L T h : Nat} : sN (qS q w L T h) 4 = sQ (fun x y => q ((T + y) * w + L + x)) (2 * h) (2 * h) := by
  rw [sQ_four]
  simp only [sN, qS, sqS, Nat.zero_mul, Nat.one_mul, Nat.reduceMod, Nat.reduceDiv, Nat.add_zero, Nat.zero_add]
  have e : ∀ a b c d : Nat, a + b + c + d = a + b + (c + d) := fun a b c d => by omega
  rw [e]
  congr 1
  · congr 1
    · exact sQ_congr (fun x y _ _ => by rw [Nat.add_assoc])
    · exact sQ_congr (fun x y _ _ => by rw [Nat.add_assoc, Nat.add_assoc])
  · congr 1
    · exact sQ_congr (fun x y _ _ => by rw [Nat.add_assoc, Nat.add_assoc])
    · exact sQ_congr (fun x y _ _ => by rw [Nat.add_assoc, Nat.add_assoc, Nat.add_assoc])
theorem l_S_measure {w h d n qn : Nat} {f Qf : Nat → Int32} {q : Nat → Nat} {a1 a2 a3 a4 a5 a6 a7 : Int32} (hw : w ≤ 32) (h1 : 0 < h) (h2 : 2 * h ≤ w) (hd : d < dac w h * dac w h) (hn : w * w ≤ n) (hn2 : n < 2147483648) (hqn : 4 ≤ qn) (hf : ∀ k, k < w * w → f k = nI (q k)) (hq : ∀ k, k < w * w → q k ≤ 255) (t : Nat) (h8 : t < 8) :
    ∃ b1 b2 b3 b4 b5, f_S_measure (nI d) (nI (2 * h)) a1 a2 (nI w) n f a3 a4 a5 a6 a7 qn Qf = some (nI (mxU (qS q w (domL w h d) (domT w h d) h) 4), nI (sN (dmn q w h d t) (2 * h * (2 * h))), nI (sN (fun k => dmn q w h d t k * dmn q w h d t k) (2 * h * (2 * h))), b1, b2, b3, b4, b5, wr Qf (fun j => nI (qS q w (domL w h d) (domT w h d) h j)) 4) := by
  obtain ⟨i1, i2⟩ := dom_in h1 h2 hd
  have e1 := dmn_sum (fun z => z) q w h d t h8
  have e1 : sN (dmn q w h d t) (2 * h * (2 * h)) = _ := e1
  have e2 := dmn_sum (fun z => z * z) q w h d t h8
  refine ⟨nI (domL w h d), nI (domT w h d), v0 w (domL w h d) (domT w h d) (2 * h), vA w (domL w h d) (domT w h d) (2 * h), vD w (domL w h d) (domT w h d) (2 * h), ?_⟩
  unfold f_S_measure
  rw [show (0 : Int32) = nI 0 from rfl, l_V_aim hw h1 h2 hd (by omega)]
  simp only [Option.bind_some]
  have e3 : nI (2 * h) / 2 = nI h := by simp (disch := omega) only [n0, n1, n2, n3, n4, n5, n6, n7, n8, n10, n16, n40, n128, n255, n256, n1024, n2000, n2048, nJ_add, nJ_mul, nJ_sub, nJ_leT, nJ_leF, nJ_ltT, nJ_ltF, nJ_eqT, nJ_eqF, nJ_clamp, nJ_div, nM, iM_eqF, iM_eqF2, iM_leF, iM_ltF, iM_leT, iM_ltT, iM_add, iM_add0, natLeF, natLeT, natLtF, natLtT, natEqF, natEqT, if_true, if_false, ite_true, ite_false, false_or, or_false, or_self, Option.bind_some, ↓reduceIte]
  rw [e3]
  have m1 := l_S_measure_30 (a := nI d) (Qf := Qf) (qn := qn) (show w ≤ 64 by omega) i1 i2 hn hqn hf hq
  have m2 := l_S_measure_117 (size := 2 * h) (a := nI d) (b := nI h) (c := nI (mxU (qS q w (domL w h d) (domT w h d) h) 4)) (show w ≤ 64 by omega) (by omega) i1 i2 hn hn2 hf
  rw [show (0 : Int32) = nI 0 from rfl] at m1 m2
  rw [m1]
  simp only [Option.bind_some]
  rw [m2]
  simp only [Option.bind_some]
  rw [e1, e2, q4_sum]
section
variable {w L T size t n dn : Nat} {f Df : Nat → Int32} {q : Nat → Nat}
abbrev u0 (w L T size t : Nat) : Int32 := nI (dcell w L T (size - 1) t 0 0)
abbrev uA (w L T size t : Nat) : Int32 := nI (dcell w L T (size - 1) t 1 0) - nI (dcell w L T (size - 1) t 0 0)
abbrev uD (w L T size t : Nat) : Int32 := nI (dcell w L T (size - 1) t 0 1) - nI (dcell w L T (size - 1) t 0 0)
abbrev dd (q : Nat → Nat) (w L T size t k : Nat) : Nat := q (dcell w L T (size - 1) t (k % size) (k / size))
theorem l_S_takeD_14 (hw : w ≤ 64) (h8 : t < 8) (hs : 2 ≤ size) (hL : L + size ≤ w) (hT : T + size ≤ w) (hn : w * w ≤ n) (hn2 : n < 2147483648) (hd : size * size ≤ dn) (hd2 : dn < 2147483648) (hf : ∀ k, k < w * w → f k = nI (q k)) {j : Nat} (hj : j < size) :
    f_S_takeDomain_14 (nI j) (nI size) n f (u0 w L T size t) (uA w L T size t) (uD w L T size t) dn FU (nI (j * size)) 0 (wr Df (fun k => nI (dd q w L T size t k)) (j * size)) = some (nI ((j + 1) * size), nI size, wr Df (fun k => nI (dd q w L T size t k)) ((j + 1) * size)) := by
  have hsz := sq64 (show size ≤ 64 by omega)
  have key := lp_up (L := fun n' (z : Nat × (Nat → Int32)) v => f_S_takeDomain_14 (nI j) (nI size) n f (u0 w L T size t) (uA w L T size t) (uD w L T size t) dn n' (nI z.1) (nI v) z.2) (st := fun v => (j * size + v, wr Df (fun k => nI (dd q w L T size t k)) (j * size + v))) (b := size) (fin := (nI ((j + 1) * size), nI size, wr Df (fun k => nI (dd q w L T size t k)) ((j + 1) * size)))
    (fun n' => by
      show f_S_takeDomain_14 _ _ _ _ _ _ _ _ (n' + 1) _ _ _ = _
      rw [f_S_takeDomain_14]
      simp (disch := omega) only [n0, n1, n2, n3, n4, n5, n6, n7, n8, n10, n16, n40, n128, n255, n256, n1024, n2000, n2048, nJ_add, nJ_mul, nJ_sub, nJ_leT, nJ_leF, nJ_ltT, nJ_ltF, nJ_eqT, nJ_eqF, nJ_clamp, nJ_div, nM, iM_eqF, iM_eqF2, iM_leF, iM_ltF, iM_leT, iM_ltT, iM_add, iM_add0, natLeF, natLeT, natLtF, natLtT, natEqF, natEqT, if_true, if_false, ite_true, ite_false, false_or, or_false, or_self, Option.bind_some, ↓reduceIte, Nat.succ_mul])
    (fun n' v hv => by
      show f_S_takeDomain_14 _ _ _ _ _ _ _ _ (n' + 1) _ _ _ = f_S_takeDomain_14 _ _ _ _ _ _ _ _ n' _ _ _
      have hc := dcell_lt (w := w) (left := L) (top := T) (m := size - 1) (turn := t) (x := v) (y := j) h8 (by omega) (by omega) (by omega) (by omega)
      rw [f_S_takeDomain_14, l_V_sample hw hs h8 hv hj hL hT hn hn2, hf _ hc]
      have h1 := ix hv hj
      obtain ⟨e1, e2⟩ := rowOf (y := j) hv
      have e : q (dcell w L T (size - 1) t v j) = dd q w L T size t (j * size + v) := by unfold dd; rw [e1, e2]
      rw [e]
      simp (disch := omega) only [n0, n1, n2, n3, n4, n5, n6, n7, n8, n10, n16, n40, n128, n255, n256, n1024, n2000, n2048, nJ_add, nJ_mul, nJ_sub, nJ_leT, nJ_leF, nJ_ltT, nJ_ltF, nJ_eqT, nJ_eqF, nJ_clamp, nJ_div, nM, iM_eqF, iM_eqF2, iM_leF, iM_ltF, iM_leT, iM_ltT, iM_add, iM_add0, natLeF, natLeT, natLtF, natLtT, natEqF, natEqT, if_true, if_false, ite_true, ite_false, false_or, or_false, or_self, Option.bind_some, ↓reduceIte, wrS Df (fun k => nI (dd q w L T size t k)), Nat.add_assoc])
    FU 0 (Nat.zero_le _) (fu (by omega))
  exact key
theorem l_S_takeDomain (hw : w ≤ 64) (h8 : t < 8) (hs : 2 ≤ size) (hL : L + size ≤ w) (hT : T + size ≤ w) (hn : w * w ≤ n) (hn2 : n < 2147483648) (hd : size * size ≤ dn) (hd2 : dn < 2147483648) (hf : ∀ k, k < w * w → f k = nI (q k)) :
    f_S_takeDomain (nI size) n f (u0 w L T size t) (uA w L T size t) (uD w L T size t) dn Df = some (wr Df (fun k => nI (dd q w L T size t k)) (size * size)) := by
  have key := lp_up (L := fun n' (z : Nat × (Nat → Int32)) v => f_S_takeDomain_4 (nI size) n f (u0 w L T size t) (uA w L T size t) (uD w L T size t) dn n' (nI z.1) (nI v) z.2) (st := fun v => (v * size, wr Df (fun k => nI (dd q w L T size t k)) (v * size))) (b := size) (fin := (nI (size * size), nI size, wr Df (fun k => nI (dd q w L T size t k)) (size * size)))
    (fun n' => by
      show f_S_takeDomain_4 _ _ _ _ _ _ _ (n' + 1) _ _ _ = _
      rw [f_S_takeDomain_4]
      simp (disch := omega) only [n0, n1, n2, n3, n4, n5, n6, n7, n8, n10, n16, n40, n128, n255, n256, n1024, n2000, n2048, nJ_add, nJ_mul, nJ_sub, nJ_leT, nJ_leF, nJ_ltT, nJ_ltF, nJ_eqT, nJ_eqF, nJ_clamp, nJ_div, nM, iM_eqF, iM_eqF2, iM_leF, iM_ltF, iM_leT, iM_ltT, iM_add, iM_add0, natLeF, natLeT, natLtF, natLtT, natEqF, natEqT, if_true, if_false, ite_true, ite_false, false_or, or_false, or_self, Option.bind_some, ↓reduceIte])
    (fun n' v hv => by
      show f_S_takeDomain_4 _ _ _ _ _ _ _ (n' + 1) _ _ _ = f_S_takeDomain_4 _ _ _ _ _ _ _ n' _ _ _
      rw [f_S_takeDomain_4, l_S_takeD_14 hw h8 hs hL hT hn hn2 hd hd2 hf hv]
      simp (disch := omega) only [n0, n1, n2, n3, n4, n5, n6, n7, n8, n10, n16, n40, n128, n255, n256, n1024, n2000, n2048, nJ_add, nJ_mul, nJ_sub, nJ_leT, nJ_leF, nJ_ltT, nJ_ltF, nJ_eqT, nJ_eqF, nJ_clamp, nJ_div, nM, iM_eqF, iM_eqF2, iM_leF, iM_ltF, iM_leT, iM_ltT, iM_add, iM_add0, natLeF, natLeT, natLtF, natLtT, natEqF, natEqT, if_true, if_false, ite_true, ite_false, false_or, or_false, or_self, Option.bind_some, ↓reduceIte])
    FU 0 (Nat.zero_le _) (fu (by omega))
  have key : f_S_takeDomain_4 (nI size) n f (u0 w L T size t) (uA w L T size t) (uD w L T size t) dn FU (nI (0 * size)) 0 (wr Df (fun k => nI (dd q w L T size t k)) (0 * size)) = _ := key
  rw [Nat.zero_mul, wr0] at key
  unfold f_S_takeDomain
  have key : f_S_takeDomain_4 (nI size) n f (u0 w L T size t) (uA w L T size t) (uD w L T size t) dn FU (0 : Int32) (0 : Int32) Df = _ := key
  rw [key]
  rfl
end
/-- a best fit as the class has it -/
def bOk (B : Fit5) : Prop := (B.2.2.2.2 = -1 ∨ 0 ≤ B.2.2.2.2) ∧ B.2.2.2.2 ≤ 126157824
theorem bstep_ok {D R : Nat → Nat} {n d t : Nat} {B : Fit5} (h : bOk B) (h0 : 0 < n) (hn : n ≤ 256) (hD : ∀ k, k < n → D k ≤ 255) (hR : ∀ k, k < n → R k ≤ 255) : bOk (bstep D R n B d t) := by
  unfold bstep
  split
  · have := fE_b h0 hn hD hR
    exact ⟨Or.inr this.1, this.2⟩
  · exact h
theorem l_S_tryTurn {w h d t n wn dn : Nat} {f W Df : Nat → Int32} {q R : Nat → Nat} {a1 a2 a3 a4 a5 : Int32} {B : Fit5} (hB : bOk B) (hw : w ≤ 32) (h1 : 0 < h) (h16 : 2 * h ≤ 16) (h2 : 2 * h ≤ w) (hd : d < dac w h * dac w h) (h8 : t < 8) (hn : w * w ≤ n) (hn2 : n < 2147483648) (hwn : 2 * h * (2 * h) ≤ wn) (hdn : 2 * h * (2 * h) ≤ dn) (hd2 : dn < 2147483648) (hf : ∀ k, k < w * w → f k = nI (q k)) (hq : ∀ k, k < w * w → q k ≤ 255) (hW : ∀ k, k < 2 * h * (2 * h) → W k = nI (R k)) (hR : ∀ k, k < 2 * h * (2 * h) → R k ≤ 255) {N : Nat} (hN : N = 2 * h * (2 * h)) :
    ∃ b1 b2 b3 b4 b5 b6, f_S_tryTurn (nI d) (nI t) (nI (2 * h)) (nI N) (nI (sN R N)) (nI (sN (dmn q w h d t) N)) (nI (sN (fun k => dmn q w h d t k * dmn q w h d t k) N)) (nI w) n f a1 a2 a3 a4 a5 wn W dn Df (nI B.1) (nI B.2.1) (iI B.2.2.1) (iI B.2.2.2.1) (iI B.2.2.2.2) =
      some (b1, b2, b3, b4, b5, b6, nI (bstep (dmn q w h d t) R N B d t).1, nI (bstep (dmn q w h d t) R N B d t).2.1, iI (bstep (dmn q w h d t) R N B d t).2.2.1, iI (bstep (dmn q w h d t) R N B d t).2.2.2.1, iI (bstep (dmn q w h d t) R N B d t).2.2.2.2) := by
  obtain ⟨i1, i2⟩ := dom_in h1 h2 hd
  have hz : N ≤ 256 := by rw [hN]; exact Nat.mul_le_mul h16 h16
  have hz0 : 0 < N := by rw [hN]; exact Nat.mul_pos (by omega) (by omega)
  have hD : ∀ k, k < N → dmn q w h d t k ≤ 255 := fun k hk => dmn_le h1 h2 hd h8 (by omega) hq
  have hR' : ∀ k, k < N → R k ≤ 255 := fun k hk => hR k (by omega)
  have hW' : ∀ k, k < N → W k = nI (R k) := fun k hk => hW k (by omega)
  refine ⟨nI (domL w h d), nI (domT w h d), u0 w (domL w h d) (domT w h d) (2 * h) t, uA w (domL w h d) (domT w h d) (2 * h) t, uD w (domL w h d) (domT w h d) (2 * h) t, wr Df (fun k => nI (dd q w (domL w h d) (domT w h d) (2 * h) t k)) (2 * h * (2 * h)), ?_⟩
  unfold f_S_tryTurn
  rw [l_V_aim hw h1 h2 hd h8]
  simp only [Option.bind_some]
  rw [l_S_takeDomain (q := q) (show w ≤ 64 by omega) h8 (by omega) i1 i2 hn hn2 hdn hd2 hf]
  simp only [Option.bind_some]
  have hDf : ∀ k, k < N → wr Df (fun k => nI (dd q w (domL w h d) (domT w h d) (2 * h) t k)) (2 * h * (2 * h)) k = nI (dmn q w h d t k) := fun k hk => wr_lt (by omega)
  generalize wr Df (fun k => nI (dd q w (domL w h d) (domT w h d) (2 * h) t k)) (2 * h * (2 * h)) = Df' at hDf ⊢
  generalize dmn q w h d t = D at hD hDf ⊢
  rw [l_S_contrast hz (by omega) (by omega) hW' hDf hD hR']
  simp only [Option.bind_some]
  rw [l_S_try_31 (fS_in D R N) hz (by omega) (by omega) hW' hDf hD]
  simp only [Option.bind_some]
  have eR : sI (fun k => (R k : Int) - dim (fS D R N) (D k)) N = fR D R N := rfl
  have bR := fR_b hz hD hR'
  have bO := fO_b hz0 hz hD hR'
  have bE := fE_b hz0 hz hD hR'
  have eE := fE_eq (D := D) (R := R) (n := N)
  have bn : (N : Int) * -223 ≥ -57088 ∧ (N : Int) * 479 ≤ 122624 := by omega
  rw [eR, nJ_long (by omega), iI_long (by omega) (by omega), l_F_nearest (by omega) (by omega) (by omega) (by omega)]
  simp only [Option.bind_some, lI_int]
  have eO : nrst (fR D R N) (N : Int) = fO D R N := rfl
  rw [eO]
  have err : iI (sI (fun k => ((R k : Int) - dim (fS D R N) (D k)) * ((R k : Int) - dim (fS D R N) (D k))) N) - 2 * iI (fO D R N) * iI (fR D R N) + nI N * iI (fO D R N) * iI (fO D R N) = iI (fE D R N) := by
    rw [eE, nJ_iI, show (2 : Int32) = iI 2 from rfl]
    simp only [iI_mul, iI_sub, iI_add]
  rw [err]
  unfold f_T_become bstep
  obtain ⟨hB1, hB2⟩ := hB
  have im : (-1 : Int32) = iI (-1) := rfl
  rw [im]
  by_cases c0 : B.2.2.2.2 = -1
  · rw [if_pos (by rw [c0]), if_pos (by omega)]
    rfl
  · have c1 : 0 ≤ B.2.2.2.2 := by omega
    by_cases c2 : fE D R N < B.2.2.2.2
    · simp (disch := omega) only [iI_eqF, iI_leF, ↓reduceIte]
      rw [if_pos (Or.inr c2)]
      rfl
    · simp (disch := omega) only [iI_eqF, iI_leT, ↓reduceIte]
      rw [if_neg (by omega)]
end
section
/-! the whole search of a block -/
def srch (q R : Nat → Nat) (w h c : Nat) : Nat → Fit5 × Nat
  | 0 => (fit0, 0)
  | k + 1 => if gd (qS q w (domL w h (k / 8)) (domT w h (k / 8)) h) (sqr (k % 8) c) then (bstep (dmn q w h (k / 8) (k % 8)) R (2 * h * (2 * h)) (srch q R w h c k).1 (k / 8) (k % 8), (srch q R w h c k).2 + 1) else srch q R w h c k
def bVal (A : Nat) (B : Fit5) : Prop := bOk B ∧ B.1 < A ∧ B.2.1 < 8 ∧ -7 ≤ B.2.2.1 ∧ B.2.2.1 ≤ 7 ∧ -223 ≤ B.2.2.2.1 ∧ B.2.2.2.1 ≤ 479
section
variable {q R : Nat → Nat} {w h c : Nat}
theorem n_le (h16 : 2 * h ≤ 16) : 2 * h * (2 * h) ≤ 256 := Nat.mul_le_mul h16 h16
theorem n_pos (h1 : 0 < h) : 0 < 2 * h * (2 * h) := Nat.mul_pos (by omega) (by omega)
theorem srch_val (h1 : 0 < h) (h16 : 2 * h ≤ 16) (h2 : 2 * h ≤ w) (hq : ∀ k, k < w * w → q k ≤ 255) (hR : ∀ k, k < 2 * h * (2 * h) → R k ≤ 255) : ∀ k, k ≤ 8 * (dac w h * dac w h) → bVal (dac w h * dac w h) (srch q R w h c k).1 := by
  intro k
  induction k with
  | zero =>
    intro _
    have := dac_pos h1 h2
    have : 0 < dac w h * dac w h := Nat.mul_pos (by omega) (by omega)
    show bVal (dac w h * dac w h) fit0
    exact ⟨⟨Or.inl rfl, by decide⟩, this, by decide, by decide, by decide, by decide, by decide⟩
  | succ k ih =>
    intro hk
    have ih := ih (by omega)
    rw [srch]
    split
    · have hd : k / 8 < dac w h * dac w h := by omega
      have h8 : k % 8 < 8 := by omega
      have hD : ∀ j, j < 2 * h * (2 * h) → dmn q w h (k / 8) (k % 8) j ≤ 255 := fun j hj => dmn_le h1 h2 hd h8 hj hq
      have bo := bstep_ok (d := k / 8) (t := k % 8) ih.1 (n_pos h1) (n_le h16) hD hR
      refine ⟨bo, ?_⟩
      unfold bstep
      split
      · have o := fO_b (n_pos h1) (n_le h16) hD hR
        have s := fS_in (dmn q w h (k / 8) (k % 8)) R (2 * h * (2 * h))
        exact ⟨hd, h8, s.1, s.2, o.1, o.2⟩
      · exact ih.2
    · exact ih
theorem srch_set (h1 : 0 < h) (h16 : 2 * h ≤ 16) (h2 : 2 * h ≤ w) (hq : ∀ k, k < w * w → q k ≤ 255) (hR : ∀ k, k < 2 * h * (2 * h) → R k ≤ 255) {j : Nat} (hg : gd (qS q w (domL w h (j / 8)) (domT w h (j / 8)) h) (sqr (j % 8) c)) : ∀ k, k ≤ 8 * (dac w h * dac w h) → j < k → 0 ≤ (srch q R w h c k).1.2.2.2.2 := by
  intro k
  induction k with
  | zero => intro _ h; omega
  | succ k ih =>
    intro hk hj
    have hd : k / 8 < dac w h * dac w h := by omega
    have h8 : k % 8 < 8 := by omega
    have hD : ∀ j, j < 2 * h * (2 * h) → dmn q w h (k / 8) (k % 8) j ≤ 255 := fun j hj => dmn_le h1 h2 hd h8 hj hq
    have bE := fE_b (n_pos h1) (n_le h16) hD hR
    rw [srch]
    by_cases e : j = k
    · subst e
      rw [if_pos hg]
      show 0 ≤ (bstep _ _ _ _ _ _).2.2.2.2
      unfold bstep
      split
      · exact bE.1
      · omega
    · have ih := ih (by omega) (by omega)
      split
      · show 0 ≤ (bstep _ _ _ _ _ _).2.2.2.2
        unfold bstep
        split
        · exact bE.1
        · exact ih
      · exact ih
theorem srch_end (h1 : 0 < h) (h16 : 2 * h ≤ 16) (h2 : 2 * h ≤ w) (hc : c < 4) (hq : ∀ k, k < w * w → q k ≤ 255) (hR : ∀ k, k < 2 * h * (2 * h) → R k ≤ 255) : 0 ≤ (srch q R w h c (8 * (dac w h * dac w h))).1.2.2.2.2 := by
  have ha := dac_pos h1 h2
  have : 0 < dac w h * dac w h := Nat.mul_pos (by omega) (by omega)
  obtain ⟨t, ht, e⟩ := sqr_some hc (am_lt (qS q w (domL w h 0) (domT w h 0) h))
  refine srch_set (j := t) h1 h16 h2 hq hR ?_ _ (Nat.le_refl _) (by omega)
  rw [show t / 8 = 0 by omega, show t % 8 = t by omega, e]
  exact ⟨am_ge _ 0 (by omega), am_ge _ 1 (by omega), am_ge _ 2 (by omega), am_ge _ 3 (by omega)⟩
end
theorem and3 {j : Nat} (h : j < 4) : nI j &&& (3 : Int32) = nI j := by
  rcases four h with rfl | rfl | rfl | rfl <;> decide
theorem dmn_sum0 (G : Nat → Nat) (q : Nat → Nat) (w h d t : Nat) (h8 : t < 8) : sN (fun k => G (dmn q w h d 0 k)) (2 * h * (2 * h)) = sN (fun k => G (dmn q w h d t k)) (2 * h * (2 * h)) := by
  rw [dmn_sum G q w h d 0 (by omega), dmn_sum G q w h d t h8]
section
variable {w h n wn dn qn rn : Nat} {f W : Nat → Int32} {q R : Nat → Nat}
theorem l_S_find_53 (hw : w ≤ 32) (h1 : 0 < h) (h16 : 2 * h ≤ 16) (h2 : 2 * h ≤ w) (hn : w * w ≤ n) (hn2 : n < 2147483648) (hwn : 2 * h * (2 * h) ≤ wn) (hdn : 2 * h * (2 * h) ≤ dn) (hd2 : dn < 2147483648) (hqn : 4 ≤ qn) (hrn : 8 ≤ rn) (hf : ∀ k, k < w * w → f k = nI (q k)) (hq : ∀ k, k < w * w → q k ≤ 255) (hW : ∀ k, k < 2 * h * (2 * h) → W k = nI (R k)) (hR : ∀ k, k < 2 * h * (2 * h) → R k ≤ 255)
    {c d : Nat} (hc : c < 4) (hd : d < dac w h * dac w h) {Qf Rf Df : Nat → Int32} (hQ : ∀ j, j < 4 → Qf j = nI (qS q w (domL w h d) (domT w h d) h j)) (hRf : ∀ t, t < 8 → Rf t = nI (sqr t c)) {p1 p2 p3 p4 a1 a2 a3 a4 a5 : Int32} (tr : Nat) :
    ∃ b1 b2 b3 b4 b5 b6, f_S_findBest_53 p1 p2 p3 p4 (nI d) (nI (mxU (qS q w (domL w h d) (domT w h d) h) 4)) (nI (2 * h)) (nI (2 * h * (2 * h))) (nI (sN R (2 * h * (2 * h)))) (nI (sN (dmn q w h d 0) (2 * h * (2 * h)))) (nI (sN (fun k => dmn q w h d 0 k * dmn q w h d 0 k) (2 * h * (2 * h)))) (nI w) n f wn W dn qn Qf rn Rf FU 0 (nI (tr + (srch q R w h c (8 * d)).2)) a1 a2 a3 a4 a5 Df (nI (srch q R w h c (8 * d)).1.1) (nI (srch q R w h c (8 * d)).1.2.1) (iI (srch q R w h c (8 * d)).1.2.2.1) (iI (srch q R w h c (8 * d)).1.2.2.2.1) (iI (srch q R w h c (8 * d)).1.2.2.2.2) =
      some (nI 8, nI (tr + (srch q R w h c (8 * d + 8)).2), b1, b2, b3, b4, b5, b6, nI (srch q R w h c (8 * d + 8)).1.1, nI (srch q R w h c (8 * d + 8)).1.2.1, iI (srch q R w h c (8 * d + 8)).1.2.2.1, iI (srch q R w h c (8 * d + 8)).1.2.2.2.1, iI (srch q R w h c (8 * d + 8)).1.2.2.2.2) := by
  obtain ⟨i1, i2⟩ := dom_in h1 h2 hd
  have hv := srch_val (c := c) h1 h16 h2 hq hR
  have key := lp_inv (L := fun n' (z : Int32 × Int32 × Int32 × Int32 × Int32 × Int32 × (Nat → Int32) × Int32 × Int32 × Int32 × Int32 × Int32) v => f_S_findBest_53 p1 p2 p3 p4 (nI d) (nI (mxU (qS q w (domL w h d) (domT w h d) h) 4)) (nI (2 * h)) (nI (2 * h * (2 * h))) (nI (sN R (2 * h * (2 * h)))) (nI (sN (dmn q w h d 0) (2 * h * (2 * h)))) (nI (sN (fun k => dmn q w h d 0 k * dmn q w h d 0 k) (2 * h * (2 * h)))) (nI w) n f wn W dn qn Qf rn Rf n' (nI v) z.1 z.2.1 z.2.2.1 z.2.2.2.1 z.2.2.2.2.1 z.2.2.2.2.2.1 z.2.2.2.2.2.2.1 z.2.2.2.2.2.2.2.1 z.2.2.2.2.2.2.2.2.1 z.2.2.2.2.2.2.2.2.2.1 z.2.2.2.2.2.2.2.2.2.2.1 z.2.2.2.2.2.2.2.2.2.2.2)
    (I := fun v z => ∃ b1 b2 b3 b4 b5 b6, z = (nI (tr + (srch q R w h c (8 * d + v)).2), b1, b2, b3, b4, b5, b6, nI (srch q R w h c (8 * d + v)).1.1, nI (srch q R w h c (8 * d + v)).1.2.1, iI (srch q R w h c (8 * d + v)).1.2.2.1, iI (srch q R w h c (8 * d + v)).1.2.2.2.1, iI (srch q R w h c (8 * d + v)).1.2.2.2.2))
    (F := fun r => ∃ b1 b2 b3 b4 b5 b6, r = (nI 8, nI (tr + (srch q R w h c (8 * d + 8)).2), b1, b2, b3, b4, b5, b6, nI (srch q R w h c (8 * d + 8)).1.1, nI (srch q R w h c (8 * d + 8)).1.2.1, iI (srch q R w h c (8 * d + 8)).1.2.2.1, iI (srch q R w h c (8 * d + 8)).1.2.2.2.1, iI (srch q R w h c (8 * d + 8)).1.2.2.2.2)) (b := 8)
    (fun n' z hz => by
      obtain ⟨b1, b2, b3, b4, b5, b6, rfl⟩ := hz
      refine ⟨_, ?_, b1, b2, b3, b4, b5, b6, rfl⟩
      show f_S_findBest_53 _ _ _ _ _ _ _ _ _ _ _ _ _ _ _ _ _ _ _ _ _ (n' + 1) _ _ _ _ _ _ _ _ _ _ _ _ _ = _
      rw [f_S_findBest_53]
      simp (disch := omega) only [n0, n1, n2, n3, n4, n5, n6, n7, n8, n10, n16, n40, n128, n255, n256, n1024, n2000, n2048, nJ_add, nJ_mul, nJ_sub, nJ_leT, nJ_leF, nJ_ltT, nJ_ltF, nJ_eqT, nJ_eqF, nJ_clamp, nJ_div, nM, iM_eqF, iM_eqF2, iM_leF, iM_ltF, iM_leT, iM_ltT, iM_add, iM_add0, natLeF, natLeT, natLtF, natLtT, natEqF, natEqT, if_true, if_false, ite_true, ite_false, false_or, or_false, or_self, Option.bind_some, ↓reduceIte])
    (fun n' z v hv8 hz => by
      obtain ⟨b1, b2, b3, b4, b5, b6, rfl⟩ := hz
      have ed : (8 * d + v) / 8 = d := by omega
      have em : (8 * d + v) % 8 = v := by omega
      have hB := (hv (8 * d + v) (by omega)).1
      have hj := sqr_lt hv8 hc
      have st : srch q R w h c (8 * d + (v + 1)) = if gd (qS q w (domL w h d) (domT w h d) h) (sqr v c) then (bstep (dmn q w h d v) R (2 * h * (2 * h)) (srch q R w h c (8 * d + v)).1 d v, (srch q R w h c (8 * d + v)).2 + 1) else srch q R w h c (8 * d + v) := by
        rw [← Nat.add_assoc, srch, ed, em]
      rw [st]
      generalize srch q R w h c (8 * d + v) = BB at hB
      have hQj := hQ _ hj
      have hRv := hRf v hv8
      have hb1 := qS_le (show w ≤ 64 by omega) hj i1 i2 hq
      have hb2 : mxU (qS q w (domL w h d) (domT w h d) h) 4 ≤ 261120 := mx_le (fun j hj => qS_le (by omega) hj i1 i2 hq)
      have e1 : sN (dmn q w h d 0) (2 * h * (2 * h)) = sN (dmn q w h d v) (2 * h * (2 * h)) := dmn_sum0 (fun z => z) q w h d v hv8
      have e2 : sN (fun k => dmn q w h d 0 k * dmn q w h d 0 k) (2 * h * (2 * h)) = sN (fun k => dmn q w h d v k * dmn q w h d v k) (2 * h * (2 * h)) := dmn_sum0 (fun z => z * z) q w h d v hv8
      by_cases g : gd (qS q w (domL w h d) (domT w h d) h) (sqr v c)
      · obtain ⟨x1, x2, x3, x4, x5, x6, ht⟩ := l_S_tryTurn (B := BB.1) (a1 := b1) (a2 := b2) (a3 := b3) (a4 := b4) (a5 := b5) (Df := b6) hB hw h1 h16 h2 hd hv8 hn hn2 hwn hdn hd2 hf hq hW hR rfl
        rw [if_pos g]
        refine ⟨_, ?_, x1, x2, x3, x4, x5, x6, rfl⟩
        show f_S_findBest_53 _ _ _ _ _ _ _ _ _ _ _ _ _ _ _ _ _ _ _ _ _ (n' + 1) _ _ _ _ _ _ _ _ _ _ _ _ _ = f_S_findBest_53 _ _ _ _ _ _ _ _ _ _ _ _ _ _ _ _ _ _ _ _ _ n' _ _ _ _ _ _ _ _ _ _ _ _ _
        rw [f_S_findBest_53]
        have gm := (gd_iff _ _ hj).mp g
        simp (disch := omega) only [n0, n1, n2, n3, n4, n5, n6, n7, n8, n10, n16, n40, n128, n255, n256, n1024, n2000, n2048, nJ_add, nJ_mul, nJ_sub, nJ_leT, nJ_leF, nJ_ltT, nJ_ltF, nJ_eqT, nJ_eqF, nJ_clamp, nJ_div, nM, iM_eqF, iM_eqF2, iM_leF, iM_ltF, iM_leT, iM_ltT, iM_add, iM_add0, natLeF, natLeT, natLtF, natLtT, natEqF, natEqT, if_true, if_false, ite_true, ite_false, false_or, or_false, or_self, Option.bind_some, ↓reduceIte, hRv]
        rw [← n3, and3 hj]
        simp (disch := omega) only [n0, n1, n2, n3, n4, n5, n6, n7, n8, n10, n16, n40, n128, n255, n256, n1024, n2000, n2048, nJ_add, nJ_mul, nJ_sub, nJ_leT, nJ_leF, nJ_ltT, nJ_ltF, nJ_eqT, nJ_eqF, nJ_clamp, nJ_div, nM, iM_eqF, iM_eqF2, iM_leF, iM_ltF, iM_leT, iM_ltT, iM_add, iM_add0, natLeF, natLeT, natLtF, natLtT, natEqF, natEqT, if_true, if_false, ite_true, ite_false, false_or, or_false, or_self, Option.bind_some, ↓reduceIte, hQj]
        rw [e1, e2, ht]
        simp (disch := omega) only [n0, n1, n2, n3, n4, n5, n6, n7, n8, n10, n16, n40, n128, n255, n256, n1024, n2000, n2048, nJ_add, nJ_mul, nJ_sub, nJ_leT, nJ_leF, nJ_ltT, nJ_ltF, nJ_eqT, nJ_eqF, nJ_clamp, nJ_div, nM, iM_eqF, iM_eqF2, iM_leF, iM_ltF, iM_leT, iM_ltT, iM_add, iM_add0, natLeF, natLeT, natLtF, natLtT, natEqF, natEqT, if_true, if_false, ite_true, ite_false, false_or, or_false, or_self, Option.bind_some, ↓reduceIte, Nat.add_assoc]
      · rw [if_neg g]
        refine ⟨_, ?_, b1, b2, b3, b4, b5, b6, rfl⟩
        show f_S_findBest_53 _ _ _ _ _ _ _ _ _ _ _ _ _ _ _ _ _ _ _ _ _ (n' + 1) _ _ _ _ _ _ _ _ _ _ _ _ _ = f_S_findBest_53 _ _ _ _ _ _ _ _ _ _ _ _ _ _ _ _ _ _ _ _ _ n' _ _ _ _ _ _ _ _ _ _ _ _ _
        rw [f_S_findBest_53]
        have gm : ¬ qS q w (domL w h d) (domT w h d) h (sqr v c) = mxU (qS q w (domL w h d) (domT w h d) h) 4 := fun e => g ((gd_iff _ _ hj).mpr e)
        simp (disch := omega) only [n0, n1, n2, n3, n4, n5, n6, n7, n8, n10, n16, n40, n128, n255, n256, n1024, n2000, n2048, nJ_add, nJ_mul, nJ_sub, nJ_leT, nJ_leF, nJ_ltT, nJ_ltF, nJ_eqT, nJ_eqF, nJ_clamp, nJ_div, nM, iM_eqF, iM_eqF2, iM_leF, iM_ltF, iM_leT, iM_ltT, iM_add, iM_add0, natLeF, natLeT, natLtF, natLtT, natEqF, natEqT, if_true, if_false, ite_true, ite_false, false_or, or_false, or_self, Option.bind_some, ↓reduceIte, hRv]
        rw [← n3, and3 hj]
        simp (disch := omega) only [n0, n1, n2, n3, n4, n5, n6, n7, n8, n10, n16, n40, n128, n255, n256, n1024, n2000, n2048, nJ_add, nJ_mul, nJ_sub, nJ_leT, nJ_leF, nJ_ltT, nJ_ltF, nJ_eqT, nJ_eqF, nJ_clamp, nJ_div, nM, iM_eqF, iM_eqF2, iM_leF, iM_ltF, iM_leT, iM_ltT, iM_add, iM_add0, natLeF, natLeT, natLtF, natLtT, natEqF, natEqT, if_true, if_false, ite_true, ite_false, false_or, or_false, or_self, Option.bind_some, ↓reduceIte, hQj])
    FU 0 _ (Nat.zero_le _) (fu (by omega)) ⟨a1, a2, a3, a4, a5, Df, rfl⟩
  obtain ⟨r, e, b1, b2, b3, b4, b5, b6, rfl⟩ := key
  exact ⟨b1, b2, b3, b4, b5, b6, e⟩
theorem l_S_find_35 (hw : w ≤ 32) (h1 : 0 < h) (h16 : 2 * h ≤ 16) (h2 : 2 * h ≤ w) (hn : w * w ≤ n) (hn2 : n < 2147483648) (hwn : 2 * h * (2 * h) ≤ wn) (hdn : 2 * h * (2 * h) ≤ dn) (hd2 : dn < 2147483648) (hqn : 4 ≤ qn) (hrn : 8 ≤ rn) (hf : ∀ k, k < w * w → f k = nI (q k)) (hq : ∀ k, k < w * w → q k ≤ 255) (hW : ∀ k, k < 2 * h * (2 * h) → W k = nI (R k)) (hR : ∀ k, k < 2 * h * (2 * h) → R k ≤ 255)
    {c : Nat} (hc : c < 4) {Rf Df Qf : Nat → Int32} (hRf : ∀ t, t < 8 → Rf t = nI (sqr t c)) {p1 p2 p3 a1 a2 a3 a4 a5 a6 a7 : Int32} (tr : Nat) :
    ∃ c1 c2 b1 b2 b3 b4 b5 b6 b7, f_S_findBest_35 p1 p2 p3 (nI (dac w h * dac w h)) (nI (2 * h)) (nI (2 * h * (2 * h))) (nI (sN R (2 * h * (2 * h)))) (nI w) n f wn W dn qn rn Rf FU 0 (nI tr) a6 a7 a1 a2 a3 a4 a5 Df Qf 0 0 0 0 (-1) =
      some (nI (dac w h * dac w h), nI (tr + (srch q R w h c (8 * (dac w h * dac w h))).2), c1, c2, b1, b2, b3, b4, b5, b6, b7, nI (srch q R w h c (8 * (dac w h * dac w h))).1.1, nI (srch q R w h c (8 * (dac w h * dac w h))).1.2.1, iI (srch q R w h c (8 * (dac w h * dac w h))).1.2.2.1, iI (srch q R w h c (8 * (dac w h * dac w h))).1.2.2.2.1, iI (srch q R w h c (8 * (dac w h * dac w h))).1.2.2.2.2) := by
  have hA : dac w h * dac w h ≤ 961 := by
    have h3 : w / h ≤ w := Nat.div_le_self w h
    have h4 : dac w h ≤ 31 := by unfold dac; omega
    exact Nat.mul_le_mul h4 h4
  have key := lp_inv (L := fun n' (z : Int32 × Int32 × Int32 × Int32 × Int32 × Int32 × Int32 × Int32 × (Nat → Int32) × (Nat → Int32) × Int32 × Int32 × Int32 × Int32 × Int32) v => f_S_findBest_35 p1 p2 p3 (nI (dac w h * dac w h)) (nI (2 * h)) (nI (2 * h * (2 * h))) (nI (sN R (2 * h * (2 * h)))) (nI w) n f wn W dn qn rn Rf n' (nI v) z.1 z.2.1 z.2.2.1 z.2.2.2.1 z.2.2.2.2.1 z.2.2.2.2.2.1 z.2.2.2.2.2.2.1 z.2.2.2.2.2.2.2.1 z.2.2.2.2.2.2.2.2.1 z.2.2.2.2.2.2.2.2.2.1 z.2.2.2.2.2.2.2.2.2.2.1 z.2.2.2.2.2.2.2.2.2.2.2.1 z.2.2.2.2.2.2.2.2.2.2.2.2.1 z.2.2.2.2.2.2.2.2.2.2.2.2.2.1 z.2.2.2.2.2.2.2.2.2.2.2.2.2.2)
    (I := fun v z => ∃ c1 c2 b1 b2 b3 b4 b5 b6 b7, z = (nI (tr + (srch q R w h c (8 * v)).2), c1, c2, b1, b2, b3, b4, b5, b6, b7, nI (srch q R w h c (8 * v)).1.1, nI (srch q R w h c (8 * v)).1.2.1, iI (srch q R w h c (8 * v)).1.2.2.1, iI (srch q R w h c (8 * v)).1.2.2.2.1, iI (srch q R w h c (8 * v)).1.2.2.2.2))
    (F := fun r => ∃ c1 c2 b1 b2 b3 b4 b5 b6 b7, r = (nI (dac w h * dac w h), nI (tr + (srch q R w h c (8 * (dac w h * dac w h))).2), c1, c2, b1, b2, b3, b4, b5, b6, b7, nI (srch q R w h c (8 * (dac w h * dac w h))).1.1, nI (srch q R w h c (8 * (dac w h * dac w h))).1.2.1, iI (srch q R w h c (8 * (dac w h * dac w h))).1.2.2.1, iI (srch q R w h c (8 * (dac w h * dac w h))).1.2.2.2.1, iI (srch q R w h c (8 * (dac w h * dac w h))).1.2.2.2.2)) (b := dac w h * dac w h)
    (fun n' z hz => by
      obtain ⟨c1, c2, b1, b2, b3, b4, b5, b6, b7, rfl⟩ := hz
      refine ⟨_, ?_, c1, c2, b1, b2, b3, b4, b5, b6, b7, rfl⟩
      show f_S_findBest_35 _ _ _ _ _ _ _ _ _ _ _ _ _ _ _ _ (n' + 1) _ _ _ _ _ _ _ _ _ _ _ _ _ _ _ _ = _
      rw [f_S_findBest_35]
      simp (disch := omega) only [n0, n1, n2, n3, n4, n5, n6, n7, n8, n10, n16, n40, n128, n255, n256, n1024, n2000, n2048, nJ_add, nJ_mul, nJ_sub, nJ_leT, nJ_leF, nJ_ltT, nJ_ltF, nJ_eqT, nJ_eqF, nJ_clamp, nJ_div, nM, iM_eqF, iM_eqF2, iM_leF, iM_ltF, iM_leT, iM_ltT, iM_add, iM_add0, natLeF, natLeT, natLtF, natLtT, natEqF, natEqT, if_true, if_false, ite_true, ite_false, false_or, or_false, or_self, Option.bind_some, ↓reduceIte])
    (fun n' z v hv hz => by
      obtain ⟨c1, c2, b1, b2, b3, b4, b5, b6, b7, rfl⟩ := hz
      obtain ⟨m1, m2, m3, m4, m5, hm⟩ := l_S_measure (a1 := c1) (a2 := c2) (a3 := b1) (a4 := b2) (a5 := b3) (a6 := b4) (a7 := b5) (Qf := b7) hw h1 h2 hv hn hn2 hqn hf hq 0 (by omega)
      obtain ⟨x1, x2, x3, x4, x5, x6, ht⟩ := l_S_find_53 (d := v) (Qf := wr b7 (fun j => nI (qS q w (domL w h v) (domT w h v) h j)) 4) (Rf := Rf) (Df := b6) (p1 := p1) (p2 := p2) (p3 := p3) (p4 := nI (dac w h * dac w h)) (a1 := m1) (a2 := m2) (a3 := m3) (a4 := m4) (a5 := m5) hw h1 h16 h2 hn hn2 hwn hdn hd2 hqn hrn hf hq hW hR hc hv (fun j hj => wr_lt hj) hRf tr
      refine ⟨_, ?_, nI (sN (dmn q w h v 0) (2 * h * (2 * h))), nI (sN (fun k => dmn q w h v 0 k * dmn q w h v 0 k) (2 * h * (2 * h))), x1, x2, x3, x4, x5, x6, wr b7 (fun j => nI (qS q w (domL w h v) (domT w h v) h j)) 4, rfl⟩
      show f_S_findBest_35 _ _ _ _ _ _ _ _ _ _ _ _ _ _ _ _ (n' + 1) _ _ _ _ _ _ _ _ _ _ _ _ _ _ _ _ = f_S_findBest_35 _ _ _ _ _ _ _ _ _ _ _ _ _ _ _ _ n' _ _ _ _ _ _ _ _ _ _ _ _ _ _ _ _
      rw [f_S_findBest_35, if_neg (by rw [nJ_leF (by omega) (by omega)]; exact not_false), hm]
      simp only [Option.bind_some]
      rw [ht]
      simp only [Option.bind_some]
      rw [n1, nJ_add, Nat.mul_add])
    FU 0 _ (Nat.zero_le _) (fu (by omega)) ⟨a6, a7, a1, a2, a3, a4, a5, Df, Qf, rfl⟩
  obtain ⟨r, e, c1, c2, b1, b2, b3, b4, b5, b6, b7, rfl⟩ := key
  exact ⟨c1, c2, b1, b2, b3, b4, b5, b6, b7, e⟩
end
end
section
/-! the search, of the class and of the reference -/
theorem l_F_domains {w h : Nat} (hw : w ≤ 32) (h1 : 0 < h) (h2 : 2 * h ≤ w) : f_F_domainsOf (nI (2 * w)) (nI (2 * h)) = some (nI (dac w h * dac w h)) := by
  unfold f_F_domainsOf
  rw [l_F_across hw h1 h2]
  simp (disch := omega) only [n0, n1, n2, n3, n4, n5, n6, n7, n8, n10, n16, n40, n128, n255, n256, n1024, n2000, n2048, nJ_add, nJ_mul, nJ_sub, nJ_leT, nJ_leF, nJ_ltT, nJ_ltF, nJ_eqT, nJ_eqF, nJ_clamp, nJ_div, nM, iM_eqF, iM_eqF2, iM_leF, iM_ltF, iM_leT, iM_ltT, iM_add, iM_add0, natLeF, natLeT, natLtF, natLtT, natEqF, natEqT, if_true, if_false, ite_true, ite_false, false_or, or_false, or_self, Option.bind_some, ↓reduceIte]
/-- what a search of the block at x, y gives -/
def best (p : Nat → Nat) (w h x y : Nat) : Fit5 × Nat := srch (hlf p (2 * w)) (blk p (2 * w) x y (2 * h)) w h (am (qS p (2 * w) x y h)) (8 * (dac w h * dac w h))
theorem hlf_le {p : Nat → Nat} {w k : Nat} (hp : ∀ k, k < 2 * w * (2 * w) → p k ≤ 255) (hk : k < w * w) : hlf p (2 * w) k ≤ 255 := by
  unfold hlf
  have e : 2 * w / 2 = w := by omega
  rw [e]
  have hx := modLt hk
  have hy := divLt hk
  have a1 : 2 * (k / w) * (2 * w) + 2 * (k % w) < 2 * w * (2 * w) := ix (by omega) (by omega)
  have a2 : 2 * (k / w) * (2 * w) + 2 * (k % w) + 1 < 2 * w * (2 * w) := ix (x := 2 * (k % w) + 1) (y := 2 * (k / w)) (by omega) (by omega)
  have a4 : (2 * (k / w) + 1) * (2 * w) + (2 * (k % w) + 1) < 2 * w * (2 * w) := ix (by omega) (by omega)
  rw [Nat.add_mul] at a4
  have b1 := hp _ a1
  have b2 := hp _ a2
  have b3 := hp (2 * (k / w) * (2 * w) + 2 * (k % w) + 2 * w) (by omega)
  have b4 := hp (2 * (k / w) * (2 * w) + 2 * (k % w) + 2 * w + 1) (by omega)
  omega
section
variable {p : Nat → Nat} {w h x y : Nat}
theorem best_val (h1 : 0 < h) (h16 : 2 * h ≤ 16) (h2 : 2 * h ≤ w) (hx : x + 2 * h ≤ 2 * w) (hy : y + 2 * h ≤ 2 * w) (hp : ∀ k, k < 2 * w * (2 * w) → p k ≤ 255) : bVal (dac w h * dac w h) (best p w h x y).1 ∧ 0 ≤ (best p w h x y).1.2.2.2.2 :=
  ⟨srch_val h1 h16 h2 (fun k hk => hlf_le hp hk) (fun k hk => blk_le hx hy hk hp) _ (Nat.le_refl _), srch_end h1 h16 h2 (am_lt _) (fun k hk => hlf_le hp hk) (fun k hk => blk_le hx hy hk hp)⟩
theorem l_S_findBest {n hn wn dn qn rn tr : Nat} {f hf W Df Qf Rf : Nat → Int32} {a1 a2 a3 a4 a5 a6 a7 a8 a9 a10 e1 e2 e3 e4 e5 : Int32} (hw : w ≤ 16) (h1 : 0 < h) (h16 : 2 * h ≤ 16) (h2 : 2 * h ≤ w) (hx : x + 2 * h ≤ 2 * w) (hy : y + 2 * h ≤ 2 * w)
    (hn1 : 2 * w * (2 * w) ≤ n) (hH : w * w ≤ hn) (hH2 : hn < 2147483648) (hwn : w * w ≤ wn) (hw2 : wn < 2147483648) (hdn : w * w ≤ dn) (hd2 : dn < 2147483648) (hqn : 4 ≤ qn) (hrn : 8 ≤ rn)
    (hf1 : ∀ k, k < 2 * w * (2 * w) → f k = nI (p k)) (hp : ∀ k, k < 2 * w * (2 * w) → p k ≤ 255) (hh : ∀ k, k < w * w → hf k = nI (hlf p (2 * w) k)) :
    ∃ b1 b2 b3 b4 b5 b6 b7 b8 b9 b10 W' D' Q' R', f_S_findBest (nI x) (nI y) (nI (2 * h)) (nI tr) a1 a2 a3 a4 a5 (nI (2 * w)) n f (nI w) hn hf a6 a7 a8 a9 a10 wn W dn Df qn Qf rn Rf e1 e2 e3 e4 e5 =
      some (nI (tr + (best p w h x y).2), b1, b2, b3, b4, b5, b6, b7, b8, b9, b10, W', D', Q', R', nI (best p w h x y).1.1, nI (best p w h x y).1.2.1, iI (best p w h x y).1.2.2.1, iI (best p w h x y).1.2.2.2.1, iI (best p w h x y).1.2.2.2.2) := by
  have hsq : 2 * h * (2 * h) ≤ w * w := Nat.mul_le_mul h2 h2
  have hR : ∀ k, k < 2 * h * (2 * h) → blk p (2 * w) x y (2 * h) k ≤ 255 := fun k hk => blk_le hx hy hk hp
  have hq : ∀ k, k < w * w → hlf p (2 * w) k ≤ 255 := fun k hk => hlf_le hp hk
  have tb := l_S_takeBlock (s := 2 * w) (W := W) (Rf := Rf) (by omega) hx hy hn1 (Nat.le_trans hsq hwn) hw2 hrn hf1 hp
  obtain ⟨c1, c2, b1, b2, b3, b4, b5, b6, b7, ht⟩ := l_S_find_35 (c := am (qS p (2 * w) x y h)) (W := wr W (fun k => nI (blk p (2 * w) x y (2 * h) k)) (2 * h * (2 * h))) (q := hlf p (2 * w)) (R := blk p (2 * w) x y (2 * h)) (Rf := wr Rf (fun t => nI (sqr t (am (qS p (2 * w) x y h)))) 8) (Df := Df) (Qf := Qf) (p1 := nI x) (p2 := nI y) (p3 := nI (2 * h)) (a1 := a6) (a2 := a7) (a3 := a8) (a4 := a9) (a5 := a10) (a6 := a4) (a7 := a5)
    (show w ≤ 32 by omega) h1 h16 h2 hH hH2 (Nat.le_trans hsq hwn) (Nat.le_trans hsq hdn) hd2 hqn hrn hh hq (fun k hk => wr_lt hk) hR (am_lt _) (fun t ht => wr_lt ht) tr
  refine ⟨nI (2 * h), nI (2 * h * (2 * h)), nI (sN (blk p (2 * w) x y (2 * h)) (2 * h * (2 * h))), c1, c2, b1, b2, b3, b4, b5, wr W (fun k => nI (blk p (2 * w) x y (2 * h) k)) (2 * h * (2 * h)), b6, b7, wr Rf (fun t => nI (sqr t (am (qS p (2 * w) x y h)))) 8, ?_⟩
  unfold f_S_findBest f_T_become
  rw [tb]
  simp only [Option.bind_some]
  rw [l_F_domains (by omega) h1 h2]
  simp only [Option.bind_some]
  rw [ht]
  rfl
/-! the reference -/
theorem l_M_tryOne {D R : Nat → Nat} {N dn rn bn : Nat} {Df Rf bf : Nat → Int32} {d t : Nat} {B : Fit5} (h1 : 0 < h) (h16 : 2 * h ≤ 16) (hN : N = 2 * h * (2 * h)) (hdn : N ≤ dn) (hrn : N ≤ rn) (hbn : 4 ≤ bn) (hDf : ∀ k, k < N → Df k = nI (D k)) (hRf : ∀ k, k < N → Rf k = nI (R k)) (hD : ∀ k, k < N → D k ≤ 255) (hR : ∀ k, k < N → R k ≤ 255) (hB : bOk B)
    (hb : B.2.2.2.2 = -1 ∨ (bf 0 = nI B.1 ∧ bf 1 = nI B.2.1 ∧ bf 2 = iI B.2.2.1 ∧ bf 3 = iI B.2.2.2.1)) :
    ∃ bf', f_M_tryOne (nI (2 * h)) (nI d) (nI t) (lI B.2.2.2.2) dn Df rn Rf bn bf = some (lI (bstep D R N B d t).2.2.2.2, bf') ∧ (bf' 0 = nI (bstep D R N B d t).1 ∧ bf' 1 = nI (bstep D R N B d t).2.1 ∧ bf' 2 = iI (bstep D R N B d t).2.2.1 ∧ bf' 3 = iI (bstep D R N B d t).2.2.2.1) := by
  have hz : N ≤ 256 := by rw [hN]; exact n_le h16
  have hz0 : 0 < N := by rw [hN]; exact n_pos h1
  have bR := fR_b hz hD hR
  have bO := fO_b hz0 hz hD hR
  have bE := fE_b hz0 hz hD hR
  have bn2 : (N : Int) * -223 ≥ -57088 ∧ (N : Int) * 479 ≤ 122624 := by omega
  have J : ∀ (c1 c2 c3 c4 c5 c6 c7 : Int64), c1 = lI (N : Int) → c3 = lI (sN R N : Nat) → ∃ bf', f_M_tryOne_J158 (nI (2 * h)) (nI d) (nI t) c1 c2 c3 c4 c5 c6 c7 (lI B.2.2.2.2) dn Df rn Rf bn bf (iI (fS D R N)) = some (lI (bstep D R N B d t).2.2.2.2, bf') ∧ (bf' 0 = nI (bstep D R N B d t).1 ∧ bf' 1 = nI (bstep D R N B d t).2.1 ∧ bf' 2 = iI (bstep D R N B d t).2.2.1 ∧ bf' 3 = iI (bstep D R N B d t).2.2.2.1) := by
    intro c1 c2 c3 c4 c5 c6 c7 e1 e3
    unfold f_M_tryOne_J158
    subst e1; subst e3
    rw [l_M_try_167 (D := D) (fS_in D R N) hN.symm hz hdn hDf hD]
    simp only [Option.bind_some]
    have eR : ((sN R N : Nat) : Int) - sI (fun k => dim (fS D R N) (D k)) N = fR D R N := by
      unfold fR; rw [sI_sub, sI_nat]
    rw [eR, l_M_nearest (by omega) (by omega) (by omega) (by omega)]
    simp only [Option.bind_some, lI_int]
    have eO : nrst (fR D R N) (N : Int) = fO D R N := rfl
    rw [eO, l_M_try_215 (D := D) (R := R) (fS_in D R N) bO hN.symm hz hdn hrn hDf hRf hD hR]
    have eE : sI (fun k => ((R k : Int) - dim (fS D R N) (D k) - fO D R N) * ((R k : Int) - dim (fS D R N) (D k) - fO D R N)) N = fE D R N := rfl
    rw [eE]
    simp only [Option.bind_some, cmp_lt0, cmp_ge0]
    obtain ⟨hB1, hB2⟩ := hB
    have hset : ∀ (a b c d : Int32), (upd (upd (upd (upd bf 0 a) 1 b) 2 c) 3 d) 0 = a ∧ (upd (upd (upd (upd bf 0 a) 1 b) 2 c) 3 d) 1 = b ∧ (upd (upd (upd (upd bf 0 a) 1 b) 2 c) 3 d) 2 = c ∧ (upd (upd (upd (upd bf 0 a) 1 b) 2 c) 3 d) 3 = d := fun a b c d => ⟨rfl, rfl, rfl, rfl⟩
    by_cases c0 : B.2.2.2.2 = -1
    · have eb : bstep D R N B d t = (d, t, fS D R N, fO D R N, fE D R N) := by unfold bstep; rw [if_pos (Or.inl (by omega))]
      rw [eb]
      refine ⟨upd (upd (upd (upd bf 0 (nI d)) 1 (nI t)) 2 (iI (fS D R N))) 3 (iI (fO D R N)), ?_, hset _ _ _ _⟩
      simp (disch := omega) only [l0, lI_ltT, ↓reduceIte]
      simp (disch := omega) only [n0, n1, n2, n3, n4, n5, n6, n7, n8, n10, n16, n40, n128, n255, n256, n1024, n2000, n2048, nJ_add, nJ_mul, nJ_sub, nJ_leT, nJ_leF, nJ_ltT, nJ_ltF, nJ_eqT, nJ_eqF, nJ_clamp, nJ_div, nM, iM_eqF, iM_eqF2, iM_leF, iM_ltF, iM_leT, iM_ltT, iM_add, iM_add0, natLeF, natLeT, natLtF, natLtT, natEqF, natEqT, if_true, if_false, ite_true, ite_false, false_or, or_false, or_self, Option.bind_some, ↓reduceIte]
    · by_cases c2 : fE D R N < B.2.2.2.2
      · have eb : bstep D R N B d t = (d, t, fS D R N, fO D R N, fE D R N) := by unfold bstep; rw [if_pos (Or.inr c2)]
        rw [eb]
        refine ⟨upd (upd (upd (upd bf 0 (nI d)) 1 (nI t)) 2 (iI (fS D R N))) 3 (iI (fO D R N)), ?_, hset _ _ _ _⟩
        simp (disch := omega) only [l0, lI_ltF, lI_leF, ↓reduceIte]
        simp (disch := omega) only [n0, n1, n2, n3, n4, n5, n6, n7, n8, n10, n16, n40, n128, n255, n256, n1024, n2000, n2048, nJ_add, nJ_mul, nJ_sub, nJ_leT, nJ_leF, nJ_ltT, nJ_ltF, nJ_eqT, nJ_eqF, nJ_clamp, nJ_div, nM, iM_eqF, iM_eqF2, iM_leF, iM_ltF, iM_leT, iM_ltT, iM_add, iM_add0, natLeF, natLeT, natLtF, natLtT, natEqF, natEqT, if_true, if_false, ite_true, ite_false, false_or, or_false, or_self, Option.bind_some, ↓reduceIte]
      · have eb : bstep D R N B d t = B := by unfold bstep; rw [if_neg (by omega)]
        rw [eb]
        refine ⟨bf, ?_, hb.resolve_left c0⟩
        simp (disch := omega) only [l0, lI_ltF, lI_leT, ↓reduceIte]
  unfold f_M_tryOne
  have bD := sN_b hz hD
  have bRR := sN_b hz hR
  rw [l_M_try_21 (D := D) (R := R) hN.symm hz hrn hdn hRf hDf hD hR]
  have eN : (nI (2 * h) * nI (2 * h)).toInt64 = lI (N : Int) := by rw [nJ_mul, ← hN, nJ_long (by omega)]
  simp only [Option.bind_some, cmp_eq0, eN, lI_mul, lI_sub, l0, l8]
  have q0 := fQ_nonneg D N
  have q1 := fQ_b hz hD
  have p1 := fP_b hz hD hR
  have eQ : ((N : Int) * (sN (fun k => D k * D k) N : Nat) - (sN D N : Nat) * (sN D N : Nat)) = fQ D N := rfl
  have eP : ((N : Int) * (sN (fun k => D k * R k) N : Nat) - (sN D N : Nat) * (sN R N : Nat)) = fP D R N := rfl
  rw [eQ, eP]
  clear eQ eP
  have fsz : fQ D N = 0 → fS D R N = 0 := fun e => by unfold fS; rw [if_pos e]
  have fsn : ¬ fQ D N = 0 → fS D R N = clampI (-7) 7 (nrst (8 * fP D R N) (fQ D N)) := fun e => by unfold fS; rw [if_neg e]
  generalize fQ D N = Q at *
  generalize fP D R N = P at *
  by_cases c : Q = 0
  · have e0 := fsz c
    rw [e0] at J
    subst c
    simp only [↓reduceIte]
    exact J _ _ _ _ _ _ _ rfl rfl
  · have e0 := fsn c
    have hbb := nrst_b (a := 8 * P) (b := Q) (by omega) (by omega) (by omega) (by omega)
    rw [if_neg (by rw [lI_eqF c (by omega) (by omega) (by omega) (by omega)]; exact not_false), l_M_nearest (by omega) (by omega) (by omega) (by omega)]
    simp only [Option.bind_some]
    have br := l_M_brought (a := nrst (8 * P) Q) (lo := -7) (hi := 7) (by decide) hbb.1 hbb.2 (by decide) (by decide)
    have br : f_M_brought (lI (nrst (8 * P) Q)) (-7) 7 = some (iI (clampI (-7) 7 (nrst (8 * P) Q))) := br
    rw [br, ← e0]
    simp only [Option.bind_some]
    exact J _ _ _ _ _ _ _ rfl rfl
def flg (Q : Nat → Nat) (own : Nat) : Nat → Nat
  | 0 => 1
  | v + 1 => if flg Q own v = 0 then 0 else if own < Q v then 0 else 1
theorem flg_01 (Q : Nat → Nat) (own v : Nat) : flg Q own v ≤ 1 := by
  cases v with
  | zero => exact Nat.le_refl _
  | succ v => rw [flg]; split; omega; split <;> omega
theorem flg_iff (Q : Nat → Nat) (own : Nat) : ∀ v, flg Q own v = 1 ↔ ∀ j, j < v → Q j ≤ own := by
  intro v
  induction v with
  | zero => exact ⟨fun _ j h => by omega, fun _ => rfl⟩
  | succ v ih =>
    have h01 := flg_01 Q own v
    rw [flg]
    constructor
    · intro h
      split at h
      · omega
      · split at h
        · omega
        · intro j hj
          by_cases e : j = v
          · subst e; omega
          · exact ih.mp (by omega) j (by omega)
    · intro h
      have := ih.mpr (fun j hj => h j (by omega))
      have := h v (by omega)
      rw [if_neg (by omega), if_neg (by omega)]
theorem l_M_search_83 {dn own : Nat} {Df : Nat → Int32} {Q : Nat → Nat} {p1 p2 p4 p5 p6 : Int32} (hQ : ∀ j, j < 4 → f_M_quarterSum (nI (2 * h)) (nI j) dn Df = some (nI (Q j))) (hb : ∀ j, j < 4 → Q j ≤ 261120) (ho : own ≤ 261120) :
    f_M_search_83 p1 p2 (nI (2 * h)) p4 p5 p6 (nI own) dn Df FU 1 0 = some (nI (flg Q own 4), nI 4) := by
  have key := lp_up (L := fun n' (z : Nat) v => f_M_search_83 p1 p2 (nI (2 * h)) p4 p5 p6 (nI own) dn Df n' (nI z) (nI v)) (st := fun v => flg Q own v) (b := 4) (fin := (nI (flg Q own 4), nI 4))
    (fun n' => by
      show f_M_search_83 _ _ _ _ _ _ _ _ _ (n' + 1) _ _ = _
      rw [f_M_search_83]
      simp (disch := omega) only [n0, n1, n2, n3, n4, n5, n6, n7, n8, n10, n16, n40, n128, n255, n256, n1024, n2000, n2048, nJ_add, nJ_mul, nJ_sub, nJ_leT, nJ_leF, nJ_ltT, nJ_ltF, nJ_eqT, nJ_eqF, nJ_clamp, nJ_div, nM, iM_eqF, iM_eqF2, iM_leF, iM_ltF, iM_leT, iM_ltT, iM_add, iM_add0, natLeF, natLeT, natLtF, natLtT, natEqF, natEqT, if_true, if_false, ite_true, ite_false, false_or, or_false, or_self, Option.bind_some, ↓reduceIte])
    (fun n' v hv => by
      show f_M_search_83 _ _ _ _ _ _ _ _ _ (n' + 1) _ _ = f_M_search_83 _ _ _ _ _ _ _ _ _ n' _ _
      have h01 := flg_01 Q own v
      have hbv := hb v hv
      have e : flg Q own (v + 1) = if flg Q own v = 0 then 0 else if own < Q v then 0 else 1 := rfl
      rw [f_M_search_83, e, hQ v hv]
      by_cases c : flg Q own v = 0
      · simp (disch := omega) only [n0, n1, n2, n3, n4, n5, n6, n7, n8, n10, n16, n40, n128, n255, n256, n1024, n2000, n2048, nJ_add, nJ_mul, nJ_sub, nJ_leT, nJ_leF, nJ_ltT, nJ_ltF, nJ_eqT, nJ_eqF, nJ_clamp, nJ_div, nM, iM_eqF, iM_eqF2, iM_leF, iM_ltF, iM_leT, iM_ltT, iM_add, iM_add0, natLeF, natLeT, natLtF, natLtT, natEqF, natEqT, if_true, if_false, ite_true, ite_false, false_or, or_false, or_self, Option.bind_some, ↓reduceIte]
      · by_cases c2 : own < Q v
        · simp (disch := omega) only [n0, n1, n2, n3, n4, n5, n6, n7, n8, n10, n16, n40, n128, n255, n256, n1024, n2000, n2048, nJ_add, nJ_mul, nJ_sub, nJ_leT, nJ_leF, nJ_ltT, nJ_ltF, nJ_eqT, nJ_eqF, nJ_clamp, nJ_div, nM, iM_eqF, iM_eqF2, iM_leF, iM_ltF, iM_leT, iM_ltT, iM_add, iM_add0, natLeF, natLeT, natLtF, natLtT, natEqF, natEqT, if_true, if_false, ite_true, ite_false, false_or, or_false, or_self, Option.bind_some, ↓reduceIte]
        · simp (disch := omega) only [n0, n1, n2, n3, n4, n5, n6, n7, n8, n10, n16, n40, n128, n255, n256, n1024, n2000, n2048, nJ_add, nJ_mul, nJ_sub, nJ_leT, nJ_leF, nJ_ltT, nJ_ltF, nJ_eqT, nJ_eqF, nJ_clamp, nJ_div, nM, iM_eqF, iM_eqF2, iM_leF, iM_ltF, iM_leT, iM_ltT, iM_add, iM_add0, natLeF, natLeT, natLtF, natLtT, natEqF, natEqT, if_true, if_false, ite_true, ite_false, false_or, or_false, or_self, Option.bind_some, ↓reduceIte])
    FU 0 (Nat.zero_le _) (fu (by omega))
  exact key
theorem l_M_search_40 {q R : Nat → Nat} {hn dn rn bn c : Nat} {hf Rf Df bf : Nat → Int32} {p1 p2 : Int32} (hw : w ≤ 32) (h1 : 0 < h) (h16 : 2 * h ≤ 16) (h2 : 2 * h ≤ w) (hH : w * w ≤ hn) (hdn : 256 ≤ dn) (hrn : 256 ≤ rn) (hbn : 4 ≤ bn) (hh : ∀ k, k < w * w → hf k = nI (q k)) (hq : ∀ k, k < w * w → q k ≤ 255) (hRf : ∀ k, k < 2 * h * (2 * h) → Rf k = nI (R k)) (hR : ∀ k, k < 2 * h * (2 * h) → R k ≤ 255) (hc : c < 4) (tr : Nat) :
    ∃ Df' bf', f_M_search_40 p1 p2 (nI (2 * h)) (nI c) (nI (dac w h * dac w h)) (nI (2 * w)) hn hf dn rn Rf bn FU 0 (nI tr) (-1) Df bf = some (nI (8 * (dac w h * dac w h)), nI (tr + (srch q R w h c (8 * (dac w h * dac w h))).2), lI (srch q R w h c (8 * (dac w h * dac w h))).1.2.2.2.2, Df', bf') ∧ ((srch q R w h c (8 * (dac w h * dac w h))).1.2.2.2.2 = -1 ∨ (bf' 0 = nI (srch q R w h c (8 * (dac w h * dac w h))).1.1 ∧ bf' 1 = nI (srch q R w h c (8 * (dac w h * dac w h))).1.2.1 ∧ bf' 2 = iI (srch q R w h c (8 * (dac w h * dac w h))).1.2.2.1 ∧ bf' 3 = iI (srch q R w h c (8 * (dac w h * dac w h))).1.2.2.2.1)) := by
  have hA : dac w h * dac w h ≤ 961 := by
    have h3 : w / h ≤ w := Nat.div_le_self w h
    have h4 : dac w h ≤ 31 := by unfold dac; omega
    exact Nat.mul_le_mul h4 h4
  have hv := srch_val (c := c) h1 h16 h2 hq hR
  have hN := n_le h16
  have key := lp_inv (L := fun n' (z : Int32 × Int64 × (Nat → Int32) × (Nat → Int32)) v => f_M_search_40 p1 p2 (nI (2 * h)) (nI c) (nI (dac w h * dac w h)) (nI (2 * w)) hn hf dn rn Rf bn n' (nI v) z.1 z.2.1 z.2.2.1 z.2.2.2)
    (I := fun v z => ∃ Df' bf', z = (nI (tr + (srch q R w h c v).2), lI (srch q R w h c v).1.2.2.2.2, Df', bf') ∧ ((srch q R w h c v).1.2.2.2.2 = -1 ∨ (bf' 0 = nI (srch q R w h c v).1.1 ∧ bf' 1 = nI (srch q R w h c v).1.2.1 ∧ bf' 2 = iI (srch q R w h c v).1.2.2.1 ∧ bf' 3 = iI (srch q R w h c v).1.2.2.2.1)))
    (F := fun r => ∃ Df' bf', r = (nI (8 * (dac w h * dac w h)), nI (tr + (srch q R w h c (8 * (dac w h * dac w h))).2), lI (srch q R w h c (8 * (dac w h * dac w h))).1.2.2.2.2, Df', bf') ∧ ((srch q R w h c (8 * (dac w h * dac w h))).1.2.2.2.2 = -1 ∨ (bf' 0 = nI (srch q R w h c (8 * (dac w h * dac w h))).1.1 ∧ bf' 1 = nI (srch q R w h c (8 * (dac w h * dac w h))).1.2.1 ∧ bf' 2 = iI (srch q R w h c (8 * (dac w h * dac w h))).1.2.2.1 ∧ bf' 3 = iI (srch q R w h c (8 * (dac w h * dac w h))).1.2.2.2.1))) (b := 8 * (dac w h * dac w h))
    (fun n' z hz => by
      obtain ⟨Df', bf', rfl, hz⟩ := hz
      refine ⟨_, ?_, Df', bf', rfl, hz⟩
      show f_M_search_40 _ _ _ _ _ _ _ _ _ _ _ _ (n' + 1) _ _ _ _ _ = _
      rw [f_M_search_40]
      simp (disch := omega) only [n0, n1, n2, n3, n4, n5, n6, n7, n8, n10, n16, n40, n128, n255, n256, n1024, n2000, n2048, nJ_add, nJ_mul, nJ_sub, nJ_leT, nJ_leF, nJ_ltT, nJ_ltF, nJ_eqT, nJ_eqF, nJ_clamp, nJ_div, nM, iM_eqF, iM_eqF2, iM_leF, iM_ltF, iM_leT, iM_ltT, iM_add, iM_add0, natLeF, natLeT, natLtF, natLtT, natEqF, natEqT, if_true, if_false, ite_true, ite_false, false_or, or_false, or_self, Option.bind_some, ↓reduceIte])
    (fun n' z v hv8 hz => by
      obtain ⟨Df', bf', rfl, hz⟩ := hz
      have hd : v / 8 < dac w h * dac w h := by omega
      have h8 : v % 8 < 8 := by omega
      have hB := (hv v (by omega)).1
      obtain ⟨i1, i2⟩ := dom_in h1 h2 hd
      have st : srch q R w h c (v + 1) = if gd (qS q w (domL w h (v / 8)) (domT w h (v / 8)) h) (sqr (v % 8) c) then (bstep (dmn q w h (v / 8) (v % 8)) R (2 * h * (2 * h)) (srch q R w h c v).1 (v / 8) (v % 8), (srch q R w h c v).2 + 1) else srch q R w h c v := rfl
      rw [st]
      generalize srch q R w h c v = BB at hB hz ⊢
      have ld := l_M_layDomain (g := Df') (m := dn) hw h1 h2 hd h8 hH (by omega) hh
      have hDf : ∀ k, k < 2 * h * (2 * h) → wr Df' (fun k => nI (dmn q w h (v / 8) (v % 8) k)) (2 * h * (2 * h)) k = nI (dmn q w h (v / 8) (v % 8) k) := fun k hk => wr_lt hk
      generalize wr Df' (fun k => nI (dmn q w h (v / 8) (v % 8) k)) (2 * h * (2 * h)) = Dg at ld hDf
      have hD : ∀ k, k < 2 * h * (2 * h) → dmn q w h (v / 8) (v % 8) k ≤ 255 := fun k hk => dmn_le h1 h2 hd h8 hk hq
      have hQ : ∀ j, j < 4 → f_M_quarterSum (nI (2 * h)) (nI j) dn Dg = some (nI (qS q w (domL w h (v / 8)) (domT w h (v / 8)) h (sqr (v % 8) j))) := fun j hj => by
        rw [l_M_quarter (by omega) (by omega) hDf hj, ← dmn_quarter h8 hj]
        unfold qS; rw [Nat.zero_add, Nat.zero_add]
      have hbQ : ∀ j, j < 4 → qS q w (domL w h (v / 8)) (domT w h (v / 8)) h (sqr (v % 8) j) ≤ 261120 := fun j hj => qS_le (by omega) (sqr_lt h8 hj) i1 i2 hq
      have h83 := l_M_search_83 (p1 := p1) (p2 := p2) (p4 := nI c) (p5 := nI (dac w h * dac w h)) (p6 := nI v) hQ hbQ (hbQ c hc)
      have gdi : gd (qS q w (domL w h (v / 8)) (domT w h (v / 8)) h) (sqr (v % 8) c) ↔ flg (fun j => qS q w (domL w h (v / 8)) (domT w h (v / 8)) h (sqr (v % 8) j)) (qS q w (domL w h (v / 8)) (domT w h (v / 8)) h (sqr (v % 8) c)) 4 = 1 := by
        rw [flg_iff]
        constructor
        · intro g j hj
          rcases four (sqr_lt h8 hj) with e | e | e | e <;> rw [e]
          · exact g.1
          · exact g.2.1
          · exact g.2.2.1
          · exact g.2.2.2
        · intro g
          have k : ∀ i, i < 4 → qS q w (domL w h (v / 8)) (domT w h (v / 8)) h i ≤ qS q w (domL w h (v / 8)) (domT w h (v / 8)) h (sqr (v % 8) c) := fun i hi => by
            obtain ⟨j, hj, e⟩ := sqr_onto h8 hi
            rw [← e]; exact g j hj
          exact ⟨k 0 (by omega), k 1 (by omega), k 2 (by omega), k 3 (by omega)⟩
      have f01 := flg_01 (fun j => qS q w (domL w h (v / 8)) (domT w h (v / 8)) h (sqr (v % 8) j)) (qS q w (domL w h (v / 8)) (domT w h (v / 8)) h (sqr (v % 8) c)) 4
      have em : v - v / 8 * 8 = v % 8 := modSub v 8
      have unf : ∀ (x1 : Int32) (x2 : Int64), f_M_search_40 p1 p2 (nI (2 * h)) (nI c) (nI (dac w h * dac w h)) (nI (2 * w)) hn hf dn rn Rf bn (n' + 1) (nI v) x1 x2 Df' bf' = (if nI (flg (fun j => qS q w (domL w h (v / 8)) (domT w h (v / 8)) h (sqr (v % 8) j)) (qS q w (domL w h (v / 8)) (domT w h (v / 8)) h (sqr (v % 8) c)) 4) = 0 then f_M_search_40 p1 p2 (nI (2 * h)) (nI c) (nI (dac w h * dac w h)) (nI (2 * w)) hn hf dn rn Rf bn n' (nI (v + 1)) x1 x2 Dg bf' else (f_M_tryOne (nI (2 * h)) (nI (v / 8)) (nI (v % 8)) x2 dn Dg rn Rf bn bf').bind (fun q1022 => f_M_search_40 p1 p2 (nI (2 * h)) (nI c) (nI (dac w h * dac w h)) (nI (2 * w)) hn hf dn rn Rf bn n' (nI (v + 1)) (x1 + 1) q1022.1 Dg q1022.2)) := by
        intro x1 x2
        rw [f_M_search_40]
        have c1 : ¬ (8 : Int32) * nI (dac w h * dac w h) ≤ nI v := by
          rw [n8, nJ_mul, nJ_leF (by omega) (by omega)]; exact not_false
        have c2 : nI v / 8 = nI (v / 8) := by rw [n8, nJ_div (by omega) (by omega)]
        have c3 : nI v - nI (v / 8) * 8 = nI (v % 8) := by rw [n8, nJ_mul, nJ_sub (by omega), em]
        have c4 : nI v + 1 = nI (v + 1) := by rw [n1, nJ_add]
        rw [if_neg c1, c2, c3, c4, ld]
        simp only [Option.bind_some]
        rw [hQ c hc]
        simp only [Option.bind_some]
        rw [h83]
        simp only [Option.bind_some]
      by_cases g : gd (qS q w (domL w h (v / 8)) (domT w h (v / 8)) h) (sqr (v % 8) c)
      · obtain ⟨bg, ht, hbg⟩ := l_M_tryOne (dn := dn) (rn := rn) (d := v / 8) (t := v % 8) (B := BB.1) (bf := bf') h1 h16 rfl (by omega) (by omega) hbn hDf hRf hD hR hB hz
        have g1 := gdi.mp g
        rw [if_pos g]
        refine ⟨_, ?_, Dg, bg, rfl, Or.inr hbg⟩
        show f_M_search_40 _ _ _ _ _ _ _ _ _ _ _ _ (n' + 1) _ _ _ _ _ = f_M_search_40 _ _ _ _ _ _ _ _ _ _ _ _ n' _ _ _ _ _
        dsimp only
        rw [unf, g1, if_neg (by decide), ht]
        simp only [Option.bind_some]
        rw [n1, nJ_add, Nat.add_assoc]
      · have g1 : flg (fun j => qS q w (domL w h (v / 8)) (domT w h (v / 8)) h (sqr (v % 8) j)) (qS q w (domL w h (v / 8)) (domT w h (v / 8)) h (sqr (v % 8) c)) 4 = 0 := by
          have : ¬ flg (fun j => qS q w (domL w h (v / 8)) (domT w h (v / 8)) h (sqr (v % 8) j)) (qS q w (domL w h (v / 8)) (domT w h (v / 8)) h (sqr (v % 8) c)) 4 = 1 := fun e => g (gdi.mpr e)
          omega
        rw [if_neg g]
        refine ⟨_, ?_, Dg, bf', rfl, hz⟩
        show f_M_search_40 _ _ _ _ _ _ _ _ _ _ _ _ (n' + 1) _ _ _ _ _ = f_M_search_40 _ _ _ _ _ _ _ _ _ _ _ _ n' _ _ _ _ _
        dsimp only
        rw [unf, g1]
        rfl)
    FU 0 _ (Nat.zero_le _) (fu (by omega)) ⟨Df, bf, rfl, Or.inl rfl⟩
  obtain ⟨r, e, Df', bf', rfl, hz⟩ := key
  exact ⟨Df', bf', e, hz⟩
theorem l_M_search {n hn dn rn bn tr : Nat} {f hf Df Rf bf : Nat → Int32} {be : Int64} (hw : w ≤ 16) (h1 : 0 < h) (h16 : 2 * h ≤ 16) (h2 : 2 * h ≤ w) (hx : x + 2 * h ≤ 2 * w) (hy : y + 2 * h ≤ 2 * w)
    (hn1 : 2 * w * (2 * w) ≤ n) (hH : w * w ≤ hn) (hdn : 256 ≤ dn) (hrn : 256 ≤ rn) (hbn : 4 ≤ bn)
    (hf1 : ∀ k, k < 2 * w * (2 * w) → f k = nI (p k)) (hp : ∀ k, k < 2 * w * (2 * w) → p k ≤ 255) (hh : ∀ k, k < w * w → hf k = nI (hlf p (2 * w) k)) :
    ∃ Df' Rf' bf', f_M_search (nI x) (nI y) (nI (2 * h)) (nI (2 * w)) (nI tr) be n f hn hf dn Df rn Rf bn bf = some (nI (tr + (best p w h x y).2), lI (best p w h x y).1.2.2.2.2, Df', Rf', bf') ∧ (bf' 0 = nI (best p w h x y).1.1 ∧ bf' 1 = nI (best p w h x y).1.2.1 ∧ bf' 2 = iI (best p w h x y).1.2.2.1 ∧ bf' 3 = iI (best p w h x y).1.2.2.2.1) := by
  have hR : ∀ k, k < 2 * h * (2 * h) → blk p (2 * w) x y (2 * h) k ≤ 255 := fun k hk => blk_le hx hy hk hp
  have hq : ∀ k, k < w * w → hlf p (2 * w) k ≤ 255 := fun k hk => hlf_le hp hk
  obtain ⟨g', e1, e2, e3⟩ := l_kind (f := f) (fm := f) (g := Rf) (m := rn) (show 2 * w ≤ 64 by omega) (by omega) hx hy hn1 hf1 hp hrn
  obtain ⟨Df', bf', e4, e5⟩ := l_M_search_40 (q := hlf p (2 * w)) (R := blk p (2 * w) x y (2 * h)) (c := am (qS p (2 * w) x y h)) (Df := Df) (bf := bf) (p1 := nI x) (p2 := nI y) (show w ≤ 32 by omega) h1 h16 h2 hH hdn hrn hbn hh hq e3 hR (am_lt _) tr
  have hv := (best_val (p := p) h1 h16 h2 hx hy hp).2
  refine ⟨Df', g', bf', ?_, ?_⟩
  · unfold f_M_search
    rw [e1]
    simp only [Option.bind_some]
    rw [e2]
    simp only [Option.bind_some]
    rw [l_M_domains (by omega) h1 h2]
    simp only [Option.bind_some]
    rw [nJ_mul, e4]
    rfl
  · exact e5.resolve_left (by unfold best at hv; omega)
end
end
section
/-! rows of bits -/
/-- the byte i after bit b is put at place m -/
def apB (e : Nat → Nat) (m b : Nat) : Nat → Nat := fun i => if i = m / 8 then (if m % 8 = 0 then 0 else e i) + b * 2 ^ (7 - m % 8) else e i
/-- a number of w bits put at place m, the highest first -/
def apN (num : Nat) : Nat → (Nat → Nat) → Nat → (Nat → Nat)
  | 0, e, _ => e
  | w + 1, e, m => apN num w (apB e m (num / 2 ^ w % 2)) (m + 1)
/-- bytes, and nothing behind the last bit -/
def bGood (e : Nat → Nat) (m : Nat) : Prop := (∀ i, i < (m + 7) / 8 → e i ≤ 255) ∧ (m % 8 ≠ 0 → e (m / 8) % 2 ^ (8 - m % 8) = 0)
def bRep (f : Nat → Int32) (e : Nat → Nat) (m : Nat) : Prop := ∀ i, i < (m + 7) / 8 → f i = nI (e i)
theorem or_bits : ∀ x, x < 256 → ∀ k, k < 8 → ∀ b, b < 2 → x % 2 ^ (k + 1) = 0 → (nI x ||| (nI b <<< (nI k &&& 31))) = nI (x + b * 2 ^ k) := by decide +kernel
theorem shl_bits : ∀ k, k < 8 → ∀ b, b < 2 → (nI b <<< (nI k &&& 31)) = nI (b * 2 ^ k) := by decide +kernel
theorem eight {k : Nat} (h : k < 8) : k = 0 ∨ k = 1 ∨ k = 2 ∨ k = 3 ∨ k = 4 ∨ k = 5 ∨ k = 6 ∨ k = 7 := by omega
theorem byte_room {x k b : Nat} (hx : x ≤ 255) (hk : k < 8) (hb : b < 2) (hz : x % 2 ^ (k + 1) = 0) : x + b * 2 ^ k ≤ 255 ∧ (x + b * 2 ^ k) % 2 ^ k = 0 := by
  have hb' : b = 0 ∨ b = 1 := by omega
  rcases eight hk with rfl | rfl | rfl | rfl | rfl | rfl | rfl | rfl <;> rcases hb' with rfl | rfl <;> simp at hz ⊢ <;> omega
theorem apB_good {e : Nat → Nat} {m b : Nat} (hg : bGood e m) (hb : b < 2) : bGood (apB e m b) (m + 1) := by
  obtain ⟨h1, h2⟩ := hg
  have base : (if m % 8 = 0 then 0 else e (m / 8)) ≤ 255 ∧ (if m % 8 = 0 then 0 else e (m / 8)) % 2 ^ (7 - m % 8 + 1) = 0 := by
    split
    · exact ⟨by omega, by simp⟩
    · rename_i c
      refine ⟨h1 _ (by omega), ?_⟩
      rw [show 7 - m % 8 + 1 = 8 - m % 8 by omega]; exact h2 c
  have br := byte_room base.1 (show 7 - m % 8 < 8 by omega) hb base.2
  refine ⟨fun i hi => ?_, fun hm => ?_⟩
  · unfold apB
    by_cases c : i = m / 8
    · subst c; rw [if_pos rfl]; exact br.1
    · rw [if_neg c]; exact h1 i (by omega)
  · unfold apB
    rw [if_pos (by omega), show (m + 1) / 8 = m / 8 by omega, show 8 - (m + 1) % 8 = 7 - m % 8 by omega]
    exact br.2
theorem apB_rep {f : Nat → Int32} {e : Nat → Nat} {m b : Nat} (h : bRep f e m) : bRep (upd f (m / 8) (nI ((if m % 8 = 0 then 0 else e (m / 8)) + b * 2 ^ (7 - m % 8)))) (apB e m b) (m + 1) := by
  intro i hi
  unfold apB
  by_cases c : i = m / 8
  · subst c; rw [upd_eq, if_pos rfl]
  · rw [upd_ne _ _ _ c, if_neg c]; exact h i (by omega)
theorem l_B_appendBit {f : Nat → Int32} {e : Nat → Nat} {m b n : Nat} (hr : bRep f e m) (hg : bGood e m) (hb : b < 2) (hm : m < 8 * n) (hn : n ≤ 2000) :
    f_B_appendBit (nI b) (nI m) n f = some (nI (m + 1), upd f (m / 8) (nI ((if m % 8 = 0 then 0 else e (m / 8)) + b * 2 ^ (7 - m % 8)))) := by
  unfold f_B_appendBit
  have em : m - m / 8 * 8 = m % 8 := modSub m 8
  by_cases c : m % 8 = 0
  · have ob := or_bits 0 (by omega) (7 - m % 8) (by omega) b hb (by simp)
    simp (disch := omega) only [n0, n1, n2, n3, n4, n5, n6, n7, n8, n10, n16, n40, n128, n255, n256, n1024, n2000, n2048, nJ_add, nJ_mul, nJ_sub, nJ_leT, nJ_leF, nJ_ltT, nJ_ltF, nJ_eqT, nJ_eqF, nJ_clamp, nJ_div, nM, iM_eqF, iM_eqF2, iM_leF, iM_ltF, iM_leT, iM_ltT, iM_add, iM_add0, natLeF, natLeT, natLtF, natLtT, natEqF, natEqT, if_true, if_false, ite_true, ite_false, false_or, or_false, or_self, Option.bind_some, ↓reduceIte, em]
    have e31 : (31 : Int32) = nI 31 := rfl
    rw [c] at ob ⊢
    rw [← ob]
  · have h1 := hg.1 (m / 8) (by omega)
    have h2 := hr (m / 8) (by omega)
    have ob := or_bits (e (m / 8)) (by omega) (7 - m % 8) (by omega) b hb (by rw [show 7 - m % 8 + 1 = 8 - m % 8 by omega]; exact hg.2 c)
    simp (disch := omega) only [n0, n1, n2, n3, n4, n5, n6, n7, n8, n10, n16, n40, n128, n255, n256, n1024, n2000, n2048, nJ_add, nJ_mul, nJ_sub, nJ_leT, nJ_leF, nJ_ltT, nJ_ltF, nJ_eqT, nJ_eqF, nJ_clamp, nJ_div, nM, iM_eqF, iM_eqF2, iM_leF, iM_ltF, iM_leT, iM_ltT, iM_add, iM_add0, natLeF, natLeT, natLtF, natLtT, natEqF, natEqT, if_true, if_false, ite_true, ite_false, false_or, or_false, or_self, Option.bind_some, ↓reduceIte, em, h2]
    rw [← ob]
theorem shr_bits : ∀ p, p < 10 → ∀ a, a < 1024 → ((nI a >>> (nI p &&& 31)) &&& nI 1) = nI (a / 2 ^ p % 2) := by decide +kernel
theorem apN_good {num : Nat} : ∀ (w : Nat) (e : Nat → Nat) (m : Nat), bGood e m → bGood (apN num w e m) (m + w) := by
  intro w
  induction w with
  | zero => intro e m h; exact h
  | succ w ih =>
    intro e m h
    rw [apN, show m + (w + 1) = m + 1 + w by omega]
    exact ih _ _ (apB_good h (by omega))
/-- the place of the next bit, of w that are left -/
def plc : Nat → Int32
  | 0 => iM
  | w + 1 => nI w
theorem l_B_append_4 {num n : Nat} {p2 : Int32} (hnum : num < 1024) (hn : n ≤ 2000) : ∀ (w : Nat), w ≤ 10 → ∀ (N : Nat) (f : Nat → Int32) (e : Nat → Nat) (m : Nat), w < N → bRep f e m → bGood e m → m + w ≤ 8 * n →
    ∃ f', f_B_append_4 (nI num) p2 n N (plc w) (nI m) f = some (iM, nI (m + w), f') ∧ bRep f' (apN num w e m) (m + w) := by
  intro w
  induction w with
  | zero =>
    intro _ N f e m hN hr hg hm
    match N, hN with
    | N + 1, _ =>
      refine ⟨f, ?_, hr⟩
      show f_B_append_4 (nI num) p2 n (N + 1) iM (nI m) f = _
      rw [f_B_append_4]
      simp (disch := omega) only [n0, n1, n2, n3, n4, n5, n6, n7, n8, n10, n16, n40, n128, n255, n256, n1024, n2000, n2048, nJ_add, nJ_mul, nJ_sub, nJ_leT, nJ_leF, nJ_ltT, nJ_ltF, nJ_eqT, nJ_eqF, nJ_clamp, nJ_div, nM, iM_eqF, iM_eqF2, iM_leF, iM_ltF, iM_leT, iM_ltT, iM_add, iM_add0, natLeF, natLeT, natLtF, natLtT, natEqF, natEqT, if_true, if_false, ite_true, ite_false, false_or, or_false, or_self, Option.bind_some, ↓reduceIte]
      rfl
  | succ w ih =>
    intro hw N f e m hN hr hg hm
    match N, hN with
    | N + 1, hN =>
      have hb : num / 2 ^ w % 2 < 2 := by omega
      have a1 := l_B_appendBit (n := n) hr hg hb (by omega) hn
      obtain ⟨f', h1, h2⟩ := ih (by omega) N _ _ (m + 1) (by omega) (apB_rep (b := num / 2 ^ w % 2) hr) (apB_good hg hb) (by omega)
      refine ⟨f', ?_, ?_⟩
      · show f_B_append_4 (nI num) p2 n (N + 1) (nI w) (nI m) f = _
        rw [f_B_append_4]
        have sb := shr_bits w (by omega) num hnum
        have e0 : (1 : Int32) = nI 1 := rfl
        rw [e0, sb, a1]
        have pl : nI w + -nI 1 = plc w := by
          rw [nM]
          match w with
          | 0 => exact iM_add0
          | w + 1 => exact iM_add (by omega)
        have ng : ¬ nI w < 0 := by rw [n0, nJ_ltF (by omega) (by omega)]; exact not_false
        rw [if_neg ng]
        simp only [Option.bind_some]
        rw [pl, h1, show m + (w + 1) = m + 1 + w by omega]
      · rw [apN, show m + (w + 1) = m + 1 + w by omega]; exact h2
theorem l_B_append {num n w m : Nat} {f : Nat → Int32} {e : Nat → Nat} (hnum : num < 1024) (hn : n ≤ 2000) (hw : w ≤ 10) (hr : bRep f e m) (hg : bGood e m) (hm : m + w ≤ 8 * n) :
    ∃ f', f_B_append (nI num) (nI w) (nI m) n f = some (nI (m + w), f') ∧ bRep f' (apN num w e m) (m + w) := by
  obtain ⟨f', h1, h2⟩ := l_B_append_4 (p2 := nI w) hnum hn w hw FU f e m (fu (by omega)) hr hg hm
  refine ⟨f', ?_, h2⟩
  unfold f_B_append
  have pl : nI w - 1 = plc w := by
    match w with
    | 0 => rfl
    | w + 1 => rw [n1, nJ_sub (by omega)]; rfl
  rw [pl, h1]
  rfl
theorem l_M_tell_5 {w : Nat} {p1 : Int32} (hw : w ≤ 10) : ∃ z, f_M_tell_5 p1 (nI w) FU 1 1 = some (nI (2 ^ (w - 1)), z) := by
  by_cases c : w = 0
  · subst c
    refine ⟨nI 1, ?_⟩
    rw [show FU = 1048575 + 1 from rfl, f_M_tell_5]
    simp (disch := omega) only [n0, n1, n2, n3, n4, n5, n6, n7, n8, n10, n16, n40, n128, n255, n256, n1024, n2000, n2048, nJ_add, nJ_mul, nJ_sub, nJ_leT, nJ_leF, nJ_ltT, nJ_ltF, nJ_eqT, nJ_eqF, nJ_clamp, nJ_div, nM, iM_eqF, iM_eqF2, iM_leF, iM_ltF, iM_leT, iM_ltT, iM_add, iM_add0, natLeF, natLeT, natLtF, natLtT, natEqF, natEqT, if_true, if_false, ite_true, ite_false, false_or, or_false, or_self, Option.bind_some, ↓reduceIte]
  · have key := lp_up (L := fun n' (a : Nat) v => f_M_tell_5 p1 (nI w) n' (nI a) (nI (v + 1))) (st := fun v => 2 ^ v) (b := w - 1) (fin := (nI (2 ^ (w - 1)), nI (w - 1 + 1)))
      (fun n' => by
        show f_M_tell_5 _ _ (n' + 1) _ _ = _
        rw [f_M_tell_5]
        simp (disch := omega) only [n0, n1, n2, n3, n4, n5, n6, n7, n8, n10, n16, n40, n128, n255, n256, n1024, n2000, n2048, nJ_add, nJ_mul, nJ_sub, nJ_leT, nJ_leF, nJ_ltT, nJ_ltF, nJ_eqT, nJ_eqF, nJ_clamp, nJ_div, nM, iM_eqF, iM_eqF2, iM_leF, iM_ltF, iM_leT, iM_ltT, iM_add, iM_add0, natLeF, natLeT, natLtF, natLtT, natEqF, natEqT, if_true, if_false, ite_true, ite_false, false_or, or_false, or_self, Option.bind_some, ↓reduceIte])
      (fun n' v hv => by
        show f_M_tell_5 _ _ (n' + 1) _ _ = f_M_tell_5 _ _ n' _ _
        rw [f_M_tell_5]
        have e : 2 ^ (v + 1) = 2 * 2 ^ v := by rw [Nat.pow_succ, Nat.mul_comm]
        rw [e]
        simp (disch := omega) only [n0, n1, n2, n3, n4, n5, n6, n7, n8, n10, n16, n40, n128, n255, n256, n1024, n2000, n2048, nJ_add, nJ_mul, nJ_sub, nJ_leT, nJ_leF, nJ_ltT, nJ_ltF, nJ_eqT, nJ_eqF, nJ_clamp, nJ_div, nM, iM_eqF, iM_eqF2, iM_leF, iM_ltF, iM_leT, iM_ltT, iM_add, iM_add0, natLeF, natLeT, natLtF, natLtT, natEqF, natEqT, if_true, if_false, ite_true, ite_false, false_or, or_false, or_self, Option.bind_some, ↓reduceIte])
      FU 0 (by omega) (fu (by omega))
    exact ⟨_, key⟩
theorem l_M_tell_24 {num n w : Nat} (hnum : num < 1024) (hn : n ≤ 2000) (hw : w ≤ 10) : ∀ (r : Nat), r ≤ w → ∀ (N : Nat) (f : Nat → Int32) (e : Nat → Nat) (m : Nat), r < N → bRep f e m → bGood e m → m + r ≤ 8 * n →
    ∃ f' z, f_M_tell_24 (nI num) (nI w) n N (nI (2 ^ (r - 1))) (nI (w - r)) (nI m) f = some (z, nI w, nI (m + r), f') ∧ bRep f' (apN num r e m) (m + r) := by
  intro r
  induction r with
  | zero =>
    intro _ N f e m hN hr hg hm
    match N, hN with
    | N + 1, _ =>
      refine ⟨f, nI (2 ^ (0 - 1)), ?_, hr⟩
      rw [f_M_tell_24]
      simp (disch := omega) only [n0, n1, n2, n3, n4, n5, n6, n7, n8, n10, n16, n40, n128, n255, n256, n1024, n2000, n2048, nJ_add, nJ_mul, nJ_sub, nJ_leT, nJ_leF, nJ_ltT, nJ_ltF, nJ_eqT, nJ_eqF, nJ_clamp, nJ_div, nM, iM_eqF, iM_eqF2, iM_leF, iM_ltF, iM_leT, iM_ltT, iM_add, iM_add0, natLeF, natLeT, natLtF, natLtT, natEqF, natEqT, if_true, if_false, ite_true, ite_false, false_or, or_false, or_self, Option.bind_some, ↓reduceIte, Nat.sub_zero]
      rfl
  | succ r ih =>
    intro hrw N f e m hN hr hg hm
    match N, hN with
    | N + 1, hN =>
      have hb : num / 2 ^ r % 2 < 2 := by omega
      have h2r : 2 ^ r ≤ 2 ^ 9 := Nat.pow_le_pow_right (by omega) (by omega)
      have h2p : 0 < 2 ^ r := Nat.pow_pos (by omega)
      have hdv : num / 2 ^ r ≤ num := Nat.div_le_self _ _
      have em : m - m / 8 * 8 = m % 8 := modSub m 8
      have ed : num / 2 ^ r - num / 2 ^ r / 2 * 2 = num / 2 ^ r % 2 := modSub _ 2
      have sb := shl_bits (7 - m % 8) (by omega) _ hb
      have e31 : (31 : Int32) = nI 31 := rfl
      have hby : nI (2 ^ r) / 2 = nI (2 ^ (r - 1)) ∨ r = 0 := by
        by_cases c : r = 0
        · exact Or.inr c
        · left
          rw [n2, nJ_div (by omega) (by omega)]
          congr 1
          rw [show r = (r - 1) + 1 by omega, Nat.pow_succ, Nat.mul_div_cancel _ (by omega)]; simp
      have step : ∀ g : Nat → Int32, g = upd f (m / 8) (nI ((if m % 8 = 0 then 0 else e (m / 8)) + num / 2 ^ r % 2 * 2 ^ (7 - m % 8))) → ∃ f' z, f_M_tell_24 (nI num) (nI w) n N (nI (2 ^ r) / 2) (nI (w - (r + 1)) + 1) (nI m + 1) g = some (z, nI w, nI (m + (r + 1)), f') ∧ bRep f' (apN num (r + 1) e m) (m + (r + 1)) := by
        intro g hgg
        subst hgg
        have hr' := apB_rep (b := num / 2 ^ r % 2) hr
        have hg' := apB_good hg hb
        rw [n1, nJ_add, nJ_add, show w - (r + 1) + 1 = w - r by omega, show m + (r + 1) = m + 1 + r by omega]
        rcases hby with hby | c
        · rw [hby]
          obtain ⟨f', z, i1, i2⟩ := ih (by omega) N _ _ (m + 1) (by omega) hr' hg' (by omega)
          exact ⟨f', z, i1, i2⟩
        · subst c
          match N, hN with
          | N + 1, hN =>
            refine ⟨_, nI (2 ^ 0) / 2, ?_, hr'⟩
            rw [f_M_tell_24]
            simp (disch := omega) only [n0, n1, n2, n3, n4, n5, n6, n7, n8, n10, n16, n40, n128, n255, n256, n1024, n2000, n2048, nJ_add, nJ_mul, nJ_sub, nJ_leT, nJ_leF, nJ_ltT, nJ_ltF, nJ_eqT, nJ_eqF, nJ_clamp, nJ_div, nM, iM_eqF, iM_eqF2, iM_leF, iM_ltF, iM_leT, iM_ltT, iM_add, iM_add0, natLeF, natLeT, natLtF, natLtT, natEqF, natEqT, if_true, if_false, ite_true, ite_false, false_or, or_false, or_self, Option.bind_some, ↓reduceIte, Nat.sub_zero]
      rw [show r + 1 - 1 = r by omega]
      rw [f_M_tell_24]
      by_cases c : m % 8 = 0
      · have fin := step (upd f (m / 8) (nI ((if m % 8 = 0 then 0 else e (m / 8)) + num / 2 ^ r % 2 * 2 ^ (7 - m % 8)))) rfl
        have c1 : nI m / 8 = nI (m / 8) := by rw [n8, nJ_div (by omega) (by omega)]
        have c2 : nI m - nI (m / 8) * 8 = nI (m % 8) := by rw [n8, nJ_mul, nJ_sub (by omega), em]
        have c3 : nI num / nI (2 ^ r) = nI (num / 2 ^ r) := nJ_div (by omega) (by omega)
        have c4 : nI (num / 2 ^ r) - nI (num / 2 ^ r) / 2 * 2 = nI (num / 2 ^ r % 2) := by rw [n2, nJ_div (by omega) (by omega), nJ_mul, nJ_sub (by omega), ed]
        have c5 : (7 : Int32) - nI (m % 8) = nI (7 - m % 8) := by rw [n7, nJ_sub (by omega)]
        rw [c1, c2, c3, c4, c5, sb]
        have c6 : upd (upd f (nI (m / 8)).toNatClampNeg 0) (nI (m / 8)).toNatClampNeg (upd f (nI (m / 8)).toNatClampNeg 0 (nI (m / 8)).toNatClampNeg + nI (num / 2 ^ r % 2 * 2 ^ (7 - m % 8))) = upd f (m / 8) (nI ((if m % 8 = 0 then 0 else e (m / 8)) + num / 2 ^ r % 2 * 2 ^ (7 - m % 8))) := by
          rw [nJ_clamp (by omega), upd_eq, if_pos c, n0, nJ_add]
          funext j
          unfold upd
          split <;> rfl
        have c7 : ¬ nI w ≤ nI (w - (r + 1)) := by rw [nJ_leF (by omega) (by omega)]; exact not_false
        have c8 : ¬ (nI (m / 8) < 0 ∨ n ≤ (nI (m / 8)).toNatClampNeg) := by
          rw [n0, nJ_ltF (by omega) (by omega), nJ_clamp (by omega), false_or]; omega
        have c9 : ¬ nI (2 ^ r) = 0 := by rw [n0, nJ_eqF (by omega) (by omega) (by omega)]; exact not_false
        have c10 : nI (m % 8) = 0 := by rw [c]; rfl
        rw [if_neg c7, if_pos c10, if_neg c8, if_neg c8, if_neg c9, if_neg c8, c6]
        exact fin
      · have fin := step (upd f (m / 8) (nI ((if m % 8 = 0 then 0 else e (m / 8)) + num / 2 ^ r % 2 * 2 ^ (7 - m % 8)))) rfl
        have hrm := hr (m / 8) (by omega)
        have c1 : nI m / 8 = nI (m / 8) := by rw [n8, nJ_div (by omega) (by omega)]
        have c2 : nI m - nI (m / 8) * 8 = nI (m % 8) := by rw [n8, nJ_mul, nJ_sub (by omega), em]
        have c3 : nI num / nI (2 ^ r) = nI (num / 2 ^ r) := nJ_div (by omega) (by omega)
        have c4 : nI (num / 2 ^ r) - nI (num / 2 ^ r) / 2 * 2 = nI (num / 2 ^ r % 2) := by rw [n2, nJ_div (by omega) (by omega), nJ_mul, nJ_sub (by omega), ed]
        have c5 : (7 : Int32) - nI (m % 8) = nI (7 - m % 8) := by rw [n7, nJ_sub (by omega)]
        rw [c1, c2, c3, c4, c5, sb]
        have c6 : upd (upd f (nI (m / 8)).toNatClampNeg (f (nI (m / 8)).toNatClampNeg)) (nI (m / 8)).toNatClampNeg (upd f (nI (m / 8)).toNatClampNeg (f (nI (m / 8)).toNatClampNeg) (nI (m / 8)).toNatClampNeg + nI (num / 2 ^ r % 2 * 2 ^ (7 - m % 8))) = upd f (m / 8) (nI ((if m % 8 = 0 then 0 else e (m / 8)) + num / 2 ^ r % 2 * 2 ^ (7 - m % 8))) := by
          rw [nJ_clamp (by omega), upd_eq, if_neg c, hrm, nJ_add]
          funext j
          unfold upd
          split <;> rfl
        have c7 : ¬ nI w ≤ nI (w - (r + 1)) := by rw [nJ_leF (by omega) (by omega)]; exact not_false
        have c8 : ¬ (nI (m / 8) < 0 ∨ n ≤ (nI (m / 8)).toNatClampNeg) := by
          rw [n0, nJ_ltF (by omega) (by omega), nJ_clamp (by omega), false_or]; omega
        have c9 : ¬ nI (2 ^ r) = 0 := by rw [n0, nJ_eqF (by omega) (by omega) (by omega)]; exact not_false
        have c10 : ¬ nI (m % 8) = 0 := by rw [n0, nJ_eqF (by omega) (by omega) (by omega)]; exact not_false
        rw [if_neg c7, if_neg c10, if_neg c8, if_neg c8, if_neg c8, if_neg c9, if_neg c8, c6]
        exact fin
theorem l_M_tell {num n w m : Nat} {f : Nat → Int32} {e : Nat → Nat} (hnum : num < 1024) (hn : n ≤ 2000) (hw : w ≤ 10) (hr : bRep f e m) (hg : bGood e m) (hm : m + w ≤ 8 * n) :
    ∃ f', f_M_tell (nI num) (nI w) (nI m) n f = some (nI (m + w), f') ∧ bRep f' (apN num w e m) (m + w) := by
  obtain ⟨z, h0⟩ := l_M_tell_5 (p1 := nI num) hw
  obtain ⟨f', z', h1, h2⟩ := l_M_tell_24 hnum hn hw w (Nat.le_refl _) FU f e m (fu (by omega)) hr hg hm
  rw [Nat.sub_self] at h1
  refine ⟨f', ?_, h2⟩
  unfold f_M_tell
  rw [h0]
  simp only [Option.bind_some]
  have h1 : f_M_tell_24 (nI num) (nI w) n FU (nI (2 ^ (w - 1))) 0 (nI m) f = _ := h1
  rw [h1]
  rfl
end
section
/-! what is written down of one block -/
/-- bits for a number below a -/
def db (a : Nat) : Nat := if a ≤ 1 then 0 else if a ≤ 2 then 1 else if a ≤ 4 then 2 else if a ≤ 8 then 3 else if a ≤ 16 then 4 else if a ≤ 32 then 5 else if a ≤ 64 then 6 else if a ≤ 128 then 7 else 8
theorem db_spec : ∀ a, a < 257 → db a ≤ 8 ∧ a ≤ 2 ^ db a ∧ ∀ v, v < db a → 2 ^ v < a := by decide +kernel
theorem dac_le {w h : Nat} (hw : w ≤ 16) : dac w h * dac w h ≤ 225 := by
  have h1 : w / h ≤ w := Nat.div_le_self _ _
  have h2 : dac w h ≤ 15 := by unfold dac; omega
  exact Nat.mul_le_mul h2 h2
theorem pow_db {v : Nat} (h : v ≤ 8) : 2 ^ v ≤ 256 := Nat.pow_le_pow_right (by omega) h
section
variable {w h : Nat}
theorem l_F_domainBits (hw : w ≤ 16) (h1 : 0 < h) (h2 : 2 * h ≤ w) : f_F_domainBits (nI (2 * h)) (nI (2 * w)) = some (nI (db (dac w h * dac w h))) := by
  have ha := dac_le (h := h) hw
  obtain ⟨d1, d2, d3⟩ := db_spec (dac w h * dac w h) (by omega)
  unfold f_F_domainBits
  rw [l_F_domains (by omega) h1 h2]
  simp only [Option.bind_some]
  generalize dac w h * dac w h = a at ha d1 d2 d3 ⊢
  have key := lp_up (L := fun n' (_ : Unit) v => f_F_domainBits_11 (nI (2 * h)) (nI a) n' (nI v)) (st := fun _ => ()) (b := db a) (fin := nI (db a))
    (fun n' => by
      show f_F_domainBits_11 _ _ (n' + 1) _ = _
      rw [f_F_domainBits_11]
      by_cases c : db a = 8
      · rw [c]
        simp (disch := omega) only [n0, n1, n2, n3, n4, n5, n6, n7, n8, n10, n16, n40, n128, n255, n256, n1024, n2000, n2048, nJ_add, nJ_mul, nJ_sub, nJ_leT, nJ_leF, nJ_ltT, nJ_ltF, nJ_eqT, nJ_eqF, nJ_clamp, nJ_div, nM, iM_eqF, iM_eqF2, iM_leF, iM_ltF, iM_leT, iM_ltT, iM_add, iM_add0, natLeF, natLeT, natLtF, natLtT, natEqF, natEqT, if_true, if_false, ite_true, ite_false, false_or, or_false, or_self, Option.bind_some, ↓reduceIte]
      · have sb := shl_bits (db a) (by omega) 1 (by omega)
        rw [Nat.one_mul] at sb
        have b2 := pow_db d1
        rw [n1, sb]
        simp (disch := omega) only [n0, n1, n2, n3, n4, n5, n6, n7, n8, n10, n16, n40, n128, n255, n256, n1024, n2000, n2048, nJ_add, nJ_mul, nJ_sub, nJ_leT, nJ_leF, nJ_ltT, nJ_ltF, nJ_eqT, nJ_eqF, nJ_clamp, nJ_div, nM, iM_eqF, iM_eqF2, iM_leF, iM_ltF, iM_leT, iM_ltT, iM_add, iM_add0, natLeF, natLeT, natLtF, natLtT, natEqF, natEqT, if_true, if_false, ite_true, ite_false, false_or, or_false, or_self, Option.bind_some, ↓reduceIte])
    (fun n' v hv => by
      show f_F_domainBits_11 _ _ (n' + 1) _ = f_F_domainBits_11 _ _ n' _
      rw [f_F_domainBits_11]
      have b1 := d3 v hv
      have sb := shl_bits v (by omega) 1 (by omega)
      rw [Nat.one_mul] at sb
      rw [n1, sb]
      simp (disch := omega) only [n0, n1, n2, n3, n4, n5, n6, n7, n8, n10, n16, n40, n128, n255, n256, n1024, n2000, n2048, nJ_add, nJ_mul, nJ_sub, nJ_leT, nJ_leF, nJ_ltT, nJ_ltF, nJ_eqT, nJ_eqF, nJ_clamp, nJ_div, nM, iM_eqF, iM_eqF2, iM_leF, iM_ltF, iM_leT, iM_ltT, iM_add, iM_add0, natLeF, natLeT, natLtF, natLtT, natEqF, natEqT, if_true, if_false, ite_true, ite_false, false_or, or_false, or_self, Option.bind_some, ↓reduceIte])
    FU 0 (Nat.zero_le _) (fu (by omega))
  have key : f_F_domainBits_11 (nI (2 * h)) (nI a) FU 0 = _ := key
  rw [key]
  rfl
theorem l_M_bitsFor (hw : w ≤ 16) (h1 : 0 < h) (h2 : 2 * h ≤ w) : f_M_bitsFor (nI (2 * h)) (nI (2 * w)) = some (nI (db (dac w h * dac w h))) := by
  have ha := dac_le (h := h) hw
  obtain ⟨d1, d2, d3⟩ := db_spec (dac w h * dac w h) (by omega)
  unfold f_M_bitsFor
  rw [l_M_domains (by omega) h1 h2]
  simp only [Option.bind_some]
  rw [nJ_mul]
  generalize dac w h * dac w h = a at ha d1 d2 d3 ⊢
  have key := lp_up (L := fun n' (x : Nat) v => f_M_bitsFor_17 (nI (2 * h)) (nI a) n' (nI v) (nI x)) (st := fun v => 2 ^ v) (b := db a) (fin := (nI (db a), nI (2 ^ db a)))
    (fun n' => by
      show f_M_bitsFor_17 _ _ (n' + 1) _ _ = _
      rw [f_M_bitsFor_17]
      have b2 := pow_db d1
      simp (disch := omega) only [n0, n1, n2, n3, n4, n5, n6, n7, n8, n10, n16, n40, n128, n255, n256, n1024, n2000, n2048, nJ_add, nJ_mul, nJ_sub, nJ_leT, nJ_leF, nJ_ltT, nJ_ltF, nJ_eqT, nJ_eqF, nJ_clamp, nJ_div, nM, iM_eqF, iM_eqF2, iM_leF, iM_ltF, iM_leT, iM_ltT, iM_add, iM_add0, natLeF, natLeT, natLtF, natLtT, natEqF, natEqT, if_true, if_false, ite_true, ite_false, false_or, or_false, or_self, Option.bind_some, ↓reduceIte])
    (fun n' v hv => by
      show f_M_bitsFor_17 _ _ (n' + 1) _ _ = f_M_bitsFor_17 _ _ n' _ _
      rw [f_M_bitsFor_17]
      have b1 := d3 v hv
      have e : 2 ^ (v + 1) = 2 * 2 ^ v := by rw [Nat.pow_succ, Nat.mul_comm]
      rw [e]
      simp (disch := omega) only [n0, n1, n2, n3, n4, n5, n6, n7, n8, n10, n16, n40, n128, n255, n256, n1024, n2000, n2048, nJ_add, nJ_mul, nJ_sub, nJ_leT, nJ_leF, nJ_ltT, nJ_ltF, nJ_eqT, nJ_eqF, nJ_clamp, nJ_div, nM, iM_eqF, iM_eqF2, iM_leF, iM_ltF, iM_leT, iM_ltT, iM_add, iM_add0, natLeF, natLeT, natLtF, natLtT, natEqF, natEqT, if_true, if_false, ite_true, ite_false, false_or, or_false, or_self, Option.bind_some, ↓reduceIte])
    FU 0 (Nat.zero_le _) (fu (by omega))
  have key : f_M_bitsFor_17 (nI (2 * h)) (nI a) FU 0 1 = _ := key
  rw [key]
  rfl
end
/-- a block's eight facts -/
def fct (x y s : Nat) (B : Fit5) (j : Nat) : Int := if j = 0 then (x : Int) else if j = 1 then (y : Int) else if j = 2 then (s : Int) else if j = 3 then (B.1 : Int) else if j = 4 then (B.2.1 : Int) else if j = 5 then B.2.2.1 else if j = 6 then B.2.2.2.1 else B.2.2.2.2
/-- the facts of one block more -/
def addF (F : Nat → Int) (c x y s : Nat) (B : Fit5) (k : Nat) : Int := if k < 8 * c then F k else fct x y s B (k - 8 * c)
/-- c blocks' facts stand in an array from a place on -/
def kRep (o : Nat) (f : Nat → Int32) (F : Nat → Int) (c : Nat) : Prop := ∀ k, k < 8 * c → f (o + k) = iI (F k)
theorem updT {f : Nat → Int32} {k j : Nat} {x : Int32} (h : j = k) : upd f k x j = x := by subst h; exact upd_eq ..
theorem updF {f : Nat → Int32} {k j : Nat} {x : Int32} (h : j ≠ k) : upd f k x j = f j := upd_ne _ _ _ h
theorem addF_old {F : Nat → Int} {c x y s k : Nat} {B : Fit5} (h : k < 8 * c) : addF F c x y s B k = F k := by unfold addF; rw [if_pos h]
theorem addF_new {F : Nat → Int} {c x y s j : Nat} {B : Fit5} : addF F c x y s B (8 * c + j) = fct x y s B j := by
  unfold addF; rw [if_neg (by omega), show 8 * c + j - 8 * c = j by omega]
theorem kRep_add {o c x y s : Nat} {f f' : Nat → Int32} {F : Nat → Int} {B : Fit5} (h : kRep o f F c) (h1 : ∀ k, k < o + 8 * c → f' k = f k)
    (h2 : f' (o + (8 * c + 0)) = nI x ∧ f' (o + (8 * c + 1)) = nI y ∧ f' (o + (8 * c + 2)) = nI s ∧ f' (o + (8 * c + 3)) = nI B.1 ∧ f' (o + (8 * c + 4)) = nI B.2.1 ∧ f' (o + (8 * c + 5)) = iI B.2.2.1 ∧ f' (o + (8 * c + 6)) = iI B.2.2.2.1 ∧ f' (o + (8 * c + 7)) = iI B.2.2.2.2) : kRep o f' (addF F c x y s B) (c + 1) := by
  intro k hk
  by_cases a : k < 8 * c
  · rw [addF_old a, h1 _ (by omega), h k a]
  · obtain ⟨e0, e1, e2, e3, e4, e5, e6, e7⟩ := h2
    obtain ⟨j, rfl⟩ : ∃ j, k = 8 * c + j := ⟨k - 8 * c, by omega⟩
    rw [addF_new]
    rcases eight (show j < 8 by omega) with rfl | rfl | rfl | rfl | rfl | rfl | rfl | rfl
    · rw [e0]; exact nJ_iI _
    · rw [e1]; exact nJ_iI _
    · rw [e2]; exact nJ_iI _
    · rw [e3]; exact nJ_iI _
    · rw [e4]; exact nJ_iI _
    · rw [e5]; rfl
    · rw [e6]; rfl
    · rw [e7]; rfl
theorem l_K_add {c n x y s : Nat} {f : Nat → Int32} {F : Nat → Int} {B : Fit5} (hc : 8 * c + 7 < n) (hn : n ≤ 2048) (hr : kRep 0 f F c) :
    ∃ f', f_K_add (nI x) (nI y) (nI s) (nI c) n f (nI B.1) (nI B.2.1) (iI B.2.2.1) (iI B.2.2.2.1) (iI B.2.2.2.2) = some (nI (c + 1), f') ∧ kRep 0 f' (addF F c x y s B) (c + 1) := by
  apply Exists.intro
  constructor
  · unfold f_K_add
    simp (disch := omega) only [n0, n1, n2, n3, n4, n5, n6, n7, n8, n10, n16, n40, n128, n255, n256, n1024, n2000, n2048, nJ_add, nJ_mul, nJ_sub, nJ_leT, nJ_leF, nJ_ltT, nJ_ltF, nJ_eqT, nJ_eqF, nJ_clamp, nJ_div, nM, iM_eqF, iM_eqF2, iM_leF, iM_ltF, iM_leT, iM_ltT, iM_add, iM_add0, natLeF, natLeT, natLtF, natLtT, natEqF, natEqT, if_true, if_false, ite_true, ite_false, false_or, or_false, or_self, Option.bind_some, ↓reduceIte]
    rfl
  · refine kRep_add hr (fun k hk => ?_) ?_
    · simp (disch := omega) only [updF]
    · refine ⟨?_, ?_, ?_, ?_, ?_, ?_, ?_, ?_⟩ <;> simp (disch := omega) only [updF, updT]
theorem l_M_note_44 {n at' bn N : Nat} {f bf : Nat → Int32} {p1 p2 p3 p4 : Int32} (hn : at' + 7 < n) (hn2 : n ≤ 4096) (hb : 4 ≤ bn) :
    f_M_note_44 p1 p2 p3 p4 (nI at') n bn bf (N + 1 + 1 + 1 + 1 + 1) 0 f = some (nI 4, upd (upd (upd (upd f (at' + 3) (bf 0)) (at' + 4) (bf 1)) (at' + 5) (bf 2)) (at' + 6) (bf 3)) := by
  rw [f_M_note_44]
  simp (disch := omega) only [n0, n1, n2, n3, n4, n5, n6, n7, n8, n10, n16, n40, n128, n255, n256, n1024, n2000, n2048, nJ_add, nJ_mul, nJ_sub, nJ_leT, nJ_leF, nJ_ltT, nJ_ltF, nJ_eqT, nJ_eqF, nJ_clamp, nJ_div, nM, iM_eqF, iM_eqF2, iM_leF, iM_ltF, iM_leT, iM_ltT, iM_add, iM_add0, natLeF, natLeT, natLtF, natLtT, natEqF, natEqT, if_true, if_false, ite_true, ite_false, false_or, or_false, or_self, Option.bind_some, ↓reduceIte]
  rw [f_M_note_44]
  simp (disch := omega) only [n0, n1, n2, n3, n4, n5, n6, n7, n8, n10, n16, n40, n128, n255, n256, n1024, n2000, n2048, nJ_add, nJ_mul, nJ_sub, nJ_leT, nJ_leF, nJ_ltT, nJ_ltF, nJ_eqT, nJ_eqF, nJ_clamp, nJ_div, nM, iM_eqF, iM_eqF2, iM_leF, iM_ltF, iM_leT, iM_ltT, iM_add, iM_add0, natLeF, natLeT, natLtF, natLtT, natEqF, natEqT, if_true, if_false, ite_true, ite_false, false_or, or_false, or_self, Option.bind_some, ↓reduceIte]
  rw [f_M_note_44]
  simp (disch := omega) only [n0, n1, n2, n3, n4, n5, n6, n7, n8, n10, n16, n40, n128, n255, n256, n1024, n2000, n2048, nJ_add, nJ_mul, nJ_sub, nJ_leT, nJ_leF, nJ_ltT, nJ_ltF, nJ_eqT, nJ_eqF, nJ_clamp, nJ_div, nM, iM_eqF, iM_eqF2, iM_leF, iM_ltF, iM_leT, iM_ltT, iM_add, iM_add0, natLeF, natLeT, natLtF, natLtT, natEqF, natEqT, if_true, if_false, ite_true, ite_false, false_or, or_false, or_self, Option.bind_some, ↓reduceIte]
  rw [f_M_note_44]
  simp (disch := omega) only [n0, n1, n2, n3, n4, n5, n6, n7, n8, n10, n16, n40, n128, n255, n256, n1024, n2000, n2048, nJ_add, nJ_mul, nJ_sub, nJ_leT, nJ_leF, nJ_ltT, nJ_ltF, nJ_eqT, nJ_eqF, nJ_clamp, nJ_div, nM, iM_eqF, iM_eqF2, iM_leF, iM_ltF, iM_leT, iM_ltT, iM_add, iM_add0, natLeF, natLeT, natLtF, natLtT, natEqF, natEqT, if_true, if_false, ite_true, ite_false, false_or, or_false, or_self, Option.bind_some, ↓reduceIte]
  rw [f_M_note_44]
  simp (disch := omega) only [n0, n1, n2, n3, n4, n5, n6, n7, n8, n10, n16, n40, n128, n255, n256, n1024, n2000, n2048, nJ_add, nJ_mul, nJ_sub, nJ_leT, nJ_leF, nJ_ltT, nJ_ltF, nJ_eqT, nJ_eqF, nJ_clamp, nJ_div, nM, iM_eqF, iM_eqF2, iM_leF, iM_ltF, iM_leT, iM_ltT, iM_add, iM_add0, natLeF, natLeT, natLtF, natLtT, natEqF, natEqT, if_true, if_false, ite_true, ite_false, false_or, or_false, or_self, Option.bind_some, ↓reduceIte]
theorem l_M_note {c n bn x y s : Nat} {f bf : Nat → Int32} {F : Nat → Int} {B : Fit5} (hc : c < 256) (hn : n = 4096) (hb : 4 ≤ bn) (hr : kRep 2048 f F c)
    (hB : bf 0 = nI B.1 ∧ bf 1 = nI B.2.1 ∧ bf 2 = iI B.2.2.1 ∧ bf 3 = iI B.2.2.2.1) :
    ∃ f', f_M_note (nI x) (nI y) (nI s) (iI B.2.2.2.2) (nI c) n f bn bf = some (nI (c + 1), f') ∧ kRep 2048 f' (addF F c x y s B) (c + 1) ∧ ∀ k, k < 2048 → f' k = f k := by
  subst hn
  have e8 : 8 * (256 + c) = 2048 + 8 * c := by omega
  have k44 := l_M_note_44 (n := 4096) (at' := 2048 + 8 * c) (bn := bn) (N := 1048571) (bf := bf) (f := upd (upd (upd f (2048 + 8 * c) (nI x)) (2048 + 8 * c + 1) (nI y)) (2048 + 8 * c + 2) (nI s)) (p1 := nI x) (p2 := nI y) (p3 := nI s) (p4 := iI B.2.2.2.2) (by omega) (by omega) hb
  have hFU : (1048571 + 1 + 1 + 1 + 1 + 1 : Nat) = FU := rfl
  rw [hFU] at k44
  apply Exists.intro
  constructor
  · unfold f_M_note
    simp (disch := omega) only [n0, n1, n2, n3, n4, n5, n6, n7, n8, n10, n16, n40, n128, n255, n256, n1024, n2000, n2048, nJ_add, nJ_mul, nJ_sub, nJ_leT, nJ_leF, nJ_ltT, nJ_ltF, nJ_eqT, nJ_eqF, nJ_clamp, nJ_div, nM, iM_eqF, iM_eqF2, iM_leF, iM_ltF, iM_leT, iM_ltT, iM_add, iM_add0, natLeF, natLeT, natLtF, natLtT, natEqF, natEqT, if_true, if_false, ite_true, ite_false, false_or, or_false, or_self, Option.bind_some, ↓reduceIte, e8]
    rw [← n0, k44]
    simp (disch := omega) only [n0, n1, n2, n3, n4, n5, n6, n7, n8, n10, n16, n40, n128, n255, n256, n1024, n2000, n2048, nJ_add, nJ_mul, nJ_sub, nJ_leT, nJ_leF, nJ_ltT, nJ_ltF, nJ_eqT, nJ_eqF, nJ_clamp, nJ_div, nM, iM_eqF, iM_eqF2, iM_leF, iM_ltF, iM_leT, iM_ltT, iM_add, iM_add0, natLeF, natLeT, natLtF, natLtT, natEqF, natEqT, if_true, if_false, ite_true, ite_false, false_or, or_false, or_self, Option.bind_some, ↓reduceIte]
    rfl
  · obtain ⟨h0, h1, h2, h3⟩ := hB
    constructor
    · refine kRep_add hr (fun k hk => ?_) ?_
      · simp (disch := omega) only [updF]
      · refine ⟨?_, ?_, ?_, ?_, ?_, ?_, ?_, ?_⟩ <;> simp (disch := omega) only [updF, updT, h0, h1, h2, h3]
    · intro k hk
      simp (disch := omega) only [updF]
/-- a fit's four numbers in bits -/
def wFit (D : Nat) (B : Fit5) (e : Nat → Nat) (m : Nat) : Nat → Nat := apN (B.2.2.2.1 + 256).toNat 10 (apN (B.2.2.1 + 7).toNat 4 (apN B.2.1 3 (apN B.1 D e m) (m + D)) (m + D + 3)) (m + D + 3 + 4)
theorem fit_con {A : Nat} {B : Fit5} (h : bVal A B) : iI B.2.2.1 + 7 = nI (B.2.2.1 + 7).toNat ∧ (B.2.2.1 + 7).toNat < 1024 := by
  obtain ⟨_, _, _, h1, h2, _⟩ := h
  generalize B.2.2.1 = z at h1 h2
  refine ⟨?_, by omega⟩
  rw [nJ_iI, show (7 : Int32) = iI 7 from rfl, iI_add, Int.toNat_of_nonneg (by omega)]
theorem fit_off {A : Nat} {B : Fit5} (h : bVal A B) : iI B.2.2.2.1 + 256 = nI (B.2.2.2.1 + 256).toNat ∧ (B.2.2.2.1 + 256).toNat < 1024 := by
  obtain ⟨_, _, _, _, _, h1, h2⟩ := h
  generalize B.2.2.2.1 = z at h1 h2
  refine ⟨?_, by omega⟩
  rw [nJ_iI, show (256 : Int32) = iI 256 from rfl, iI_add, Int.toNat_of_nonneg (by omega)]
section
variable {w h : Nat}
theorem wFit_good {D m : Nat} {B : Fit5} {e : Nat → Nat} (hg : bGood e m) : bGood (wFit D B e m) (m + D + 17) := by
  have g1 := apN_good (num := B.1) D e m hg
  have g2 := apN_good (num := B.2.1) 3 _ _ g1
  have g3 := apN_good (num := (B.2.2.1 + 7).toNat) 4 _ _ g2
  exact apN_good (num := (B.2.2.2.1 + 256).toNat) 10 _ _ g3
theorem l_F_writeFit {n m : Nat} {f : Nat → Int32} {e : Nat → Nat} {B : Fit5} (hw : w ≤ 16) (h1 : 0 < h) (h2 : 2 * h ≤ w) (hB : bVal (dac w h * dac w h) B) (hn : n ≤ 2000) (hr : bRep f e m) (hg : bGood e m) (hm : m + db (dac w h * dac w h) + 17 ≤ 8 * n) :
    ∃ f', f_F_writeFit (nI (2 * h)) (nI (2 * w)) (nI B.1) (nI B.2.1) (iI B.2.2.1) (iI B.2.2.2.1) (nI m) n f = some (nI (m + db (dac w h * dac w h) + 17), f') ∧ bRep f' (wFit (db (dac w h * dac w h)) B e m) (m + db (dac w h * dac w h) + 17) := by
  have ha := dac_le (h := h) hw
  obtain ⟨d1, _, _⟩ := db_spec (dac w h * dac w h) (by omega)
  have hd := hB.2.1
  have ht := hB.2.2.1
  obtain ⟨c1, c2⟩ := fit_con hB
  obtain ⟨o1, o2⟩ := fit_off hB
  have hl := l_F_domainBits hw h1 h2
  generalize db (dac w h * dac w h) = D at d1 hm hl ⊢
  obtain ⟨f1, a1, r1⟩ := l_B_append (num := B.1) (w := D) (m := m) (by omega) hn (by omega) hr hg (by omega)
  have g1 := apN_good (num := B.1) D e m hg
  obtain ⟨f2, a2, r2⟩ := l_B_append (num := B.2.1) (w := 3) (m := m + D) (by omega) hn (by omega) r1 g1 (by omega)
  have g2 := apN_good (num := B.2.1) 3 _ _ g1
  obtain ⟨f3, a3, r3⟩ := l_B_append (num := (B.2.2.1 + 7).toNat) (w := 4) (m := m + D + 3) c2 hn (by omega) r2 g2 (by omega)
  have g3 := apN_good (num := (B.2.2.1 + 7).toNat) 4 _ _ g2
  obtain ⟨f4, a4, r4⟩ := l_B_append (num := (B.2.2.2.1 + 256).toNat) (w := 10) (m := m + D + 3 + 4) o2 hn (by omega) r3 g3 (by omega)
  refine ⟨f4, ?_, r4⟩
  unfold f_F_writeFit
  rw [hl]
  simp only [Option.bind_some]
  rw [a1]
  simp only [Option.bind_some]
  rw [n3, a2]
  simp only [Option.bind_some]
  rw [c1, n4, a3]
  simp only [Option.bind_some]
  rw [o1, n10, a4]
  rfl
/-- the reference's writing of a fit -/
theorem l_M_tells {n m bn : Nat} {f bf : Nat → Int32} {e : Nat → Nat} {B : Fit5} (hw : w ≤ 16) (h1 : 0 < h) (h2 : 2 * h ≤ w) (hB : bVal (dac w h * dac w h) B) (hn : n ≤ 2000) (hr : bRep f e m) (hg : bGood e m) (hm : m + db (dac w h * dac w h) + 17 ≤ 8 * n) (hbn : 4 ≤ bn)
    (hb : bf 0 = nI B.1 ∧ bf 1 = nI B.2.1 ∧ bf 2 = iI B.2.2.1 ∧ bf 3 = iI B.2.2.2.1) :
    ∃ f', bRep f' (wFit (db (dac w h * dac w h)) B e m) (m + db (dac w h * dac w h) + 17) ∧ ∀ {ρ : Type} (K : Int32 × (Nat → Int32) → Option ρ),
      (if (0 : Int32) < 0 ∨ bn ≤ (0 : Int32).toNatClampNeg then none else ((f_M_bitsFor (nI (2 * h)) (nI (2 * w))).bind (fun q1047 => (f_M_tell (bf (0 : Int32).toNatClampNeg) q1047 (nI m) n f).bind (fun q1049 => if (1 : Int32) < 0 ∨ bn ≤ (1 : Int32).toNatClampNeg then none else ((f_M_tell (bf (1 : Int32).toNatClampNeg) (3 : Int32) q1049.1 n q1049.2).bind (fun q1050 => if (2 : Int32) < 0 ∨ bn ≤ (2 : Int32).toNatClampNeg then none else ((f_M_tell ((bf (2 : Int32).toNatClampNeg) + (7 : Int32)) (4 : Int32) q1050.1 n q1050.2).bind (fun q1051 => if (3 : Int32) < 0 ∨ bn ≤ (3 : Int32).toNatClampNeg then none else ((f_M_tell ((bf (3 : Int32).toNatClampNeg) + (256 : Int32)) (10 : Int32) q1051.1 n q1051.2).bind (fun q1052 => K q1052)))))))))) = K (nI (m + db (dac w h * dac w h) + 17), f') := by
  have ha := dac_le (h := h) hw
  obtain ⟨d1, _, _⟩ := db_spec (dac w h * dac w h) (by omega)
  have hd := hB.2.1
  have ht := hB.2.2.1
  obtain ⟨c1, c2⟩ := fit_con hB
  obtain ⟨o1, o2⟩ := fit_off hB
  have hl := l_M_bitsFor hw h1 h2
  generalize db (dac w h * dac w h) = D at d1 hm hl ⊢
  obtain ⟨f1, a1, r1⟩ := l_M_tell (num := B.1) (w := D) (m := m) (by omega) hn (by omega) hr hg (by omega)
  have g1 := apN_good (num := B.1) D e m hg
  obtain ⟨f2, a2, r2⟩ := l_M_tell (num := B.2.1) (w := 3) (m := m + D) (by omega) hn (by omega) r1 g1 (by omega)
  have g2 := apN_good (num := B.2.1) 3 _ _ g1
  obtain ⟨f3, a3, r3⟩ := l_M_tell (num := (B.2.2.1 + 7).toNat) (w := 4) (m := m + D + 3) c2 hn (by omega) r2 g2 (by omega)
  have g3 := apN_good (num := (B.2.2.1 + 7).toNat) 4 _ _ g2
  obtain ⟨f4, a4, r4⟩ := l_M_tell (num := (B.2.2.2.1 + 256).toNat) (w := 10) (m := m + D + 3 + 4) o2 hn (by omega) r3 g3 (by omega)
  refine ⟨f4, r4, fun K => ?_⟩
  obtain ⟨b0, b1, b2, b3⟩ := hb
  have z0 : (0 : Int32).toNatClampNeg = 0 := rfl
  have z1 : (1 : Int32).toNatClampNeg = 1 := rfl
  have z2 : (2 : Int32).toNatClampNeg = 2 := rfl
  have z3 : (3 : Int32).toNatClampNeg = 3 := rfl
  have i0 : ¬ ((0 : Int32) < 0 ∨ bn ≤ 0) := by rintro (h | h); exact absurd h (by decide); omega
  have i1 : ¬ ((1 : Int32) < 0 ∨ bn ≤ 1) := by rintro (h | h); exact absurd h (by decide); omega
  have i2 : ¬ ((2 : Int32) < 0 ∨ bn ≤ 2) := by rintro (h | h); exact absurd h (by decide); omega
  have i3 : ¬ ((3 : Int32) < 0 ∨ bn ≤ 3) := by rintro (h | h); exact absurd h (by decide); omega
  rw [z0, z1, z2, z3, if_neg i0, hl, b0, b1, b2, b3]
  simp only [Option.bind_some]
  rw [a1]
  simp only [Option.bind_some]
  rw [if_neg i1, n3, a2]
  simp only [Option.bind_some]
  rw [if_neg i2, c1, n4, a3]
  simp only [Option.bind_some]
  rw [← n3, if_neg i3, o1, n10, a4]
  rfl
end
end
section
/-! an encoding, square by square -/
/-- blocks, their facts, bits, bytes, tried -/
abbrev ES := Nat × (Nat → Int) × Nat × (Nat → Nat) × Nat
def eTr (t : Nat) (e : ES) : ES := (e.1, e.2.1, e.2.2.1, e.2.2.2.1, e.2.2.2.2 + t)
def eBit (v : Nat) (e : ES) : ES := (e.1, e.2.1, e.2.2.1 + 1, apN v 1 e.2.2.2.1 e.2.2.1, e.2.2.2.2)
def eLeaf (w h x y : Nat) (B : Fit5) (e : ES) : ES := (e.1 + 1, addF e.2.1 e.1 x y (2 * h) B, e.2.2.1 + db (dac w h * dac w h) + 17, wFit (db (dac w h * dac w h)) B e.2.2.2.1 e.2.2.1, e.2.2.2.2)
def eSq (p : Nat → Nat) (w least : Nat) (bd : Nat) : Nat → Nat → Nat → ES → ES
  | 0, x, y, e => eLeaf w (2 ^ 0) x y (best p w (2 ^ 0) x y).1 (eTr (best p w (2 ^ 0) x y).2 e)
  | d + 1, x, y, e => if 2 * 2 ^ (d + 1) ≤ least then eLeaf w (2 ^ (d + 1)) x y (best p w (2 ^ (d + 1)) x y).1 (eTr (best p w (2 ^ (d + 1)) x y).2 e)
    else if (best p w (2 ^ (d + 1)) x y).1.2.2.2.2 ≤ (bd : Int) then eLeaf w (2 ^ (d + 1)) x y (best p w (2 ^ (d + 1)) x y).1 (eBit 0 (eTr (best p w (2 ^ (d + 1)) x y).2 e))
    else eSq p w least bd d (x + 2 * 2 ^ d) (y + 2 * 2 ^ d) (eSq p w least bd d x (y + 2 * 2 ^ d) (eSq p w least bd d (x + 2 * 2 ^ d) y (eSq p w least bd d x y (eBit 1 (eTr (best p w (2 ^ (d + 1)) x y).2 e)))))
def eQ (p : Nat → Nat) (w least bd d x y : Nat) (e : ES) : ES := eSq p w least bd d (x + 2 * 2 ^ d) (y + 2 * 2 ^ d) (eSq p w least bd d x (y + 2 * 2 ^ d) (eSq p w least bd d (x + 2 * 2 ^ d) y (eSq p w least bd d x y e)))
theorem four_pos (d : Nat) : 1 ≤ 4 ^ d := Nat.pow_pos (by omega)
theorem four_succ (d : Nat) : 4 ^ (d + 1) = 4 * 4 ^ d := by rw [Nat.pow_succ, Nat.mul_comm]
theorem two_succ (d : Nat) : 2 ^ (d + 1) = 2 * 2 ^ d := by rw [Nat.pow_succ, Nat.mul_comm]
theorem two_pos' (d : Nat) : 1 ≤ 2 ^ d := Nat.pow_pos (by omega)
theorem eLeaf_le {w h x y : Nat} {B : Fit5} {e : ES} (hw : w ≤ 16) : (eLeaf w h x y B e).1 = e.1 + 1 ∧ (eLeaf w h x y B e).2.2.1 ≤ e.2.2.1 + 25 := by
  have ha := dac_le (h := h) hw
  obtain ⟨d1, _, _⟩ := db_spec (dac w h * dac w h) (by omega)
  exact ⟨rfl, by show e.2.2.1 + db (dac w h * dac w h) + 17 ≤ e.2.2.1 + 25; omega⟩
theorem eSq_le {p : Nat → Nat} {w least bd : Nat} (hw : w ≤ 16) : ∀ (d x y : Nat) (e : ES), (eSq p w least bd d x y e).1 ≤ e.1 + 4 ^ d ∧ (eSq p w least bd d x y e).2.2.1 < e.2.2.1 + 26 * 4 ^ d := by
  intro d
  induction d with
  | zero =>
    intro x y e
    rw [eSq]
    obtain ⟨h1, h2⟩ := eLeaf_le (h := 2 ^ 0) (x := x) (y := y) (B := (best p w (2 ^ 0) x y).1) (e := eTr (best p w (2 ^ 0) x y).2 e) hw
    have e1 : (eTr (best p w (2 ^ 0) x y).2 e).1 = e.1 := rfl
    have e2 : (eTr (best p w (2 ^ 0) x y).2 e).2.2.1 = e.2.2.1 := rfl
    rw [e1] at h1; rw [e2] at h2
    have : 4 ^ 0 = 1 := rfl
    omega
  | succ d ih =>
    intro x y e
    have f1 := four_pos d
    have f2 := four_succ d
    rw [eSq]
    split
    · obtain ⟨h1, h2⟩ := eLeaf_le (h := 2 ^ (d + 1)) (x := x) (y := y) (B := (best p w (2 ^ (d + 1)) x y).1) (e := eTr (best p w (2 ^ (d + 1)) x y).2 e) hw
      have e1 : (eTr (best p w (2 ^ (d + 1)) x y).2 e).1 = e.1 := rfl
      have e2 : (eTr (best p w (2 ^ (d + 1)) x y).2 e).2.2.1 = e.2.2.1 := rfl
      rw [e1] at h1; rw [e2] at h2
      omega
    · split
      · obtain ⟨h1, h2⟩ := eLeaf_le (h := 2 ^ (d + 1)) (x := x) (y := y) (B := (best p w (2 ^ (d + 1)) x y).1) (e := eBit 0 (eTr (best p w (2 ^ (d + 1)) x y).2 e)) hw
        have e1 : (eBit 0 (eTr (best p w (2 ^ (d + 1)) x y).2 e)).1 = e.1 := rfl
        have e2 : (eBit 0 (eTr (best p w (2 ^ (d + 1)) x y).2 e)).2.2.1 = e.2.2.1 + 1 := rfl
        rw [e1] at h1; rw [e2] at h2
        omega
      · have e1 : (eBit 1 (eTr (best p w (2 ^ (d + 1)) x y).2 e)).1 = e.1 := rfl
        have e2 : (eBit 1 (eTr (best p w (2 ^ (d + 1)) x y).2 e)).2.2.1 = e.2.2.1 + 1 := rfl
        generalize eBit 1 (eTr (best p w (2 ^ (d + 1)) x y).2 e) = e' at e1 e2 ⊢
        have i1 := ih x y e'
        generalize eSq p w least bd d x y e' = s1 at i1 ⊢
        have i2 := ih (x + 2 * 2 ^ d) y s1
        generalize eSq p w least bd d (x + 2 * 2 ^ d) y s1 = s2 at i2 ⊢
        have i3 := ih x (y + 2 * 2 ^ d) s2
        generalize eSq p w least bd d x (y + 2 * 2 ^ d) s2 = s3 at i3 ⊢
        have i4 := ih (x + 2 * 2 ^ d) (y + 2 * 2 ^ d) s3
        generalize eSq p w least bd d (x + 2 * 2 ^ d) (y + 2 * 2 ^ d) s3 = s4 at i4 ⊢
        omega
/-- how a machine state tells an encoding -/
def eRep (o : Nat) (cnt : Int32) (K : Nat → Int32) (mm : Int32) (C : Nat → Int32) (tr : Int32) (e : ES) : Prop := cnt = nI e.1 ∧ kRep o K e.2.1 e.1 ∧ mm = nI e.2.2.1 ∧ bRep C e.2.2.2.1 e.2.2.1 ∧ bGood e.2.2.2.1 e.2.2.1 ∧ tr = nI e.2.2.2.2
/-! the class -/
abbrev Z24 := Int32 × Int32 × Int32 × Int32 × Int32 × Int32 × Int32 × Int32 × Int32 × Int32 × Int32 × (Nat → Int32) × (Nat → Int32) × (Nat → Int32) × (Nat → Int32) × Int32 × Int32 × Int32 × Int32 × Int32 × Int32 × (Nat → Int32) × Int32 × (Nat → Int32)
def cSq (n : Nat) (f : Nat → Int32) (hn : Nat) (hf : Nat → Int32) (wn dn qn rn kn cn : Nat) (D : Nat) (x y s l b S hs : Int32) (z : Z24) : Option Z24 := f_F_encodeSquare (f_F_encodeQuarters D) x y s l b S S n f hs hn hf z.1 z.2.1 z.2.2.1 z.2.2.2.1 z.2.2.2.2.1 z.2.2.2.2.2.1 z.2.2.2.2.2.2.1 z.2.2.2.2.2.2.2.1 z.2.2.2.2.2.2.2.2.1 z.2.2.2.2.2.2.2.2.2.1 z.2.2.2.2.2.2.2.2.2.2.1 wn z.2.2.2.2.2.2.2.2.2.2.2.1 dn z.2.2.2.2.2.2.2.2.2.2.2.2.1 qn z.2.2.2.2.2.2.2.2.2.2.2.2.2.1 rn z.2.2.2.2.2.2.2.2.2.2.2.2.2.2.1 z.2.2.2.2.2.2.2.2.2.2.2.2.2.2.2.1 z.2.2.2.2.2.2.2.2.2.2.2.2.2.2.2.2.1 z.2.2.2.2.2.2.2.2.2.2.2.2.2.2.2.2.2.1 z.2.2.2.2.2.2.2.2.2.2.2.2.2.2.2.2.2.2.1 z.2.2.2.2.2.2.2.2.2.2.2.2.2.2.2.2.2.2.2.1 z.2.2.2.2.2.2.2.2.2.2.2.2.2.2.2.2.2.2.2.2.1 kn z.2.2.2.2.2.2.2.2.2.2.2.2.2.2.2.2.2.2.2.2.2.1 z.2.2.2.2.2.2.2.2.2.2.2.2.2.2.2.2.2.2.2.2.2.2.1 cn z.2.2.2.2.2.2.2.2.2.2.2.2.2.2.2.2.2.2.2.2.2.2.2
def cQt (n : Nat) (f : Nat → Int32) (hn : Nat) (hf : Nat → Int32) (wn dn qn rn kn cn : Nat) (D : Nat) (x y s l b S hs : Int32) (z : Z24) : Option Z24 := f_F_encodeQuarters D x y s l b S S n f hs hn hf z.1 z.2.1 z.2.2.1 z.2.2.2.1 z.2.2.2.2.1 z.2.2.2.2.2.1 z.2.2.2.2.2.2.1 z.2.2.2.2.2.2.2.1 z.2.2.2.2.2.2.2.2.1 z.2.2.2.2.2.2.2.2.2.1 z.2.2.2.2.2.2.2.2.2.2.1 wn z.2.2.2.2.2.2.2.2.2.2.2.1 dn z.2.2.2.2.2.2.2.2.2.2.2.2.1 qn z.2.2.2.2.2.2.2.2.2.2.2.2.2.1 rn z.2.2.2.2.2.2.2.2.2.2.2.2.2.2.1 z.2.2.2.2.2.2.2.2.2.2.2.2.2.2.2.1 z.2.2.2.2.2.2.2.2.2.2.2.2.2.2.2.2.1 z.2.2.2.2.2.2.2.2.2.2.2.2.2.2.2.2.2.1 z.2.2.2.2.2.2.2.2.2.2.2.2.2.2.2.2.2.2.1 z.2.2.2.2.2.2.2.2.2.2.2.2.2.2.2.2.2.2.2.1 z.2.2.2.2.2.2.2.2.2.2.2.2.2.2.2.2.2.2.2.2.1 kn z.2.2.2.2.2.2.2.2.2.2.2.2.2.2.2.2.2.2.2.2.2.1 z.2.2.2.2.2.2.2.2.2.2.2.2.2.2.2.2.2.2.2.2.2.2.1 cn z.2.2.2.2.2.2.2.2.2.2.2.2.2.2.2.2.2.2.2.2.2.2.2
def c9 (n : Nat) (f : Nat → Int32) (hn : Nat) (hf : Nat → Int32) (wn dn qn rn kn cn : Nat) (D : Nat) (x y s l b S hs : Int32) (N : Nat) (v : Int32) (z : Z24) : Option (Int32 × Z24) := f_F_encodeQuarters_9 (f_F_encodeQuarters D) x y s l b S S n f hs hn hf wn dn qn rn kn cn N v z.1 z.2.1 z.2.2.1 z.2.2.2.1 z.2.2.2.2.1 z.2.2.2.2.2.1 z.2.2.2.2.2.2.1 z.2.2.2.2.2.2.2.1 z.2.2.2.2.2.2.2.2.1 z.2.2.2.2.2.2.2.2.2.1 z.2.2.2.2.2.2.2.2.2.2.1 z.2.2.2.2.2.2.2.2.2.2.2.1 z.2.2.2.2.2.2.2.2.2.2.2.2.1 z.2.2.2.2.2.2.2.2.2.2.2.2.2.1 z.2.2.2.2.2.2.2.2.2.2.2.2.2.2.1 z.2.2.2.2.2.2.2.2.2.2.2.2.2.2.2.1 z.2.2.2.2.2.2.2.2.2.2.2.2.2.2.2.2.1 z.2.2.2.2.2.2.2.2.2.2.2.2.2.2.2.2.2.1 z.2.2.2.2.2.2.2.2.2.2.2.2.2.2.2.2.2.2.1 z.2.2.2.2.2.2.2.2.2.2.2.2.2.2.2.2.2.2.2.1 z.2.2.2.2.2.2.2.2.2.2.2.2.2.2.2.2.2.2.2.2.1 z.2.2.2.2.2.2.2.2.2.2.2.2.2.2.2.2.2.2.2.2.2.1 z.2.2.2.2.2.2.2.2.2.2.2.2.2.2.2.2.2.2.2.2.2.2.1 z.2.2.2.2.2.2.2.2.2.2.2.2.2.2.2.2.2.2.2.2.2.2.2
def zRep (z : Z24) (e : ES) : Prop := eRep 0 z.2.2.2.2.2.2.2.2.2.2.2.2.2.2.2.2.2.2.2.2.1 z.2.2.2.2.2.2.2.2.2.2.2.2.2.2.2.2.2.2.2.2.2.1 z.2.2.2.2.2.2.2.2.2.2.2.2.2.2.2.2.2.2.2.2.2.2.1 z.2.2.2.2.2.2.2.2.2.2.2.2.2.2.2.2.2.2.2.2.2.2.2 z.2.2.2.2.2.1 e
section
variable {n : Nat} {f : Nat → Int32} {hn : Nat} {hf : Nat → Int32} {wn dn qn rn kn cn : Nat}
theorem c9_end {D N : Nat} {x y s l b S hs : Int32} {z : Z24} : c9 n f hn hf wn dn qn rn kn cn D x y s l b S hs (N + 1) (nI 4) z = some (nI 4, z) := by
  unfold c9
  rw [f_F_encodeQuarters_9, if_pos (by decide)]
theorem c9_step {D N v : Nat} {x y s l b S hs : Int32} {z : Z24} (hv : v < 4) : c9 n f hn hf wn dn qn rn kn cn D x y s l b S hs (N + 1) (nI v) z = (cSq n f hn hf wn dn qn rn kn cn D (x + nI (v % 2) * s) (y + nI (v / 2) * s) s l b S hs z).bind (fun r => c9 n f hn hf wn dn qn rn kn cn D x y s l b S hs N (nI (v + 1)) r) := by
  have g : ¬ (4 : Int32) ≤ nI v := by rw [n4, nJ_leF (by omega) (by omega)]; exact not_false
  unfold c9 cSq
  rw [f_F_encodeQuarters_9, if_neg g, l_across hv, l_down hv]
  simp only [Option.bind_some]
  rw [n1, nJ_add]
theorem cQt_eq {D : Nat} {x y l b S hs : Int32} {s : Nat} {z : Z24} (h2 : 2 ≤ s) (hs2 : s < 2147483648) : cQt n f hn hf wn dn qn rn kn cn (D + 1) x y (nI s) l b S hs z = (c9 n f hn hf wn dn qn rn kn cn D x y (nI s) l b S hs FU (nI 0) z).bind (fun q => some q.2) := by
  have g : (2 : Int32) ≤ nI s := by rw [n2, nJ_leT (by omega) (by omega)]; exact trivial
  unfold cQt c9
  rw [f_F_encodeQuarters, if_pos g]
  rfl
variable {p : Nat → Nat} {w least bd : Nat}
/-- a square of this size is encoded rightly -/
def SqOk (n : Nat) (f : Nat → Int32) (hn : Nat) (hf : Nat → Int32) (wn dn qn rn kn cn : Nat) (p : Nat → Nat) (w least bd d D : Nat) : Prop := ∀ (x y : Nat) (e : ES) (z : Z24), x + 2 * 2 ^ d ≤ 2 * w → y + 2 * 2 ^ d ≤ 2 * w → zRep z e → e.1 + 4 ^ d ≤ w * w → e.2.2.1 + 26 * 4 ^ d ≤ 32 * (w * w) + 1 →
  ∃ r, cSq n f hn hf wn dn qn rn kn cn D (nI x) (nI y) (nI (2 * 2 ^ d)) (nI least) (nI bd) (nI (2 * w)) (nI w) z = some r ∧ zRep r (eSq p w least bd d x y e)
theorem l_cQt {d D : Nat} (hw : w ≤ 16) (ih : SqOk n f hn hf wn dn qn rn kn cn p w least bd d D) {x y : Nat} {e : ES} {z : Z24} (hd : 2 * 2 ^ d ≤ 64) (hx : x + 4 * 2 ^ d ≤ 2 * w) (hy : y + 4 * 2 ^ d ≤ 2 * w) (hz : zRep z e) (hc : e.1 + 4 * 4 ^ d ≤ w * w) (hm : e.2.2.1 + 26 * (4 * 4 ^ d) ≤ 32 * (w * w) + 4) :
    ∃ r, cQt n f hn hf wn dn qn rn kn cn (D + 1) (nI x) (nI y) (nI (2 * 2 ^ d)) (nI least) (nI bd) (nI (2 * w)) (nI w) z = some r ∧ zRep r (eQ p w least bd d x y e) := by
  have f1 := four_pos d
  have t1 := two_pos' d
  obtain ⟨r1, a1, b1⟩ := ih x y e z (by omega) (by omega) hz (by omega) (by omega)
  have l1 := eSq_le (p := p) (least := least) (bd := bd) hw d x y e
  obtain ⟨r2, a2, b2⟩ := ih (x + 2 * 2 ^ d) y _ r1 (by omega) (by omega) b1 (by omega) (by omega)
  have l2 := eSq_le (p := p) (least := least) (bd := bd) hw d (x + 2 * 2 ^ d) y (eSq p w least bd d x y e)
  obtain ⟨r3, a3, b3⟩ := ih x (y + 2 * 2 ^ d) _ r2 (by omega) (by omega) b2 (by omega) (by omega)
  have l3 := eSq_le (p := p) (least := least) (bd := bd) hw d x (y + 2 * 2 ^ d) (eSq p w least bd d (x + 2 * 2 ^ d) y (eSq p w least bd d x y e))
  obtain ⟨r4, a4, b4⟩ := ih (x + 2 * 2 ^ d) (y + 2 * 2 ^ d) _ r3 (by omega) (by omega) b3 (by omega) (by omega)
  refine ⟨r4, ?_, b4⟩
  have hFU : FU = 1048571 + 1 + 1 + 1 + 1 + 1 := rfl
  have m0 : nI x + nI (0 % 2) * nI (2 * 2 ^ d) = nI x := by rw [nJ_mul, nJ_add]; congr 1; omega
  have m0' : nI y + nI (0 / 2) * nI (2 * 2 ^ d) = nI y := by rw [nJ_mul, nJ_add]; congr 1; omega
  have m1 : nI x + nI (1 % 2) * nI (2 * 2 ^ d) = nI (x + 2 * 2 ^ d) := by rw [nJ_mul, nJ_add]; congr 1; omega
  have m1' : nI y + nI (1 / 2) * nI (2 * 2 ^ d) = nI y := by rw [nJ_mul, nJ_add]; congr 1; omega
  have m2 : nI x + nI (2 % 2) * nI (2 * 2 ^ d) = nI x := by rw [nJ_mul, nJ_add]; congr 1; omega
  have m2' : nI y + nI (2 / 2) * nI (2 * 2 ^ d) = nI (y + 2 * 2 ^ d) := by rw [nJ_mul, nJ_add]; congr 1; omega
  have m3 : nI x + nI (3 % 2) * nI (2 * 2 ^ d) = nI (x + 2 * 2 ^ d) := by rw [nJ_mul, nJ_add]; congr 1; omega
  have m3' : nI y + nI (3 / 2) * nI (2 * 2 ^ d) = nI (y + 2 * 2 ^ d) := by rw [nJ_mul, nJ_add]; congr 1; omega
  rw [cQt_eq (by omega) (by omega), hFU, c9_step (by omega), m0, m0', a1, Option.bind_some, c9_step (by omega), m1, m1', a2, Option.bind_some, c9_step (by omega), m2, m2', a3, Option.bind_some, c9_step (by omega), m3, m3', a4, Option.bind_some]
  rw [c9_end]
  rfl
/-- what a leaf of the class gives -/
theorem l_leafC {h x y : Nat} {cnt mm tr : Int32} {K C : Nat → Int32} {e : ES} {B : Fit5} (hw : w ≤ 16) (h1 : 0 < h) (h2 : 2 * h ≤ w) (hB : bVal (dac w h * dac w h) B) (hkn : kn = 8 * (w * w)) (hcn : cn = 4 * (w * w)) (hz : eRep 0 cnt K mm C tr e) (hc : e.1 + 1 ≤ w * w) (hm : e.2.2.1 + 25 ≤ 32 * (w * w)) :
    ∃ q c, f_K_add (nI x) (nI y) (nI (2 * h)) cnt kn K (nI B.1) (nI B.2.1) (iI B.2.2.1) (iI B.2.2.2.1) (iI B.2.2.2.2) = some q ∧ f_F_writeFit (nI (2 * h)) (nI (2 * w)) (nI B.1) (nI B.2.1) (iI B.2.2.1) (iI B.2.2.2.1) mm cn C = some c ∧ eRep 0 q.1 q.2 c.1 c.2 tr (eLeaf w h x y B e) := by
  obtain ⟨z1, z2, z3, z4, z5, z6⟩ := hz
  subst z1; subst z3
  have hww : w * w ≤ 16 * 16 := Nat.mul_le_mul hw hw
  have ha := dac_le (h := h) hw
  obtain ⟨d1, _, _⟩ := db_spec (dac w h * dac w h) (by omega)
  obtain ⟨K', k1, k2⟩ := l_K_add (x := x) (y := y) (s := 2 * h) (B := B) (n := kn) (by omega) (by omega) z2
  obtain ⟨C', c1, c2⟩ := l_F_writeFit (n := cn) hw h1 h2 hB (by omega) z4 z5 (by omega)
  exact ⟨_, _, k1, c1, rfl, k2, rfl, c2, wFit_good z5, z6⟩
theorem l_cSq (hw : w ≤ 16) (hl2 : 2 ≤ least) (hl : least ≤ 16) (hbd : bd < 2147483648) (hn1 : 2 * w * (2 * w) ≤ n) (hH : w * w ≤ hn) (hH2 : hn < 2147483648) (hwn : w * w ≤ wn) (hw2 : wn < 2147483648) (hdn : w * w ≤ dn) (hd2 : dn < 2147483648) (hqn : 4 ≤ qn) (hrn : 8 ≤ rn) (hkn : kn = 8 * (w * w)) (hcn : cn = 4 * (w * w))
    (hf1 : ∀ k, k < 2 * w * (2 * w) → f k = nI (p k)) (hp : ∀ k, k < 2 * w * (2 * w) → p k ≤ 255) (hh : ∀ k, k < w * w → hf k = nI (hlf p (2 * w) k)) :
    ∀ d, 2 * 2 ^ d ≤ w → ∀ D, d ≤ D → SqOk n f hn hf wn dn qn rn kn cn p w least bd d D := by
  have hww : w * w ≤ 16 * 16 := Nat.mul_le_mul hw hw
  intro d
  induction d with
  | zero =>
    intro hd D hD x y e z hx hy hz hc hm
    have e0 : 2 ^ 0 = 1 := rfl
    have e4 : 4 ^ 0 = 1 := rfl
    rw [e4] at hc hm
    obtain ⟨bv, be⟩ := best_val (p := p) (w := w) (h := 2 ^ 0) (x := x) (y := y) (by omega) (by omega) hd hx hy hp
    obtain ⟨z1, z2, z3, z4, z5, z6⟩ := hz
    obtain ⟨b1, b2, b3, b4, b5, b6, b7, b8, b9, b10, W', D', Q', R', fb⟩ := l_S_findBest (p := p) (w := w) (h := 2 ^ 0) (x := x) (y := y) (n := n) (hn := hn) (wn := wn) (dn := dn) (qn := qn) (rn := rn) (tr := e.2.2.2.2) (f := f) (hf := hf) (W := z.2.2.2.2.2.2.2.2.2.2.2.1) (Df := z.2.2.2.2.2.2.2.2.2.2.2.2.1) (Qf := z.2.2.2.2.2.2.2.2.2.2.2.2.2.1) (Rf := z.2.2.2.2.2.2.2.2.2.2.2.2.2.2.1) (a1 := z.2.2.2.2.2.2.1) (a2 := z.2.2.2.2.2.2.2.1) (a3 := z.2.2.2.2.2.2.2.2.1) (a4 := z.2.2.2.2.2.2.2.2.2.1) (a5 := z.2.2.2.2.2.2.2.2.2.2.1) (a6 := z.1) (a7 := z.2.1) (a8 := z.2.2.1) (a9 := z.2.2.2.1) (a10 := z.2.2.2.2.1) (e1 := z.2.2.2.2.2.2.2.2.2.2.2.2.2.2.2.1) (e2 := z.2.2.2.2.2.2.2.2.2.2.2.2.2.2.2.2.1) (e3 := z.2.2.2.2.2.2.2.2.2.2.2.2.2.2.2.2.2.1) (e4 := z.2.2.2.2.2.2.2.2.2.2.2.2.2.2.2.2.2.2.1) (e5 := z.2.2.2.2.2.2.2.2.2.2.2.2.2.2.2.2.2.2.2.1) hw (by omega) (by omega) hd hx hy hn1 hH hH2 hwn hw2 hdn hd2 hqn hrn hf1 hp hh
    have hz' : eRep 0 z.2.2.2.2.2.2.2.2.2.2.2.2.2.2.2.2.2.2.2.2.1 z.2.2.2.2.2.2.2.2.2.2.2.2.2.2.2.2.2.2.2.2.2.1 z.2.2.2.2.2.2.2.2.2.2.2.2.2.2.2.2.2.2.2.2.2.2.1 z.2.2.2.2.2.2.2.2.2.2.2.2.2.2.2.2.2.2.2.2.2.2.2 (nI (e.2.2.2.2 + (best p w (2 ^ 0) x y).2)) (eTr (best p w (2 ^ 0) x y).2 e) := ⟨z1, z2, z3, z4, z5, rfl⟩
    obtain ⟨q, c, k1, k2, k3⟩ := l_leafC (kn := kn) (cn := cn) (x := x) (y := y) hw (show 0 < 2 ^ 0 by omega) hd bv hkn hcn hz' hc (show e.2.2.1 + 25 ≤ 32 * (w * w) by omega)
    have g : nI (2 * 2 ^ 0) ≤ nI least := by rw [nJ_leT (by omega) (by omega)]; exact trivial
    refine ⟨(b6, b7, b8, b9, b10, nI (e.2.2.2.2 + (best p w (2 ^ 0) x y).2), b1, b2, b3, b4, b5, W', D', Q', R', nI (best p w (2 ^ 0) x y).1.1, nI (best p w (2 ^ 0) x y).1.2.1, iI (best p w (2 ^ 0) x y).1.2.2.1, iI (best p w (2 ^ 0) x y).1.2.2.2.1, iI (best p w (2 ^ 0) x y).1.2.2.2.2, q.1, q.2, c.1, c.2), ?_, k3⟩
    unfold cSq f_F_encodeSquare
    rw [z6, fb, Option.bind_some, if_pos g]
    unfold f_F_encodeSquare_J36
    rw [if_pos g]
    unfold f_F_encodeSquare_J62
    rw [if_pos rfl]
    dsimp only
    rw [k1, Option.bind_some, k2]
    rfl
  | succ d ih =>
    intro hd D hD x y e z hx hy hz hc hm
    have f1 := four_pos d
    have f2 := four_succ d
    have t1 := two_pos' d
    have t2 := two_succ d
    obtain ⟨bv, be⟩ := best_val (p := p) (w := w) (h := 2 ^ (d + 1)) (x := x) (y := y) (by omega) (by omega) hd hx hy hp
    obtain ⟨z1, z2, z3, z4, z5, z6⟩ := hz
    obtain ⟨b1, b2, b3, b4, b5, b6, b7, b8, b9, b10, W', D', Q', R', fb⟩ := l_S_findBest (p := p) (w := w) (h := 2 ^ (d + 1)) (x := x) (y := y) (n := n) (hn := hn) (wn := wn) (dn := dn) (qn := qn) (rn := rn) (tr := e.2.2.2.2) (f := f) (hf := hf) (W := z.2.2.2.2.2.2.2.2.2.2.2.1) (Df := z.2.2.2.2.2.2.2.2.2.2.2.2.1) (Qf := z.2.2.2.2.2.2.2.2.2.2.2.2.2.1) (Rf := z.2.2.2.2.2.2.2.2.2.2.2.2.2.2.1) (a1 := z.2.2.2.2.2.2.1) (a2 := z.2.2.2.2.2.2.2.1) (a3 := z.2.2.2.2.2.2.2.2.1) (a4 := z.2.2.2.2.2.2.2.2.2.1) (a5 := z.2.2.2.2.2.2.2.2.2.2.1) (a6 := z.1) (a7 := z.2.1) (a8 := z.2.2.1) (a9 := z.2.2.2.1) (a10 := z.2.2.2.2.1) (e1 := z.2.2.2.2.2.2.2.2.2.2.2.2.2.2.2.1) (e2 := z.2.2.2.2.2.2.2.2.2.2.2.2.2.2.2.2.1) (e3 := z.2.2.2.2.2.2.2.2.2.2.2.2.2.2.2.2.2.1) (e4 := z.2.2.2.2.2.2.2.2.2.2.2.2.2.2.2.2.2.2.1) (e5 := z.2.2.2.2.2.2.2.2.2.2.2.2.2.2.2.2.2.2.2.1) hw (by omega) (by omega) hd hx hy hn1 hH hH2 hwn hw2 hdn hd2 hqn hrn hf1 hp hh
    rw [eSq]
    have he2 := bv.1.2
    generalize hBB : best p w (2 ^ (d + 1)) x y = BB at bv be fb he2 ⊢
    have hz' : eRep 0 z.2.2.2.2.2.2.2.2.2.2.2.2.2.2.2.2.2.2.2.2.1 z.2.2.2.2.2.2.2.2.2.2.2.2.2.2.2.2.2.2.2.2.2.1 z.2.2.2.2.2.2.2.2.2.2.2.2.2.2.2.2.2.2.2.2.2.2.1 z.2.2.2.2.2.2.2.2.2.2.2.2.2.2.2.2.2.2.2.2.2.2.2 (nI (e.2.2.2.2 + BB.2)) (eTr BB.2 e) := ⟨z1, z2, z3, z4, z5, rfl⟩
    by_cases g : 2 * 2 ^ (d + 1) ≤ least
    · obtain ⟨q, c, k1, k2, k3⟩ := l_leafC (kn := kn) (cn := cn) (x := x) (y := y) hw (show 0 < 2 ^ (d + 1) by omega) hd bv hkn hcn hz' (show e.1 + 1 ≤ w * w by omega) (show e.2.2.1 + 25 ≤ 32 * (w * w) by omega)
      rw [if_pos g]
      have g : nI (2 * 2 ^ (d + 1)) ≤ nI least := by rw [nJ_leT (by omega) (by omega)]; exact trivial
      refine ⟨(b6, b7, b8, b9, b10, nI (e.2.2.2.2 + BB.2), b1, b2, b3, b4, b5, W', D', Q', R', nI BB.1.1, nI BB.1.2.1, iI BB.1.2.2.1, iI BB.1.2.2.2.1, iI BB.1.2.2.2.2, q.1, q.2, c.1, c.2), ?_, k3⟩
      unfold cSq f_F_encodeSquare
      rw [z6, fb, Option.bind_some, if_pos g]
      unfold f_F_encodeSquare_J36
      rw [if_pos g]
      unfold f_F_encodeSquare_J62
      rw [if_pos rfl]
      dsimp only
      rw [k1, Option.bind_some, k2]
      rfl
    · rw [if_neg g]
      have gF : ¬ nI (2 * 2 ^ (d + 1)) ≤ nI least := by rw [nJ_leF (by omega) (by omega)]; exact not_false
      by_cases g2 : BB.1.2.2.2.2 ≤ (bd : Int)
      · rw [if_pos g2]
        have g3 : iI BB.1.2.2.2.2 ≤ nI bd := by rw [nJ_iI, iI_leT g2 (by omega) (by omega)]; exact trivial
        obtain ⟨C1, x1, x2⟩ := l_B_append (num := 0) (w := 1) (n := cn) (m := e.2.2.1) (by omega) (by omega) (by omega) z4 z5 (by omega)
        have hz2 : eRep 0 z.2.2.2.2.2.2.2.2.2.2.2.2.2.2.2.2.2.2.2.2.1 z.2.2.2.2.2.2.2.2.2.2.2.2.2.2.2.2.2.2.2.2.2.1 (nI (e.2.2.1 + 1)) C1 (nI (e.2.2.2.2 + BB.2)) (eBit 0 (eTr BB.2 e)) := ⟨z1, z2, rfl, x2, apN_good 1 _ _ z5, rfl⟩
        obtain ⟨q, c, k1, k2, k3⟩ := l_leafC (kn := kn) (cn := cn) (x := x) (y := y) hw (show 0 < 2 ^ (d + 1) by omega) hd bv hkn hcn hz2 (show e.1 + 1 ≤ w * w by omega) (show e.2.2.1 + 1 + 25 ≤ 32 * (w * w) by omega)
        refine ⟨(b6, b7, b8, b9, b10, nI (e.2.2.2.2 + BB.2), b1, b2, b3, b4, b5, W', D', Q', R', nI BB.1.1, nI BB.1.2.1, iI BB.1.2.2.1, iI BB.1.2.2.2.1, iI BB.1.2.2.2.2, q.1, q.2, c.1, c.2), ?_, k3⟩
        unfold cSq f_F_encodeSquare
        rw [z6, fb, Option.bind_some, if_neg gF, if_pos g3]
        unfold f_F_encodeSquare_J36
        rw [if_neg gF, if_pos rfl]
        unfold f_F_encodeSquare_J58
        have x1' : f_B_append 0 1 z.2.2.2.2.2.2.2.2.2.2.2.2.2.2.2.2.2.2.2.2.2.2.1 cn z.2.2.2.2.2.2.2.2.2.2.2.2.2.2.2.2.2.2.2.2.2.2.2 = some (nI (e.2.2.1 + 1), C1) := by rw [z3]; exact x1
        dsimp only
        rw [x1', Option.bind_some, if_pos rfl]
        dsimp only
        rw [k1, Option.bind_some, k2]
        rfl
      · rw [if_neg g2]
        have g3 : ¬ iI BB.1.2.2.2.2 ≤ nI bd := by rw [nJ_iI, iI_leF (by omega) (by omega) (by omega)]; exact not_false
        obtain ⟨C1, x1, x2⟩ := l_B_append (num := 1) (w := 1) (n := cn) (m := e.2.2.1) (by omega) (by omega) (by omega) z4 z5 (by omega)
        match D, hD with
        | D + 1, hD =>
          have hz2 : zRep (b6, b7, b8, b9, b10, nI (e.2.2.2.2 + BB.2), b1, b2, b3, b4, b5, W', D', Q', R', nI BB.1.1, nI BB.1.2.1, iI BB.1.2.2.1, iI BB.1.2.2.2.1, iI BB.1.2.2.2.2, z.2.2.2.2.2.2.2.2.2.2.2.2.2.2.2.2.2.2.2.2.1, z.2.2.2.2.2.2.2.2.2.2.2.2.2.2.2.2.2.2.2.2.2.1, nI (e.2.2.1 + 1), C1) (eBit 1 (eTr BB.2 e)) := ⟨z1, z2, rfl, x2, apN_good 1 _ _ z5, rfl⟩
          obtain ⟨r, k1, k2⟩ := l_cQt hw (ih (by omega) D (by omega)) (x := x) (y := y) (by omega) (by omega) (by omega) hz2 (show e.1 + 4 * 4 ^ d ≤ w * w by omega) (show e.2.2.1 + 1 + 26 * (4 * 4 ^ d) ≤ 32 * (w * w) + 4 by omega)
          refine ⟨r, ?_, k2⟩
          unfold cSq f_F_encodeSquare
          rw [z6, fb, Option.bind_some, if_neg gF, if_neg g3]
          unfold f_F_encodeSquare_J36
          rw [if_neg gF, if_neg (by decide)]
          unfold f_F_encodeSquare_J58
          have x1' : f_B_append 1 1 z.2.2.2.2.2.2.2.2.2.2.2.2.2.2.2.2.2.2.2.2.2.2.1 cn z.2.2.2.2.2.2.2.2.2.2.2.2.2.2.2.2.2.2.2.2.2.2.2 = some (nI (e.2.2.1 + 1), C1) := by rw [z3]; exact x1
          have hv : nI (2 * 2 ^ (d + 1)) / 2 = nI (2 * 2 ^ d) := by rw [n2, nJ_div (by omega) (by omega)]; congr 1; omega
          unfold cQt at k1
          dsimp only at k1 ⊢
          rw [x1', Option.bind_some, if_neg (by decide), hv]
          dsimp only
          rw [k1]
          rfl
end
end
section
/-! the reference's encoding: a pile of squares -/
abbrev Z11 := Int32 × Int32 × Int32 × Int32 × Int64 × (Nat → Int32) × (Nat → Int32) × (Nat → Int32) × (Nat → Int32) × (Nat → Int32) × (Nat → Int32)
def mL (n : Nat) (f : Nat → Int32) (hn : Nat) (hf : Nat → Int32) (kn cn ln dn rn bn : Nat) (l b S : Int32) (N : Nat) (z : Z11) : Option Z11 := f_M_encode_118 l b S n f hn hf kn cn ln dn rn bn N z.1 z.2.1 z.2.2.1 z.2.2.2.1 z.2.2.2.2.1 z.2.2.2.2.2.1 z.2.2.2.2.2.2.1 z.2.2.2.2.2.2.2.1 z.2.2.2.2.2.2.2.2.1 z.2.2.2.2.2.2.2.2.2.1 z.2.2.2.2.2.2.2.2.2.2
/-- a square stands on the pile -/
def pl (f : Nat → Int32) (k x y s : Nat) : Prop := f (3 * k) = nI x ∧ f (3 * k + 1) = nI y ∧ f (3 * k + 2) = nI s
theorem pl_of {f g : Nat → Int32} {k x y s : Nat} (h : pl f k x y s) (e : ∀ j, j < 3 * (k + 1) → g j = f j) : pl g k x y s := ⟨(e _ (by omega)).trans h.1, (e _ (by omega)).trans h.2.1, (e _ (by omega)).trans h.2.2⟩
theorem l_pileUp {k n x y s : Nat} {f : Nat → Int32} (hk : 3 * k + 2 < n) (hn : n ≤ 96) : f_M_pileUp (nI x) (nI y) (nI s) (nI k) n f = some (nI (k + 1), upd (upd (upd f (3 * k) (nI x)) (3 * k + 1) (nI y)) (3 * k + 2) (nI s)) := by
  unfold f_M_pileUp
  simp (disch := omega) only [n0, n1, n2, n3, n4, n5, n6, n7, n8, n10, n16, n40, n128, n255, n256, n1024, n2000, n2048, nJ_add, nJ_mul, nJ_sub, nJ_leT, nJ_leF, nJ_ltT, nJ_ltF, nJ_eqT, nJ_eqF, nJ_clamp, nJ_div, nM, iM_eqF, iM_eqF2, iM_leF, iM_ltF, iM_leT, iM_ltT, iM_add, iM_add0, natLeF, natLeT, natLtF, natLtT, natEqF, natEqT, if_true, if_false, ite_true, ite_false, false_or, or_false, or_self, Option.bind_some, ↓reduceIte]
theorem l_pileQ {k n x y h : Nat} {f : Nat → Int32} (hk : 3 * (k + 4) ≤ n) (hn : n ≤ 96) (hh : h ≤ 64) :
    ∃ f', f_M_pileQuarters (nI x) (nI y) (nI (2 * h)) (nI k) n f = some (nI (k + 4), f') ∧ pl f' k (x + h) (y + h) h ∧ pl f' (k + 1) x (y + h) h ∧ pl f' (k + 2) (x + h) y h ∧ pl f' (k + 3) x y h ∧ ∀ j, j < 3 * k → f' j = f j := by
  have hv : nI (2 * h) / 2 = nI h := by rw [n2, nJ_div (by omega) (by omega)]; congr 1; omega
  apply Exists.intro
  constructor
  · unfold f_M_pileQuarters
    rw [hv, nJ_add, nJ_add, l_pileUp (by omega) hn, Option.bind_some, l_pileUp (by omega) hn, Option.bind_some, l_pileUp (by omega) hn, Option.bind_some, l_pileUp (by omega) hn]
    rfl
  · unfold pl
    refine ⟨⟨?_, ?_, ?_⟩, ⟨?_, ?_, ?_⟩, ⟨?_, ?_, ?_⟩, ⟨?_, ?_, ?_⟩, ?_⟩
    iterate 12 (simp (disch := omega) only [updF, updT])
    intro j hj
    simp (disch := omega) only [updF]
def mRep (z : Z11) (e : ES) (k : Nat) : Prop := eRep 2048 z.1 z.2.2.2.2.2.1 z.2.1 z.2.2.2.2.2.2.1 z.2.2.1 e ∧ z.2.2.2.1 = nI k
section
variable {n : Nat} {f : Nat → Int32} {hn : Nat} {hf : Nat → Int32} {kn cn ln dn rn bn : Nat}
variable {p : Nat → Nat} {w least bd : Nat}
/-- a square on the pile is encoded rightly -/
def SqOkM (n : Nat) (f : Nat → Int32) (hn : Nat) (hf : Nat → Int32) (kn cn ln dn rn bn : Nat) (p : Nat → Nat) (w least bd d : Nat) : Prop := ∀ (x y k : Nat) (e : ES) (z : Z11), x + 2 * 2 ^ d ≤ 2 * w → y + 2 * 2 ^ d ≤ 2 * w → mRep z e (k + 1) → pl z.2.2.2.2.2.2.2.1 k x y (2 * 2 ^ d) → e.1 + 4 ^ d ≤ w * w → e.2.2.1 + 26 * 4 ^ d ≤ 15901 → 3 * (k + 1 + 3 * d) ≤ ln →
  ∃ c r, c + 1 ≤ 2 * 4 ^ d ∧ (∀ N, mL n f hn hf kn cn ln dn rn bn (nI least) (nI bd) (nI (2 * w)) (N + c) z = mL n f hn hf kn cn ln dn rn bn (nI least) (nI bd) (nI (2 * w)) N r) ∧ mRep r (eSq p w least bd d x y e) k ∧ ∀ j, j < 3 * k → r.2.2.2.2.2.2.2.1 j = z.2.2.2.2.2.2.2.1 j
theorem l_mQ {d : Nat} (hw : w ≤ 16) (ih : SqOkM n f hn hf kn cn ln dn rn bn p w least bd d) {x y k : Nat} {e : ES} {z : Z11} (hx : x + 4 * 2 ^ d ≤ 2 * w) (hy : y + 4 * 2 ^ d ≤ 2 * w) (hz : mRep z e (k + 4))
    (q0 : pl z.2.2.2.2.2.2.2.1 k (x + 2 * 2 ^ d) (y + 2 * 2 ^ d) (2 * 2 ^ d)) (q1 : pl z.2.2.2.2.2.2.2.1 (k + 1) x (y + 2 * 2 ^ d) (2 * 2 ^ d)) (q2 : pl z.2.2.2.2.2.2.2.1 (k + 2) (x + 2 * 2 ^ d) y (2 * 2 ^ d)) (q3 : pl z.2.2.2.2.2.2.2.1 (k + 3) x y (2 * 2 ^ d))
    (hc : e.1 + 4 * 4 ^ d ≤ w * w) (hm : e.2.2.1 + 26 * (4 * 4 ^ d) ≤ 15904) (hl : 3 * (k + 4 + 3 * d) ≤ ln) :
    ∃ c r, c + 4 ≤ 8 * 4 ^ d ∧ (∀ N, mL n f hn hf kn cn ln dn rn bn (nI least) (nI bd) (nI (2 * w)) (N + c) z = mL n f hn hf kn cn ln dn rn bn (nI least) (nI bd) (nI (2 * w)) N r) ∧ mRep r (eQ p w least bd d x y e) k ∧ ∀ j, j < 3 * k → r.2.2.2.2.2.2.2.1 j = z.2.2.2.2.2.2.2.1 j := by
  have f1 := four_pos d
  have t1 := two_pos' d
  obtain ⟨c1, r1, s1, a1, b1, p1⟩ := ih x y (k + 3) e z (by omega) (by omega) hz q3 (by omega) (by omega) (by omega)
  have l1 := eSq_le (p := p) (least := least) (bd := bd) hw d x y e
  obtain ⟨c2, r2, s2, a2, b2, p2⟩ := ih (x + 2 * 2 ^ d) y (k + 2) _ r1 (by omega) (by omega) b1 (pl_of q2 (fun j hj => p1 j (by omega))) (by omega) (by omega) (by omega)
  have l2 := eSq_le (p := p) (least := least) (bd := bd) hw d (x + 2 * 2 ^ d) y (eSq p w least bd d x y e)
  obtain ⟨c3, r3, s3, a3, b3, p3⟩ := ih x (y + 2 * 2 ^ d) (k + 1) _ r2 (by omega) (by omega) b2 (pl_of q1 (fun j hj => (p2 j (by omega)).trans (p1 j (by omega)))) (by omega) (by omega) (by omega)
  have l3 := eSq_le (p := p) (least := least) (bd := bd) hw d x (y + 2 * 2 ^ d) (eSq p w least bd d (x + 2 * 2 ^ d) y (eSq p w least bd d x y e))
  obtain ⟨c4, r4, s4, a4, b4, p4⟩ := ih (x + 2 * 2 ^ d) (y + 2 * 2 ^ d) k _ r3 (by omega) (by omega) b3 (pl_of q0 (fun j hj => (p3 j (by omega)).trans ((p2 j (by omega)).trans (p1 j (by omega))))) (by omega) (by omega) (by omega)
  refine ⟨c4 + c3 + c2 + c1, r4, by omega, fun N => ?_, b4, fun j hj => (p4 j hj).trans ((p3 j (by omega)).trans ((p2 j (by omega)).trans (p1 j (by omega))))⟩
  rw [show N + (c4 + c3 + c2 + c1) = N + c4 + c3 + c2 + c1 by omega, a1, a2, a3, a4]
/-- a square is taken from the pile and its best fit is found -/
theorem mL_pop {h x y k N : Nat} {e : ES} {z : Z11} (hk : 3 * (k + 1) ≤ ln) (hln : ln ≤ 96) (hz : mRep z e (k + 1)) (hp : pl z.2.2.2.2.2.2.2.1 k x y (2 * h)) :
    mL n f hn hf kn cn ln dn rn bn (nI least) (nI bd) (nI (2 * w)) (N + 1) z = (f_M_search (nI x) (nI y) (nI (2 * h)) (nI (2 * w)) (nI e.2.2.2.2) z.2.2.2.2.1 n f hn hf dn z.2.2.2.2.2.2.2.2.1 rn z.2.2.2.2.2.2.2.2.2.1 bn z.2.2.2.2.2.2.2.2.2.2).bind (fun q =>
      if nI (2 * h) ≤ nI least then f_M_encode_J207 (fun a0 a1 a2 a3 a4 a5 a6 a7 a8 a9 a10 => mL n f hn hf kn cn ln dn rn bn (nI least) (nI bd) (nI (2 * w)) N (a0, a1, a2, a3, a4, a5, a6, a7, a8, a9, a10)) (nI least) (nI bd) (nI x) (nI y) (nI (2 * h)) (nI (2 * w)) z.1 z.2.1 q.1 (nI k) q.2.1 kn z.2.2.2.2.2.1 cn z.2.2.2.2.2.2.1 ln z.2.2.2.2.2.2.2.1 q.2.2.1 q.2.2.2.1 bn q.2.2.2.2 0
      else if lg_cmp q.2.1 (nI bd).toInt64 ≤ 0 then f_M_encode_J207 (fun a0 a1 a2 a3 a4 a5 a6 a7 a8 a9 a10 => mL n f hn hf kn cn ln dn rn bn (nI least) (nI bd) (nI (2 * w)) N (a0, a1, a2, a3, a4, a5, a6, a7, a8, a9, a10)) (nI least) (nI bd) (nI x) (nI y) (nI (2 * h)) (nI (2 * w)) z.1 z.2.1 q.1 (nI k) q.2.1 kn z.2.2.2.2.2.1 cn z.2.2.2.2.2.2.1 ln z.2.2.2.2.2.2.2.1 q.2.2.1 q.2.2.2.1 bn q.2.2.2.2 0
      else f_M_encode_J207 (fun a0 a1 a2 a3 a4 a5 a6 a7 a8 a9 a10 => mL n f hn hf kn cn ln dn rn bn (nI least) (nI bd) (nI (2 * w)) N (a0, a1, a2, a3, a4, a5, a6, a7, a8, a9, a10)) (nI least) (nI bd) (nI x) (nI y) (nI (2 * h)) (nI (2 * w)) z.1 z.2.1 q.1 (nI k) q.2.1 kn z.2.2.2.2.2.1 cn z.2.2.2.2.2.2.1 ln z.2.2.2.2.2.2.2.1 q.2.2.1 q.2.2.2.1 bn q.2.2.2.2 1) := by
  obtain ⟨⟨_, _, _, _, _, z3⟩, z4⟩ := hz
  obtain ⟨p1, p2, p3⟩ := hp
  have i0 : ¬ nI (k + 1) ≤ 0 := by rw [n0, nJ_leF (by omega) (by omega)]; exact not_false
  have ek : nI (k + 1) - 1 = nI k := by rw [n1, nJ_sub (by omega)]; rfl
  have c0 : (3 : Int32) * nI k = nI (3 * k) := by rw [n3, nJ_mul]
  have c1 : nI (3 * k) + 1 = nI (3 * k + 1) := by rw [n1, nJ_add]
  have c2 : nI (3 * k) + 2 = nI (3 * k + 2) := by rw [n2, nJ_add]
  have k0 : (nI (3 * k)).toNatClampNeg = 3 * k := nJ_clamp (by omega)
  have k1 : (nI (3 * k + 1)).toNatClampNeg = 3 * k + 1 := nJ_clamp (by omega)
  have k2 : (nI (3 * k + 2)).toNatClampNeg = 3 * k + 2 := nJ_clamp (by omega)
  have d0 : ¬ (nI (3 * k) < 0 ∨ ln ≤ 3 * k) := by rw [n0, nJ_ltF (by omega) (by omega), false_or]; omega
  have d1 : ¬ (nI (3 * k + 1) < 0 ∨ ln ≤ 3 * k + 1) := by rw [n0, nJ_ltF (by omega) (by omega), false_or]; omega
  have d2 : ¬ (nI (3 * k + 2) < 0 ∨ ln ≤ 3 * k + 2) := by rw [n0, nJ_ltF (by omega) (by omega), false_or]; omega
  unfold mL
  rw [f_M_encode_118, z4, if_neg i0, ek, c0, c1, c2, k0, k1, k2, if_neg d0, if_neg d1, if_neg d2, p1, p2, p3, z3]
/-- what a leaf of the reference gives -/
theorem l_leafM {h x y N : Nat} {cnt mm tr : Int32} {K C P Ds Rs bf : Nat → Int32} {e : ES} {B : Fit5} (hw : w ≤ 16) (h1 : 0 < h) (h2 : 2 * h ≤ w) (hB : bVal (dac w h * dac w h) B) (hkn : kn = 4096) (hcn : cn = 2000) (hbn : 4 ≤ bn) (hz : eRep 2048 cnt K mm C tr e) (hc : e.1 + 1 ≤ w * w) (hm : e.2.2.1 + 25 ≤ 16000)
    (hb : bf 0 = nI B.1 ∧ bf 1 = nI B.2.1 ∧ bf 2 = iI B.2.2.1 ∧ bf 3 = iI B.2.2.2.1) :
    ∃ r : Z11, mRep r (eLeaf w h x y B e) N ∧ r.2.2.2.2.2.2.2.1 = P ∧ ∀ {ρ : Type} (lk : Int32 → Int32 → Int32 → Int32 → Int64 → (Nat → Int32) → (Nat → Int32) → (Nat → Int32) → (Nat → Int32) → (Nat → Int32) → (Nat → Int32) → Option ρ),
      (f_M_note (nI x) (nI y) (nI (2 * h)) (lI B.2.2.2.2).toInt32 cnt kn K bn bf).bind (fun q1046 => if (0 : Int32) < 0 ∨ bn ≤ (0 : Int32).toNatClampNeg then none else ((f_M_bitsFor (nI (2 * h)) (nI (2 * w))).bind (fun q1047 => (f_M_tell (bf (0 : Int32).toNatClampNeg) q1047 mm cn C).bind (fun q1049 => if (1 : Int32) < 0 ∨ bn ≤ (1 : Int32).toNatClampNeg then none else ((f_M_tell (bf (1 : Int32).toNatClampNeg) (3 : Int32) q1049.1 cn q1049.2).bind (fun q1050 => if (2 : Int32) < 0 ∨ bn ≤ (2 : Int32).toNatClampNeg then none else ((f_M_tell ((bf (2 : Int32).toNatClampNeg) + (7 : Int32)) (4 : Int32) q1050.1 cn q1050.2).bind (fun q1051 => if (3 : Int32) < 0 ∨ bn ≤ (3 : Int32).toNatClampNeg then none else ((f_M_tell ((bf (3 : Int32).toNatClampNeg) + (256 : Int32)) (10 : Int32) q1051.1 cn q1051.2).bind (fun q1052 => lk q1046.1 q1052.1 tr (nI N) (lI B.2.2.2.2) q1046.2 q1052.2 P Ds Rs bf)))))))))) = lk r.1 r.2.1 r.2.2.1 r.2.2.2.1 r.2.2.2.2.1 r.2.2.2.2.2.1 r.2.2.2.2.2.2.1 r.2.2.2.2.2.2.2.1 r.2.2.2.2.2.2.2.2.1 r.2.2.2.2.2.2.2.2.2.1 r.2.2.2.2.2.2.2.2.2.2 := by
  obtain ⟨z1, z2, z3, z4, z5, z6⟩ := hz
  subst z1; subst z3
  have hww : w * w ≤ 16 * 16 := Nat.mul_le_mul hw hw
  have ha := dac_le (h := h) hw
  obtain ⟨d1, _, _⟩ := db_spec (dac w h * dac w h) (by omega)
  obtain ⟨K', k1, k2, _⟩ := l_M_note (x := x) (y := y) (s := 2 * h) (B := B) (n := kn) (bn := bn) (by omega) hkn hbn z2 hb
  obtain ⟨C', c2, c1⟩ := l_M_tells (n := cn) hw h1 h2 hB (by omega) z4 z5 (by omega) hbn hb
  refine ⟨(nI (e.1 + 1), nI (e.2.2.1 + db (dac w h * dac w h) + 17), tr, nI N, lI B.2.2.2.2, K', C', P, Ds, Rs, bf), ⟨⟨rfl, k2, rfl, c2, wFit_good z5, z6⟩, rfl⟩, rfl, fun lk => ?_⟩
  rw [lI_int, k1, Option.bind_some]
  exact c1 (fun q => lk (nI (e.1 + 1)) q.1 tr (nI N) (lI B.2.2.2.2) K' q.2 P Ds Rs bf)
theorem l_mL (hw : w ≤ 16) (hl2 : 2 ≤ least) (hl : least ≤ 16) (hbd : bd < 2147483648) (hn1 : 2 * w * (2 * w) ≤ n) (hH : w * w ≤ hn) (hdn : 256 ≤ dn) (hrn : 256 ≤ rn) (hbn : 4 ≤ bn) (hkn : kn = 4096) (hcn : cn = 2000) (hln : ln ≤ 96)
    (hf1 : ∀ k, k < 2 * w * (2 * w) → f k = nI (p k)) (hp : ∀ k, k < 2 * w * (2 * w) → p k ≤ 255) (hh : ∀ k, k < w * w → hf k = nI (hlf p (2 * w) k)) :
    ∀ d, 2 * 2 ^ d ≤ w → SqOkM n f hn hf kn cn ln dn rn bn p w least bd d := by
  have hww : w * w ≤ 16 * 16 := Nat.mul_le_mul hw hw
  intro d
  induction d with
  | zero =>
    intro hd x y k e z hx hy hz hq hc hm hk
    have e0 : 2 ^ 0 = 1 := rfl
    have e4 : 4 ^ 0 = 1 := rfl
    rw [e4] at hc hm ⊢
    obtain ⟨bv, be⟩ := best_val (p := p) (w := w) (h := 2 ^ 0) (x := x) (y := y) (by omega) (by omega) hd hx hy hp
    obtain ⟨Df', Rf', bf', s1, s2⟩ := l_M_search (p := p) (w := w) (h := 2 ^ 0) (x := x) (y := y) (n := n) (hn := hn) (dn := dn) (rn := rn) (bn := bn) (tr := e.2.2.2.2) (f := f) (hf := hf) (Df := z.2.2.2.2.2.2.2.2.1) (Rf := z.2.2.2.2.2.2.2.2.2.1) (bf := z.2.2.2.2.2.2.2.2.2.2) (be := z.2.2.2.2.1) hw (by omega) (by omega) hd hx hy hn1 hH hdn hrn hbn hf1 hp hh
    have hz0 := hz
    obtain ⟨⟨z1, z2, z3, z4, z5, z6⟩, zw⟩ := hz0
    have hz' : eRep 2048 z.1 z.2.2.2.2.2.1 z.2.1 z.2.2.2.2.2.2.1 (nI (e.2.2.2.2 + (best p w (2 ^ 0) x y).2)) (eTr (best p w (2 ^ 0) x y).2 e) := ⟨z1, z2, z3, z4, z5, rfl⟩
    obtain ⟨r, k1, k2, k3⟩ := l_leafM (kn := kn) (cn := cn) (bn := bn) (N := k) (x := x) (y := y) (P := z.2.2.2.2.2.2.2.1) (Ds := Df') (Rs := Rf') hw (show 0 < 2 ^ 0 by omega) hd bv hkn hcn hbn hz' hc (show e.2.2.1 + 25 ≤ 16000 by omega) s2
    have g : nI (2 * 2 ^ 0) ≤ nI least := by rw [nJ_leT (by omega) (by omega)]; exact trivial
    refine ⟨1, r, by omega, fun N => ?_, k1, fun j hj => by rw [k2]⟩
    rw [mL_pop (by omega) hln hz hq, s1, Option.bind_some, if_pos g]
    unfold f_M_encode_J207
    rw [if_pos g]
    unfold f_M_encode_J230
    rw [if_pos rfl]
    exact k3 (fun a0 a1 a2 a3 a4 a5 a6 a7 a8 a9 a10 => mL n f hn hf kn cn ln dn rn bn (nI least) (nI bd) (nI (2 * w)) N (a0, a1, a2, a3, a4, a5, a6, a7, a8, a9, a10))
  | succ d ih =>
    intro hd x y k e z hx hy hz hq hc hm hk
    have f1 := four_pos d
    have f2 := four_succ d
    have t1 := two_pos' d
    have t2 := two_succ d
    obtain ⟨bv, be⟩ := best_val (p := p) (w := w) (h := 2 ^ (d + 1)) (x := x) (y := y) (by omega) (by omega) hd hx hy hp
    obtain ⟨Df', Rf', bf', s1, s2⟩ := l_M_search (p := p) (w := w) (h := 2 ^ (d + 1)) (x := x) (y := y) (n := n) (hn := hn) (dn := dn) (rn := rn) (bn := bn) (tr := e.2.2.2.2) (f := f) (hf := hf) (Df := z.2.2.2.2.2.2.2.2.1) (Rf := z.2.2.2.2.2.2.2.2.2.1) (bf := z.2.2.2.2.2.2.2.2.2.2) (be := z.2.2.2.2.1) hw (by omega) (by omega) hd hx hy hn1 hH hdn hrn hbn hf1 hp hh
    have hz0 := hz
    obtain ⟨⟨z1, z2, z3, z4, z5, z6⟩, zw⟩ := hz0
    rw [eSq]
    have he2 := bv.1.2
    generalize hBB : best p w (2 ^ (d + 1)) x y = BB at bv be s1 s2 he2 ⊢
    have hz' : eRep 2048 z.1 z.2.2.2.2.2.1 z.2.1 z.2.2.2.2.2.2.1 (nI (e.2.2.2.2 + BB.2)) (eTr BB.2 e) := ⟨z1, z2, z3, z4, z5, rfl⟩
    by_cases g : 2 * 2 ^ (d + 1) ≤ least
    · obtain ⟨r, k1, k2, k3⟩ := l_leafM (kn := kn) (cn := cn) (bn := bn) (N := k) (x := x) (y := y) (P := z.2.2.2.2.2.2.2.1) (Ds := Df') (Rs := Rf') hw (show 0 < 2 ^ (d + 1) by omega) hd bv hkn hcn hbn hz' (show e.1 + 1 ≤ w * w by omega) (show e.2.2.1 + 25 ≤ 16000 by omega) s2
      rw [if_pos g]
      have g : nI (2 * 2 ^ (d + 1)) ≤ nI least := by rw [nJ_leT (by omega) (by omega)]; exact trivial
      refine ⟨1, r, by omega, fun N => ?_, k1, fun j hj => by rw [k2]⟩
      rw [mL_pop (by omega) hln hz hq, s1, Option.bind_some, if_pos g]
      unfold f_M_encode_J207
      rw [if_pos g]
      unfold f_M_encode_J230
      rw [if_pos rfl]
      exact k3 (fun a0 a1 a2 a3 a4 a5 a6 a7 a8 a9 a10 => mL n f hn hf kn cn ln dn rn bn (nI least) (nI bd) (nI (2 * w)) N (a0, a1, a2, a3, a4, a5, a6, a7, a8, a9, a10))
    · rw [if_neg g]
      have gF : ¬ nI (2 * 2 ^ (d + 1)) ≤ nI least := by rw [nJ_leF (by omega) (by omega)]; exact not_false
      by_cases g2 : BB.1.2.2.2.2 ≤ (bd : Int)
      · rw [if_pos g2]
        have g3 : lg_cmp (lI BB.1.2.2.2.2) (nI bd).toInt64 ≤ 0 := by rw [cmp_le0, nJ_long hbd, lI_leT g2 (by omega) (by omega)]; exact trivial
        obtain ⟨C1, x1, x2⟩ := l_M_tell (num := 0) (w := 1) (n := cn) (m := e.2.2.1) (by omega) (by omega) (by omega) z4 z5 (by omega)
        have hz2 : eRep 2048 z.1 z.2.2.2.2.2.1 (nI (e.2.2.1 + 1)) C1 (nI (e.2.2.2.2 + BB.2)) (eBit 0 (eTr BB.2 e)) := ⟨z1, z2, rfl, x2, apN_good 1 _ _ z5, rfl⟩
        obtain ⟨r, k1, k2, k3⟩ := l_leafM (kn := kn) (cn := cn) (bn := bn) (N := k) (x := x) (y := y) (P := z.2.2.2.2.2.2.2.1) (Ds := Df') (Rs := Rf') hw (show 0 < 2 ^ (d + 1) by omega) hd bv hkn hcn hbn hz2 (show e.1 + 1 ≤ w * w by omega) (show e.2.2.1 + 1 + 25 ≤ 16000 by omega) s2
        refine ⟨1, r, by omega, fun N => ?_, k1, fun j hj => by rw [k2]⟩
        rw [mL_pop (by omega) hln hz hq, s1, Option.bind_some, if_neg gF, if_pos g3]
        unfold f_M_encode_J207
        rw [if_neg gF, if_pos rfl]
        unfold f_M_encode_J226
        have x1' : f_M_tell 0 1 z.2.1 cn z.2.2.2.2.2.2.1 = some (nI (e.2.2.1 + 1), C1) := by rw [z3]; exact x1
        rw [x1', Option.bind_some, if_pos rfl]
        exact k3 (fun a0 a1 a2 a3 a4 a5 a6 a7 a8 a9 a10 => mL n f hn hf kn cn ln dn rn bn (nI least) (nI bd) (nI (2 * w)) N (a0, a1, a2, a3, a4, a5, a6, a7, a8, a9, a10))
      · rw [if_neg g2]
        have g3 : ¬ lg_cmp (lI BB.1.2.2.2.2) (nI bd).toInt64 ≤ 0 := by rw [cmp_le0, nJ_long hbd, lI_leF (by omega) (by omega) (by omega)]; exact not_false
        obtain ⟨C1, x1, x2⟩ := l_M_tell (num := 1) (w := 1) (n := cn) (m := e.2.2.1) (by omega) (by omega) (by omega) z4 z5 (by omega)
        obtain ⟨P', y1, y2, y3, y4, y5, y6⟩ := l_pileQ (k := k) (n := ln) (x := x) (y := y) (h := 2 * 2 ^ d) (f := z.2.2.2.2.2.2.2.1) (by omega) hln (by omega)
        have hz2 : mRep (z.1, nI (e.2.2.1 + 1), nI (e.2.2.2.2 + BB.2), nI (k + 4), lI BB.1.2.2.2.2, z.2.2.2.2.2.1, C1, P', Df', Rf', bf') (eBit 1 (eTr BB.2 e)) (k + 4) := ⟨⟨z1, z2, rfl, x2, apN_good 1 _ _ z5, rfl⟩, rfl⟩
        obtain ⟨c, r, k0, k1, k2, k3⟩ := l_mQ hw (ih (by omega)) (x := x) (y := y) (k := k) (by omega) (by omega) hz2 y2 y3 y4 y5 (show e.1 + 4 * 4 ^ d ≤ w * w by omega) (show e.2.2.1 + 1 + 26 * (4 * 4 ^ d) ≤ 15904 by omega) (by omega)
        refine ⟨c + 1, r, by omega, fun N => ?_, k2, fun j hj => (k3 j hj).trans (y6 j hj)⟩
        rw [show N + (c + 1) = N + c + 1 by omega, mL_pop (by omega) hln hz hq, s1, Option.bind_some, if_neg gF, if_neg g3]
        unfold f_M_encode_J207
        rw [if_neg gF, if_neg (by decide)]
        unfold f_M_encode_J226
        have x1' : f_M_tell 1 1 z.2.1 cn z.2.2.2.2.2.2.1 = some (nI (e.2.2.1 + 1), C1) := by rw [z3]; exact x1
        have y1' : f_M_pileQuarters (nI x) (nI y) (nI (2 * 2 ^ (d + 1))) (nI k) ln z.2.2.2.2.2.2.2.1 = some (nI (k + 4), P') := by rw [t2]; exact y1
        rw [x1', Option.bind_some, if_neg (by decide), y1', Option.bind_some]
        exact k1 N
end
end
section
/-! an encoding as a whole -/
theorem isSize_cases (x : Int32) : (f_F_isSize x = some 0 ∧ f_M_isSize x = some 0 ∧ ∀ j, 1 ≤ j → j ≤ 4 → x ≠ nI (2 ^ j)) ∨ (∃ j, 1 ≤ j ∧ j ≤ 4 ∧ x = nI (2 ^ j) ∧ f_F_isSize x = some 1 ∧ f_M_isSize x = some 1) := by
  unfold f_F_isSize f_M_isSize
  by_cases h1 : x = 2
  · right; exact ⟨1, by omega, by omega, h1, by rw [if_pos h1], by rw [if_pos h1]⟩
  · by_cases h2 : x = 4
    · right; exact ⟨2, by omega, by omega, h2, by rw [if_neg h1, if_pos h2], by rw [if_neg h1, if_pos h2]⟩
    · by_cases h3 : x = 8
      · right; exact ⟨3, by omega, by omega, h3, by rw [if_neg h1, if_neg h2, if_pos h3], by rw [if_neg h1, if_neg h2, if_pos h3]⟩
      · by_cases h4 : x = 16
        · right; exact ⟨4, by omega, by omega, h4, by rw [if_neg h1, if_neg h2, if_neg h3, if_pos h4], by rw [if_neg h1, if_neg h2, if_neg h3, if_pos h4]⟩
        · left
          refine ⟨by rw [if_neg h1, if_neg h2, if_neg h3, if_neg h4], by rw [if_neg h1, if_neg h2, if_neg h3, if_neg h4], fun j a b e => ?_⟩
          have hj : j = 1 ∨ j = 2 ∨ j = 3 ∨ j = 4 := by omega
          rcases hj with rfl | rfl | rfl | rfl
          · exact h1 e
          · exact h2 e
          · exact h3 e
          · exact h4 e
theorem size_le {j : Nat} (h : j ≤ 4) : 2 ^ j ≤ 16 := Nat.pow_le_pow_right (by omega) h
theorem size_ge {j : Nat} (h : 1 ≤ j) : 2 ≤ 2 ^ j := Nat.pow_le_pow_right (n := 2) (by omega) h
theorem l_F_sizeNumber {j : Nat} (h1 : 1 ≤ j) (h4 : j ≤ 4) : f_F_sizeNumber (nI (2 ^ j)) = some (nI j) := by
  unfold f_F_sizeNumber
  have key := lp_up (L := fun n' (_ : Unit) v => f_F_sizeNumber_2 (nI (2 ^ j)) n' (nI v)) (st := fun _ => ()) (b := j) (fin := nI j)
    (fun n' => by
      show f_F_sizeNumber_2 _ (n' + 1) _ = _
      rw [f_F_sizeNumber_2]
      by_cases c : j = 4
      · subst c; rw [if_pos (by decide)]
      · have sb := shl_bits j (by omega) 1 (by omega)
        rw [Nat.one_mul] at sb
        have := size_le h4
        rw [n1, sb]
        simp (disch := omega) only [n0, n1, n2, n3, n4, n5, n6, n7, n8, n10, n16, n40, n128, n255, n256, n1024, n2000, n2048, nJ_add, nJ_mul, nJ_sub, nJ_leT, nJ_leF, nJ_ltT, nJ_ltF, nJ_eqT, nJ_eqF, nJ_clamp, nJ_div, nM, iM_eqF, iM_eqF2, iM_leF, iM_ltF, iM_leT, iM_ltT, iM_add, iM_add0, natLeF, natLeT, natLtF, natLtT, natEqF, natEqT, if_true, if_false, ite_true, ite_false, false_or, or_false, or_self, Option.bind_some, ↓reduceIte])
    (fun n' v hv => by
      show f_F_sizeNumber_2 _ (n' + 1) _ = f_F_sizeNumber_2 _ n' _
      rw [f_F_sizeNumber_2]
      have b1 : 2 ^ v < 2 ^ j := Nat.pow_lt_pow_right (by omega) hv
      have b2 := size_le h4
      have sb := shl_bits v (by omega) 1 (by omega)
      rw [Nat.one_mul] at sb
      rw [n1, sb]
      simp (disch := omega) only [n0, n1, n2, n3, n4, n5, n6, n7, n8, n10, n16, n40, n128, n255, n256, n1024, n2000, n2048, nJ_add, nJ_mul, nJ_sub, nJ_leT, nJ_leF, nJ_ltT, nJ_ltF, nJ_eqT, nJ_eqF, nJ_clamp, nJ_div, nM, iM_eqF, iM_eqF2, iM_leF, iM_ltF, iM_leT, iM_ltT, iM_add, iM_add0, natLeF, natLeT, natLtF, natLtT, natEqF, natEqT, if_true, if_false, ite_true, ite_false, false_or, or_false, or_self, Option.bind_some, ↓reduceIte])
    FU 1 h1 (fu (by omega))
  have key : f_F_sizeNumber_2 (nI (2 ^ j)) FU 1 = _ := key
  rw [key]
  rfl
theorem four_two (d : Nat) : 2 * 2 ^ d * (2 * 2 ^ d) = 4 * 4 ^ d := by
  have : 4 ^ d = 2 ^ d * 2 ^ d := by rw [show (4 : Nat) = 2 * 2 from rfl, Nat.mul_pow]
  rw [this, Nat.mul_mul_mul_comm]
/-- what an encoding comes to -/
def encOf (p : Nat → Nat) (w d j bd : Nat) : ES := eQ p w (2 ^ j) bd d 0 0 (0, fun _ => 0, 3, apN j 3 (fun _ => 0) 0, 0)
theorem encOf_le {p : Nat → Nat} {w d j bd : Nat} (hw : w ≤ 16) : (encOf p w d j bd).1 ≤ 4 * 4 ^ d ∧ (encOf p w d j bd).2.2.1 ≤ 3 + 26 * (4 * 4 ^ d) := by
  unfold encOf eQ
  have l1 := eSq_le (p := p) (w := w) (least := 2 ^ j) (bd := bd) hw d 0 0 (0, fun _ => 0, 3, apN j 3 (fun _ => 0) 0, 0)
  generalize eSq p w (2 ^ j) bd d 0 0 (0, fun _ => 0, 3, apN j 3 (fun _ => 0) 0, 0) = s1 at l1 ⊢
  have l2 := eSq_le (p := p) (w := w) (least := 2 ^ j) (bd := bd) hw d (0 + 2 * 2 ^ d) 0 s1
  generalize eSq p w (2 ^ j) bd d (0 + 2 * 2 ^ d) 0 s1 = s2 at l2 ⊢
  have l3 := eSq_le (p := p) (w := w) (least := 2 ^ j) (bd := bd) hw d 0 (0 + 2 * 2 ^ d) s2
  generalize eSq p w (2 ^ j) bd d 0 (0 + 2 * 2 ^ d) s2 = s3 at l3 ⊢
  have l4 := eSq_le (p := p) (w := w) (least := 2 ^ j) (bd := bd) hw d (0 + 2 * 2 ^ d) (0 + 2 * 2 ^ d) s3
  dsimp only at l1
  omega
theorem bGood0 (e : Nat → Nat) : bGood e 0 := ⟨fun i hi => absurd hi (by omega), fun h => absurd rfl h⟩
theorem bRep0 (f : Nat → Int32) (e : Nat → Nat) : bRep f e 0 := fun i hi => absurd hi (by omega)
section
variable {n : Nat} {f : Nat → Int32} {hn : Nat} {hf : Nat → Int32} {wn dn qn rn kn cn ln bn : Nat} {p : Nat → Nat} {w d j bd : Nat}
theorem l_F_encode_ok {hs a1 a2 a3 a4 a5 a6 a7 a8 a9 a10 a11 b1 b2 b3 b4 b5 kc cf : Int32} {W Df Q R K C : Nat → Int32} (hwd : w = 2 * 2 ^ d) (hw : w ≤ 16) (hj1 : 1 ≤ j) (hj4 : j ≤ 4) (hjw : 2 ^ j ≤ w) (hbd : bd < 2147483648)
    (hn1 : 2 * w * (2 * w) ≤ n) (hH : w * w ≤ hn) (hH2 : hn < 2147483648) (hwn : w * w ≤ wn) (hw2 : wn < 2147483648) (hdn : w * w ≤ dn) (hd2 : dn < 2147483648) (hqn : 4 ≤ qn) (hrn : 8 ≤ rn) (hkn : kn = 8 * (w * w)) (hcn : cn = 4 * (w * w))
    (hf1 : ∀ k, k < 2 * w * (2 * w) → f k = nI (p k)) (hp : ∀ k, k < 2 * w * (2 * w) → p k ≤ 255) :
    ∃ r, f_F_encode (nI (2 ^ j)) (nI bd) (nI (2 * w)) (nI (2 * w)) n f (nI (2 * w)) hs hn hf a1 a2 a3 a4 a5 a6 a7 a8 a9 a10 a11 wn W dn Df qn Q rn R b1 b2 b3 b4 b5 kc kn K cf cn C = some (.inr r) ∧ r.1 = nI (encOf p w d j bd).1 ∧ eRep 0 r.2.2.2.2.2.2.2.2.2.2.2.2.2.2.2.2.2.2.2.2.2.2.2.1 r.2.2.2.2.2.2.2.2.2.2.2.2.2.2.2.2.2.2.2.2.2.2.2.2.1 r.2.2.2.2.2.2.2.2.2.2.2.2.2.2.2.2.2.2.2.2.2.2.2.2.2.1 r.2.2.2.2.2.2.2.2.2.2.2.2.2.2.2.2.2.2.2.2.2.2.2.2.2.2.2 r.2.2.2.2.2.2.2.2.1 (encOf p w d j bd) := by
  have hww : w * w ≤ 16 * 16 := Nat.mul_le_mul hw hw
  have e4 : w * w = 4 * 4 ^ d := by rw [hwd]; exact four_two d
  have f1 := four_pos d
  have hdd : d ≤ 5 := by
    by_cases c : d ≤ 5
    · exact c
    · have : 2 ^ 6 ≤ 2 ^ d := Nat.pow_le_pow_right (by omega) (by omega)
      omega
  have hs2 := size_ge hj1
  have hs4 := size_le hj4
  have h0 : f_F_isSize (nI (2 ^ j)) = some 1 := by
    rcases isSize_cases (nI (2 ^ j)) with ⟨_, _, h⟩ | ⟨_, _, _, _, h, _⟩
    · exact absurd rfl (h j hj1 hj4)
    · exact h
  have hv : nI (2 * w) / 2 = nI w := by rw [n2, nJ_div (by omega) (by omega)]; congr 1; omega
  have g1 : nI (2 ^ j) ≤ nI w := by rw [nJ_leT hjw (by omega)]; exact trivial
  have g2 : (0 : Int32) ≤ nI bd := by rw [n0, nJ_leT (by omega) hbd]; exact trivial
  have hhalf := l_G_half (s := 2 * w) (w := w) (m := hn) (n := n) (q := 2 * w) (f := f) (g := hf) (p := p) (G := hs) (by omega) (by omega) hn1 hH (by omega) (by omega) hf1 hp
  obtain ⟨C1, x1, x2⟩ := l_B_append (num := j) (w := 3) (n := cn) (m := 0) (f := C) (e := fun _ => 0) (by omega) (by omega) (by omega) (bRep0 _ _) (bGood0 _) (by omega)
  have hSq := l_cSq (n := n) (f := f) (hn := hn) (hf := wr hf (fun k => nI (hlf p (2 * w) k)) (w * w)) (wn := wn) (dn := dn) (qn := qn) (rn := rn) (kn := kn) (cn := cn) (p := p) (w := w) (least := 2 ^ j) (bd := bd) hw hs2 hs4 hbd hn1 hH hH2 hwn hw2 hdn hd2 hqn hrn hkn hcn hf1 hp (fun k hk => wr_lt hk) d (by omega) 5 hdd
  have hz : zRep (a1, a2, a3, a4, a5, 0, a7, a8, a9, a10, a11, W, Df, Q, R, b1, b2, b3, b4, b5, 0, K, nI (0 + 3), C1) (0, fun _ => 0, 3, apN j 3 (fun _ => 0) 0, 0) := ⟨rfl, fun k hk => absurd hk (by omega), rfl, x2, apN_good 3 _ 0 (bGood0 _), rfl⟩
  obtain ⟨r, k1, k2⟩ := l_cQt hw hSq (x := 0) (y := 0) (by omega) (by omega) (by omega) hz (show 0 + 4 * 4 ^ d ≤ w * w by omega) (show 3 + 26 * (4 * 4 ^ d) ≤ 32 * (w * w) + 4 by omega)
  have k3 : r.2.2.2.2.2.2.2.2.2.2.2.2.2.2.2.2.2.2.2.2.1 = nI (encOf p w d j bd).1 := k2.1
  refine ⟨(r.2.2.2.2.2.2.2.2.2.2.2.2.2.2.2.2.2.2.2.2.1, nI w, wr hf (fun k => nI (hlf p (2 * w) k)) (w * w), r.1, r.2.1, r.2.2.1, r.2.2.2.1, r.2.2.2.2.1, r.2.2.2.2.2.1, r.2.2.2.2.2.2.1, r.2.2.2.2.2.2.2.1, r.2.2.2.2.2.2.2.2.1, r.2.2.2.2.2.2.2.2.2.1, r.2.2.2.2.2.2.2.2.2.2.1, r.2.2.2.2.2.2.2.2.2.2.2.1, r.2.2.2.2.2.2.2.2.2.2.2.2.1, r.2.2.2.2.2.2.2.2.2.2.2.2.2.1, r.2.2.2.2.2.2.2.2.2.2.2.2.2.2.1, r.2.2.2.2.2.2.2.2.2.2.2.2.2.2.2.1, r.2.2.2.2.2.2.2.2.2.2.2.2.2.2.2.2.1, r.2.2.2.2.2.2.2.2.2.2.2.2.2.2.2.2.2.1, r.2.2.2.2.2.2.2.2.2.2.2.2.2.2.2.2.2.2.1, r.2.2.2.2.2.2.2.2.2.2.2.2.2.2.2.2.2.2.2.1, r.2.2.2.2.2.2.2.2.2.2.2.2.2.2.2.2.2.2.2.2.1, r.2.2.2.2.2.2.2.2.2.2.2.2.2.2.2.2.2.2.2.2.2.1, r.2.2.2.2.2.2.2.2.2.2.2.2.2.2.2.2.2.2.2.2.2.2.1, 0, r.2.2.2.2.2.2.2.2.2.2.2.2.2.2.2.2.2.2.2.2.2.2.2), ?_, k3, k2⟩
  unfold cQt at k1
  rw [← hwd] at k1
  dsimp only at k1
  unfold f_F_encode
  rw [h0, Option.bind_some, if_neg (by decide), hv, if_pos g1, if_pos g2]
  unfold f_K_wipe f_B_wipe f_S_start
  rw [hhalf]
  simp only [Option.bind_some]
  rw [l_F_sizeNumber hj1 hj4, Option.bind_some]
  have x1' : f_B_append (nI j) 3 0 cn C = some (nI (0 + 3), C1) := x1
  rw [x1', Option.bind_some]
  have k1' := k1
  rw [← n0] at k1'
  dsimp only
  rw [k1']
  rfl
theorem l_F_encode_bad {hs a1 a2 a3 a4 a5 a6 a7 a8 a9 a10 a11 b1 b2 b3 b4 b5 kc cf hm u v : Int32} {W Df Q R K C : Nat → Int32} (hw : w ≤ 16) (hb : ¬ ∃ j bd : Nat, 1 ≤ j ∧ j ≤ 4 ∧ 2 ^ j ≤ w ∧ bd < 2147483648 ∧ u = nI (2 ^ j) ∧ v = nI bd) :
    f_F_encode u v (nI (2 * w)) (nI (2 * w)) n f hm hs hn hf a1 a2 a3 a4 a5 a6 a7 a8 a9 a10 a11 wn W dn Df qn Q rn R b1 b2 b3 b4 b5 kc kn K cf cn C = some (.inl 2) := by
  have hv : nI (2 * w) / 2 = nI w := by rw [n2, nJ_div (by omega) (by omega)]; congr 1; omega
  unfold f_F_encode
  rcases isSize_cases u with ⟨h, _, _⟩ | ⟨j, j1, j4, hu, h, _⟩
  · rw [h, Option.bind_some, if_pos rfl]
  · have := size_le j4
    rw [h, Option.bind_some, if_neg (by decide), hv, hu]
    by_cases c : 2 ^ j ≤ w
    · have g1 : nI (2 ^ j) ≤ nI w := by rw [nJ_leT c (by omega)]; exact trivial
      rw [if_pos g1]
      rcases nJ_case v with c2 | ⟨b, b1, b2⟩
      · have : ¬ (0 : Int32) ≤ v := Int32.not_le.mpr c2
        rw [if_neg this]
      · exact absurd ⟨j, b, j1, j4, c, b1, hu, b2⟩ hb
    · have g1 : ¬ nI (2 ^ j) ≤ nI w := by rw [nJ_leF (by omega) (by omega)]; exact not_false
      rw [if_neg g1]
theorem mL_end {N : Nat} {l b S : Int32} {z : Z11} (h : z.2.2.2.1 = nI 0) : mL n f hn hf kn cn ln dn rn bn l b S (N + 1) z = some z := by
  unfold mL
  rw [f_M_encode_118, h, if_pos (by decide)]
  rw [← h]
theorem l_M_takeFound {c n : Nat} {f : Nat → Int32} (hc : c ≤ 256) (hn : n = 4096) : f_M_takeFound (nI c) n f = some (nI c, wr f (fun k => f (2048 + k)) (8 * c)) := by
  subst hn
  unfold f_M_takeFound
  have key := lp_up (L := fun n' (g : Nat → Int32) v => f_M_takeFound_2 (nI c) 4096 n' (nI v) g) (st := fun v => wr f (fun k => f (2048 + k)) v) (b := 8 * c) (fin := (nI (8 * c), wr f (fun k => f (2048 + k)) (8 * c)))
    (fun n' => by
      show f_M_takeFound_2 _ _ (n' + 1) _ _ = _
      rw [f_M_takeFound_2]
      simp (disch := omega) only [n0, n1, n2, n3, n4, n5, n6, n7, n8, n10, n16, n40, n128, n255, n256, n1024, n2000, n2048, nJ_add, nJ_mul, nJ_sub, nJ_leT, nJ_leF, nJ_ltT, nJ_ltF, nJ_eqT, nJ_eqF, nJ_clamp, nJ_div, nM, iM_eqF, iM_eqF2, iM_leF, iM_ltF, iM_leT, iM_ltT, iM_add, iM_add0, natLeF, natLeT, natLtF, natLtT, natEqF, natEqT, if_true, if_false, ite_true, ite_false, false_or, or_false, or_self, Option.bind_some, ↓reduceIte])
    (fun n' v hv => by
      show f_M_takeFound_2 _ _ (n' + 1) _ _ = f_M_takeFound_2 _ _ n' _ _
      rw [f_M_takeFound_2]
      simp (disch := omega) only [n0, n1, n2, n3, n4, n5, n6, n7, n8, n10, n16, n40, n128, n255, n256, n1024, n2000, n2048, nJ_add, nJ_mul, nJ_sub, nJ_leT, nJ_leF, nJ_ltT, nJ_ltF, nJ_eqT, nJ_eqF, nJ_clamp, nJ_div, nM, iM_eqF, iM_eqF2, iM_leF, iM_ltF, iM_leT, iM_ltT, iM_add, iM_add0, natLeF, natLeT, natLtF, natLtT, natEqF, natEqT, if_true, if_false, ite_true, ite_false, false_or, or_false, or_self, Option.bind_some, ↓reduceIte]
      rw [wr_ge (show v ≤ 2048 + v by omega), wrS])
    FU 0 (Nat.zero_le _) (fu (by omega))
  have key : f_M_takeFound_2 (nI c) 4096 FU 0 (wr f (fun k => f (2048 + k)) 0) = _ := key
  rw [wr0] at key
  rw [key]
  rfl
theorem l_M_encode_ok {cd my fo eb tr wt : Int32} {be : Int64} {K C P Ds Rs bf : Nat → Int32} (hwd : w = 2 * 2 ^ d) (hw : w ≤ 16) (hj1 : 1 ≤ j) (hj4 : j ≤ 4) (hjw : 2 ^ j ≤ w) (hbd : bd < 2147483648)
    (hn1 : 2 * w * (2 * w) ≤ n) (hH : w * w ≤ hn) (hdn : 256 ≤ dn) (hrn : 256 ≤ rn) (hbn : 4 ≤ bn) (hkn : kn = 4096) (hcn : cn = 2000) (hln : ln = 96)
    (hf1 : ∀ k, k < 2 * w * (2 * w) → f k = nI (p k)) (hp : ∀ k, k < 2 * w * (2 * w) → p k ≤ 255) :
    ∃ r, f_M_encode (nI (2 ^ j)) (nI bd) cd (nI (2 * w)) my fo eb tr wt be n f hn hf kn K cn C ln P dn Ds rn Rs bn bf = some r ∧ r.1 = nI (encOf p w d j bd).1 ∧ r.2.1 = 0 ∧ eRep 0 r.2.2.1 r.2.2.2.2.2.2.2.2.2.1 r.2.2.2.2.1 r.2.2.2.2.2.2.2.2.2.2.1 r.2.2.2.2.2.1 (encOf p w d j bd) := by
  have hww : w * w ≤ 16 * 16 := Nat.mul_le_mul hw hw
  have e4 : w * w = 4 * 4 ^ d := by rw [hwd]; exact four_two d
  have f1 := four_pos d
  have t1 := two_pos' d
  have hdd : d ≤ 3 := by
    by_cases c : d ≤ 3
    · exact c
    · have : 2 ^ 4 ≤ 2 ^ d := Nat.pow_le_pow_right (by omega) (by omega)
      omega
  have hs2 := size_ge hj1
  have hs4 := size_le hj4
  have h0 : f_M_isSize (nI (2 ^ j)) = some 1 := by
    rcases isSize_cases (nI (2 ^ j)) with ⟨_, _, h⟩ | ⟨_, _, _, _, _, h⟩
    · exact absurd rfl (h j hj1 hj4)
    · exact h
  have g1 : ¬ nI (2 * w) < 2 * nI (2 ^ j) := by rw [n2, nJ_mul, nJ_ltF (by omega) (by omega)]; exact not_false
  have g2 : ¬ nI bd < 0 := by rw [n0, nJ_ltF (by omega) (by omega)]; exact not_false
  have hhalf := l_M_halve (s := 2 * w) (w := w) (m := hn) (n := n) (f := f) (g := hf) (p := p) (by omega) (by omega) hn1 hH hf1 hp
  obtain ⟨C1, x1, x2⟩ := l_M_tell (num := j) (w := 3) (n := cn) (m := 0) (f := C) (e := fun _ => 0) (by omega) (by omega) (by omega) (bRep0 _ _) (bGood0 _) (by omega)
  obtain ⟨P', y1, y2, y3, y4, y5, _⟩ := l_pileQ (k := 0) (n := ln) (x := 0) (y := 0) (h := 2 * 2 ^ d) (f := P) (by omega) (by omega) (by omega)
  have hSq := l_mL (n := n) (f := f) (hn := hn) (hf := wr hf (fun k => nI (hlf p (2 * w) k)) (w * w)) (kn := kn) (cn := cn) (ln := ln) (dn := dn) (rn := rn) (bn := bn) (p := p) (w := w) (least := 2 ^ j) (bd := bd) hw hs2 hs4 hbd hn1 hH hdn hrn hbn hkn hcn (by omega) hf1 hp (fun k hk => wr_lt hk) d (by omega)
  have hz : mRep (0, nI (0 + 3), 0, nI (0 + 4), be, K, C1, P', Ds, Rs, bf) (0, fun _ => 0, 3, apN j 3 (fun _ => 0) 0, 0) (0 + 4) := ⟨⟨rfl, fun k hk => absurd hk (by omega), rfl, x2, apN_good 3 _ 0 (bGood0 _), rfl⟩, rfl⟩
  obtain ⟨c, r, k0, k1, k2, _⟩ := l_mQ hw hSq (x := 0) (y := 0) (k := 0) (by omega) (by omega) hz y2 y3 y4 y5 (show 0 + 4 * 4 ^ d ≤ w * w by omega) (show 3 + 26 * (4 * 4 ^ d) ≤ 15904 by omega) (by omega)
  have hFU : FU = (FU - c - 1) + 1 + c := by unfold FU; omega
  have k4 : mL n f hn (wr hf (fun k => nI (hlf p (2 * w) k)) (w * w)) kn cn ln dn rn bn (nI (2 ^ j)) (nI bd) (nI (2 * w)) FU (0, nI (0 + 3), 0, nI (0 + 4), be, K, C1, P', Ds, Rs, bf) = some r := by
    rw [hFU, k1]; exact mL_end k2.2
  have hle := encOf_le (p := p) (d := d) (j := j) (bd := bd) hw
  obtain ⟨⟨r1, r2, r3, r4, r5, r6⟩, r7⟩ := k2
  have hq : (encOf p w d j bd) = eQ p w (2 ^ j) bd d 0 0 (0, fun _ => 0, 3, apN j 3 (fun _ => 0) 0, 0) := rfl
  rw [← hq] at r1 r2 r3 r4 r5 r6
  have tf := l_M_takeFound (c := (encOf p w d j bd).1) (n := kn) (f := r.2.2.2.2.2.1) (by omega) hkn
  refine ⟨(nI (encOf p w d j bd).1, 0, nI (encOf p w d j bd).1, r.1, r.2.1, r.2.2.1, r.2.2.2.1, r.2.2.2.2.1, wr hf (fun k => nI (hlf p (2 * w) k)) (w * w), wr r.2.2.2.2.2.1 (fun k => r.2.2.2.2.2.1 (2048 + k)) (8 * (encOf p w d j bd).1), r.2.2.2.2.2.2.1, r.2.2.2.2.2.2.2.1, r.2.2.2.2.2.2.2.2.1, r.2.2.2.2.2.2.2.2.2.1, r.2.2.2.2.2.2.2.2.2.2), ?_, rfl, rfl, rfl, ?_, r3, r4, r5, r6⟩
  · have y1' : f_M_pileQuarters 0 0 (nI (2 * w)) 0 ln P = some (nI (0 + 4), P') := by rw [hwd]; exact y1
    have x1' : f_M_tell (nI j) 3 0 cn C = some (nI (0 + 3), C1) := x1
    unfold mL at k4
    dsimp only at k4
    have J : f_M_encode_J104 (nI (2 ^ j)) (nI bd) 0 (nI (2 * w)) my 0 0 0 0 be n f hn (wr hf (fun k => nI (hlf p (2 * w) k)) (w * w)) kn K cn C ln P dn Ds rn Rs bn bf (nI j) = some (nI (encOf p w d j bd).1, 0, nI (encOf p w d j bd).1, r.1, r.2.1, r.2.2.1, r.2.2.2.1, r.2.2.2.2.1, wr hf (fun k => nI (hlf p (2 * w) k)) (w * w), wr r.2.2.2.2.2.1 (fun k => r.2.2.2.2.2.1 (2048 + k)) (8 * (encOf p w d j bd).1), r.2.2.2.2.2.2.1, r.2.2.2.2.2.2.2.1, r.2.2.2.2.2.2.2.2.1, r.2.2.2.2.2.2.2.2.2.1, r.2.2.2.2.2.2.2.2.2.2) := by
      unfold f_M_encode_J104
      rw [x1', Option.bind_some, y1', Option.bind_some]
      dsimp only
      rw [k4, Option.bind_some, r1, tf]
      rfl
    unfold f_M_encode
    rw [h0, Option.bind_some, if_neg (by decide), if_neg g1, if_neg g2]
    unfold f_M_encode_J27
    rw [if_pos (by decide), hhalf, Option.bind_some]
    have hj : j = 1 ∨ j = 2 ∨ j = 3 ∨ j = 4 := by omega
    rcases hj with rfl | rfl | rfl | rfl
    · rw [if_pos (by decide)]; exact J
    · rw [if_neg (by decide), if_pos (by decide)]; exact J
    · rw [if_neg (by decide), if_neg (by decide), if_pos (by decide)]; exact J
    · rw [if_neg (by decide), if_neg (by decide), if_neg (by decide)]; exact J
  · intro k hk
    dsimp only
    rw [Nat.zero_add, wr_lt hk]
    exact r2 k hk
theorem l_M_encode_bad {cd my fo eb tr wt u v : Int32} {be : Int64} {K C P Ds Rs bf : Nat → Int32} (hw : w ≤ 16) (hb : ¬ ∃ j bd : Nat, 1 ≤ j ∧ j ≤ 4 ∧ 2 ^ j ≤ w ∧ bd < 2147483648 ∧ u = nI (2 ^ j) ∧ v = nI bd) :
    f_M_encode u v cd (nI (2 * w)) my fo eb tr wt be n f hn hf kn K cn C ln P dn Ds rn Rs bn bf = some (0, 1, my, fo, eb, tr, wt, be, hf, K, C, P, Ds, Rs, bf) := by
  have J : f_M_encode_J27 u v cd (nI (2 * w)) my fo eb tr wt be n f hn hf kn K cn C ln P dn Ds rn Rs bn bf 1 = some (0, 1, my, fo, eb, tr, wt, be, hf, K, C, P, Ds, Rs, bf) := by
    unfold f_M_encode_J27
    rw [if_neg (by decide)]
  unfold f_M_encode
  rcases isSize_cases u with ⟨_, h, _⟩ | ⟨j, j1, j4, hu, _, h⟩
  · rw [h, Option.bind_some, if_pos rfl]; exact J
  · have := size_le j4
    rw [h, Option.bind_some, if_neg (by decide)]
    by_cases c : 2 ^ j ≤ w
    · have g1 : ¬ nI (2 * w) < 2 * u := by rw [hu, n2, nJ_mul, nJ_ltF (by omega) (by omega)]; exact not_false
      rw [if_neg g1]
      rcases nJ_case v with c2 | ⟨b, b1, b2⟩
      · rw [if_pos c2]; exact J
      · exact absurd ⟨j, b, j1, j4, c, b1, hu, b2⟩ hb
    · have g1 : nI (2 * w) < 2 * u := by rw [hu, n2, nJ_mul, nJ_ltT (by omega) (by omega)]; exact trivial
      rw [if_pos g1]; exact J
end
end
section
/-! reading bits -/
/-- bit i of bytes g, the highest of a byte first -/
def bt (g : Nat → Nat) (i : Nat) : Nat := g (i / 8) / 2 ^ (7 - i % 8) % 2
/-- the number of k bits from place t -/
def tk (g : Nat → Nat) (t : Nat) : Nat → Nat
  | 0 => 0
  | k + 1 => 2 * tk g t k + bt g (t + k)
def fRep (f : Nat → Int32) (g : Nat → Nat) (N : Nat) : Prop := ∀ k, k < N → f k = nI (g k) ∧ g k ≤ 255
theorem bt_lt (g : Nat → Nat) (i : Nat) : bt g i < 2 := Nat.mod_lt _ (by omega)
theorem tk_lt (g : Nat → Nat) (t k : Nat) : tk g t k < 2 ^ k := by
  induction k with
  | zero => exact Nat.zero_lt_one
  | succ k ih =>
    have := bt_lt g (t + k)
    rw [tk, Nat.pow_succ]
    omega
theorem tk_lt10 (g : Nat → Nat) (t : Nat) {k : Nat} (h : k ≤ 10) : tk g t k < 1024 := Nat.lt_of_lt_of_le (tk_lt g t k) (Nat.pow_le_pow_right (n := 2) (by omega) h : 2 ^ k ≤ 2 ^ 10)
section
variable {g : Nat → Nat} {f : Nat → Int32} {N n : Nat}
theorem l_B_bitAt {i : Nat} (hi : i < 8 * N) (hN : N ≤ n) (hn : n ≤ 2000) (hr : fRep f g N) : f_B_bitAt (nI i) n f = some (nI (bt g i)) := by
  obtain ⟨h1, h2⟩ := hr (i / 8) (by omega)
  have em : i - i / 8 * 8 = i % 8 := modSub i 8
  have sb := shr_bits (7 - i % 8) (by omega) (g (i / 8)) (by omega)
  unfold f_B_bitAt f_B_byteOf bt
  simp (disch := omega) only [n0, n1, n2, n3, n4, n5, n6, n7, n8, n10, n16, n40, n128, n255, n256, n1024, n2000, n2048, nJ_add, nJ_mul, nJ_sub, nJ_leT, nJ_leF, nJ_ltT, nJ_ltF, nJ_eqT, nJ_eqF, nJ_clamp, nJ_div, nM, iM_eqF, iM_eqF2, iM_leF, iM_ltF, iM_leT, iM_ltT, iM_add, iM_add0, natLeF, natLeT, natLtF, natLtT, natEqF, natEqT, if_true, if_false, ite_true, ite_false, false_or, or_false, or_self, Option.bind_some, ↓reduceIte, em, h1]
  rw [← sb]
theorem l_M_bitAt {i : Nat} (hi : i < 8 * N) (hN : N ≤ n) (hn : n ≤ 2000) (hr : fRep f g N) : f_M_bitAt (nI i) n f = some (nI (bt g i)) := by
  obtain ⟨h1, h2⟩ := hr (i / 8) (by omega)
  have em : i - i / 8 * 8 = i % 8 := modSub i 8
  have sb := shr_bits (7 - i % 8) (by omega) (g (i / 8)) (by omega)
  unfold f_M_bitAt bt
  simp (disch := omega) only [n0, n1, n2, n3, n4, n5, n6, n7, n8, n10, n16, n40, n128, n255, n256, n1024, n2000, n2048, nJ_add, nJ_mul, nJ_sub, nJ_leT, nJ_leF, nJ_ltT, nJ_ltF, nJ_eqT, nJ_eqF, nJ_clamp, nJ_div, nM, iM_eqF, iM_eqF2, iM_leF, iM_ltF, iM_leT, iM_ltT, iM_add, iM_add0, natLeF, natLeT, natLtF, natLtT, natEqF, natEqT, if_true, if_false, ite_true, ite_false, false_or, or_false, or_self, Option.bind_some, ↓reduceIte, em, h1]
  rw [← sb]
theorem l_B_take_T {t k : Nat} (hk : k ≤ 10) (ht : t + k ≤ 8 * N) (hN : N ≤ n) (hn : n ≤ 2000) (hr : fRep f g N) : f_B_take (nI k) (nI (8 * N)) (nI t) n f = some (nI (tk g t k), nI (t + k)) := by
  unfold f_B_take
  have c : nI k ≤ nI (8 * N) - nI t := by rw [nJ_sub (by omega), nJ_leT (by omega) (by omega)]; exact trivial
  have key := lp_up (L := fun n' (a : Nat) v => f_B_take_19 (nI k) (nI t) n f n' (nI a) (nI v)) (st := fun v => tk g t v) (b := k) (fin := (nI (tk g t k), nI k))
    (fun n' => by
      show f_B_take_19 _ _ _ _ (n' + 1) _ _ = _
      rw [f_B_take_19]
      simp (disch := omega) only [n0, n1, n2, n3, n4, n5, n6, n7, n8, n10, n16, n40, n128, n255, n256, n1024, n2000, n2048, nJ_add, nJ_mul, nJ_sub, nJ_leT, nJ_leF, nJ_ltT, nJ_ltF, nJ_eqT, nJ_eqF, nJ_clamp, nJ_div, nM, iM_eqF, iM_eqF2, iM_leF, iM_ltF, iM_leT, iM_ltT, iM_add, iM_add0, natLeF, natLeT, natLtF, natLtT, natEqF, natEqT, if_true, if_false, ite_true, ite_false, false_or, or_false, or_self, Option.bind_some, ↓reduceIte])
    (fun n' v hv => by
      show f_B_take_19 _ _ _ _ (n' + 1) _ _ = f_B_take_19 _ _ _ _ n' _ _
      have lb := l_B_bitAt (i := t + v) (by omega) hN hn hr
      rw [f_B_take_19, nJ_add, lb]
      simp (disch := omega) only [n0, n1, n2, n3, n4, n5, n6, n7, n8, n10, n16, n40, n128, n255, n256, n1024, n2000, n2048, nJ_add, nJ_mul, nJ_sub, nJ_leT, nJ_leF, nJ_ltT, nJ_ltF, nJ_eqT, nJ_eqF, nJ_clamp, nJ_div, nM, iM_eqF, iM_eqF2, iM_leF, iM_ltF, iM_leT, iM_ltT, iM_add, iM_add0, natLeF, natLeT, natLtF, natLtT, natEqF, natEqT, if_true, if_false, ite_true, ite_false, false_or, or_false, or_self, Option.bind_some, ↓reduceIte, tk])
    FU 0 (Nat.zero_le _) (fu (by omega))
  have key : f_B_take_19 (nI k) (nI t) n f FU 0 0 = _ := key
  rw [if_pos c, key]
  simp (disch := omega) only [n0, n1, n2, n3, n4, n5, n6, n7, n8, n10, n16, n40, n128, n255, n256, n1024, n2000, n2048, nJ_add, nJ_mul, nJ_sub, nJ_leT, nJ_leF, nJ_ltT, nJ_ltF, nJ_eqT, nJ_eqF, nJ_clamp, nJ_div, nM, iM_eqF, iM_eqF2, iM_leF, iM_ltF, iM_leT, iM_ltT, iM_add, iM_add0, natLeF, natLeT, natLtF, natLtT, natEqF, natEqT, if_true, if_false, ite_true, ite_false, false_or, or_false, or_self, Option.bind_some, ↓reduceIte]
theorem l_B_take_F {t k : Nat} (hk : k ≤ 10) (ht : ¬ t + k ≤ 8 * N) (ht2 : t ≤ 8 * N) (hN : N ≤ n) (hn : n ≤ 2000) : f_B_take (nI k) (nI (8 * N)) (nI t) n f = some (iM, nI t) := by
  unfold f_B_take
  have c : ¬ nI k ≤ nI (8 * N) - nI t := by rw [nJ_sub (by omega), nJ_leF (by omega) (by omega)]; exact not_false
  rw [if_neg c]
  rfl
/-- the reference: reading when nothing is amiss, and bits are enough -/
theorem l_M_take_T {t k : Nat} (hk : k ≤ 10) (ht : t + k ≤ 8 * N) (hN : N ≤ n) (hn : n ≤ 2000) (hr : fRep f g N) : f_M_take (nI k) (nI N) (nI t) iM n f = some (nI (tk g t k), nI (t + k), iM) := by
  unfold f_M_take
  have key := lp_up (L := fun n' (a : Nat × Nat) v => f_M_take_4 (nI k) (nI N) iM n f n' (nI a.1) (nI v) (nI a.2)) (st := fun v => (tk g t v, t + v)) (b := k) (fin := .inr (nI (tk g t k), nI k, nI (t + k)))
    (fun n' => by
      show f_M_take_4 _ _ _ _ _ (n' + 1) _ _ _ = _
      rw [f_M_take_4]
      simp (disch := omega) only [n0, n1, n2, n3, n4, n5, n6, n7, n8, n10, n16, n40, n128, n255, n256, n1024, n2000, n2048, nJ_add, nJ_mul, nJ_sub, nJ_leT, nJ_leF, nJ_ltT, nJ_ltF, nJ_eqT, nJ_eqF, nJ_clamp, nJ_div, nM, iM_eqF, iM_eqF2, iM_leF, iM_ltF, iM_leT, iM_ltT, iM_add, iM_add0, natLeF, natLeT, natLtF, natLtT, natEqF, natEqT, if_true, if_false, ite_true, ite_false, false_or, or_false, or_self, Option.bind_some, ↓reduceIte])
    (fun n' v hv => by
      show f_M_take_4 _ _ _ _ _ (n' + 1) _ _ _ = f_M_take_4 _ _ _ _ _ n' _ _ _
      have lb := l_M_bitAt (i := t + v) (by omega) hN hn hr
      rw [f_M_take_4, lb]
      simp (disch := omega) only [n0, n1, n2, n3, n4, n5, n6, n7, n8, n10, n16, n40, n128, n255, n256, n1024, n2000, n2048, nJ_add, nJ_mul, nJ_sub, nJ_leT, nJ_leF, nJ_ltT, nJ_ltF, nJ_eqT, nJ_eqF, nJ_clamp, nJ_div, nM, iM_eqF, iM_eqF2, iM_leF, iM_ltF, iM_leT, iM_ltT, iM_add, iM_add0, natLeF, natLeT, natLtF, natLtT, natEqF, natEqT, if_true, if_false, ite_true, ite_false, false_or, or_false, or_self, Option.bind_some, ↓reduceIte, tk]
      rw [show t + v + 1 = t + (v + 1) by omega])
    FU 0 (Nat.zero_le _) (fu (by omega))
  have key : f_M_take_4 (nI k) (nI N) iM n f FU 0 0 (nI t) = _ := key
  rw [key]
  rfl
/-- the reference: reading when bits lack -/
theorem l_M_take_F {t k : Nat} (hk : k ≤ 10) (ht : ¬ t + k ≤ 8 * N) (ht2 : t ≤ 8 * N) (hN : N ≤ n) (hn : n ≤ 2000) (hr : fRep f g N) : f_M_take (nI k) (nI N) (nI t) iM n f = some (0, nI (8 * N), 3) := by
  unfold f_M_take
  obtain ⟨b, hb⟩ : ∃ b, t + b = 8 * N := ⟨8 * N - t, by omega⟩
  have key := lp_up (L := fun n' (a : Nat × Nat) v => f_M_take_4 (nI k) (nI N) iM n f n' (nI a.1) (nI v) (nI a.2)) (st := fun v => (tk g t v, t + v)) (b := b) (fin := .inl (nI (tk g t b), nI b, nI (8 * N)))
    (fun n' => by
      show f_M_take_4 _ _ _ _ _ (n' + 1) _ _ _ = _
      rw [f_M_take_4]
      simp (disch := omega) only [n0, n1, n2, n3, n4, n5, n6, n7, n8, n10, n16, n40, n128, n255, n256, n1024, n2000, n2048, nJ_add, nJ_mul, nJ_sub, nJ_leT, nJ_leF, nJ_ltT, nJ_ltF, nJ_eqT, nJ_eqF, nJ_clamp, nJ_div, nM, iM_eqF, iM_eqF2, iM_leF, iM_ltF, iM_leT, iM_ltT, iM_add, iM_add0, natLeF, natLeT, natLtF, natLtT, natEqF, natEqT, if_true, if_false, ite_true, ite_false, false_or, or_false, or_self, Option.bind_some, ↓reduceIte, hb])
    (fun n' v hv => by
      show f_M_take_4 _ _ _ _ _ (n' + 1) _ _ _ = f_M_take_4 _ _ _ _ _ n' _ _ _
      have lb := l_M_bitAt (i := t + v) (by omega) hN hn hr
      rw [f_M_take_4, lb]
      simp (disch := omega) only [n0, n1, n2, n3, n4, n5, n6, n7, n8, n10, n16, n40, n128, n255, n256, n1024, n2000, n2048, nJ_add, nJ_mul, nJ_sub, nJ_leT, nJ_leF, nJ_ltT, nJ_ltF, nJ_eqT, nJ_eqF, nJ_clamp, nJ_div, nM, iM_eqF, iM_eqF2, iM_leF, iM_ltF, iM_leT, iM_ltT, iM_add, iM_add0, natLeF, natLeT, natLtF, natLtT, natEqF, natEqT, if_true, if_false, ite_true, ite_false, false_or, or_false, or_self, Option.bind_some, ↓reduceIte, tk]
      rw [show t + v + 1 = t + (v + 1) by omega])
    FU 0 (Nat.zero_le _) (fu (by omega))
  have key : f_M_take_4 (nI k) (nI N) iM n f FU 0 0 (nI t) = _ := key
  rw [key]
  rfl
/-- the reference: reading when something is amiss -/
theorem l_M_take_X {k e : Nat} {t : Int32} (he : e ≤ 4) (hk : k ≤ 10) : f_M_take (nI k) (nI N) t (nI e) n f = some (0, t, nI e) := by
  unfold f_M_take
  rw [show FU = 1048575 + 1 from rfl, f_M_take_4]
  have c : (0 : Int32) ≤ nI e := by rw [n0, nJ_leT (by omega) (by omega)]; exact trivial
  rw [if_pos c]
  by_cases c2 : nI k ≤ 0
  · rw [if_pos c2]; rfl
  · rw [if_neg c2]; rfl
/-- no bit of n from place v is set -/
def allz (g : Nat → Nat) (v n : Nat) : Prop := ∀ i, i < n → bt g (v + i) = 0
theorem allz_succ {v m : Nat} : allz g v (m + 1) ↔ bt g v = 0 ∧ allz g (v + 1) m := by
  constructor
  · intro h
    refine ⟨h 0 (by omega), fun i hi => ?_⟩
    have := h (i + 1) (by omega)
    rwa [show v + (i + 1) = v + 1 + i by omega] at this
  · rintro ⟨h1, h2⟩ i hi
    match i, hi with
    | 0, _ => exact h1
    | i + 1, hi =>
      have := h2 i (by omega)
      rwa [show v + (i + 1) = v + 1 + i by omega]
theorem l_B_rest {T : Nat} (hT : T = 8 * N) (hN : N ≤ n) (hn : n ≤ 2000) (hr : fRep f g N) : ∀ m v F, m < F → v + m = T → (allz g v m → ∃ a, f_B_restIsFilling_21 (nI T) n f F (nI v) = some (.inr a)) ∧ (¬ allz g v m → ∃ a, f_B_restIsFilling_21 (nI T) n f F (nI v) = some (.inl a)) := by
  intro m
  induction m with
  | zero =>
    intro v F hF hv
    match F, hF with
    | F + 1, _ =>
      refine ⟨fun _ => ⟨nI v, ?_⟩, fun h => absurd (fun i hi => absurd hi (by omega)) h⟩
      rw [f_B_restIsFilling_21]
      simp (disch := omega) only [n0, n1, n2, n3, n4, n5, n6, n7, n8, n10, n16, n40, n128, n255, n256, n1024, n2000, n2048, nJ_add, nJ_mul, nJ_sub, nJ_leT, nJ_leF, nJ_ltT, nJ_ltF, nJ_eqT, nJ_eqF, nJ_clamp, nJ_div, nM, iM_eqF, iM_eqF2, iM_leF, iM_ltF, iM_leT, iM_ltT, iM_add, iM_add0, natLeF, natLeT, natLtF, natLtT, natEqF, natEqT, if_true, if_false, ite_true, ite_false, false_or, or_false, or_self, Option.bind_some, ↓reduceIte]
  | succ m ih =>
    intro v F hF hv
    match F, hF with
    | F + 1, hF =>
      have lb := l_B_bitAt (i := v) (by omega) hN hn hr
      have lt := bt_lt g v
      have i1 := ih (v + 1) F (by omega) (by omega)
      have g1 : ¬ nI T ≤ nI v := by rw [nJ_leF (by omega) (by omega)]; exact not_false
      rw [f_B_restIsFilling_21, if_neg g1, lb, Option.bind_some, n1, nJ_add]
      by_cases c : bt g v = 0
      · have c2 : nI (bt g v) = 0 := by rw [c]; rfl
        rw [if_pos c2]
        refine ⟨fun h => i1.1 (allz_succ.mp h).2, fun h => i1.2 (fun h2 => h (allz_succ.mpr ⟨c, h2⟩))⟩
      · have c2 : ¬ nI (bt g v) = 0 := by rw [n0, nJ_eqF c (by omega) (by omega)]; exact not_false
        rw [if_neg c2]
        exact ⟨fun h => absurd (allz_succ.mp h).1 c, fun _ => ⟨_, rfl⟩⟩
theorem l_M_rest {T : Nat} {p1 p2 : Int32} (hT : T = 8 * N) (hN : N ≤ n) (hn : n ≤ 2000) (hr : fRep f g N) : ∀ m v F s, m < F → v + m = T → s < 2 → ∃ s' z, f_M_read_220 p1 p2 (nI N) iM n f F (nI s) (nI v) = some (nI s', z) ∧ s' < 2 ∧ (s' = 0 ↔ s = 0 ∧ allz g v m) := by
  intro m
  induction m with
  | zero =>
    intro v F s hF hv hs
    match F, hF with
    | F + 1, _ =>
      refine ⟨s, nI v, ?_, hs, ⟨fun h => ⟨h, fun i hi => absurd hi (by omega)⟩, fun h => h.1⟩⟩
      rw [f_M_read_220]
      simp (disch := omega) only [n0, n1, n2, n3, n4, n5, n6, n7, n8, n10, n16, n40, n128, n255, n256, n1024, n2000, n2048, nJ_add, nJ_mul, nJ_sub, nJ_leT, nJ_leF, nJ_ltT, nJ_ltF, nJ_eqT, nJ_eqF, nJ_clamp, nJ_div, nM, iM_eqF, iM_eqF2, iM_leF, iM_ltF, iM_leT, iM_ltT, iM_add, iM_add0, natLeF, natLeT, natLtF, natLtT, natEqF, natEqT, if_true, if_false, ite_true, ite_false, false_or, or_false, or_self, Option.bind_some, ↓reduceIte]
  | succ m ih =>
    intro v F s hF hv hs
    match F, hF with
    | F + 1, hF =>
      have lb := l_M_bitAt (i := v) (by omega) hN hn hr
      have lt := bt_lt g v
      have g1 : ¬ 8 * nI N ≤ nI v := by rw [n8, nJ_mul, nJ_leF (by omega) (by omega)]; exact not_false
      have g2 : ¬ (0 : Int32) ≤ iM := by decide
      have e1 : nI v + 1 = nI (v + 1) := by rw [n1, nJ_add]
      rw [f_M_read_220, if_neg g1, if_neg g2, lb, Option.bind_some, e1]
      by_cases c0 : s = 0
      · have c2 : nI s = 0 := by rw [c0]; rfl
        rw [if_pos c2]
        by_cases c : bt g v = 1
        · have c3 : nI (bt g v) = 1 := by rw [c]; rfl
          rw [if_pos c3]
          obtain ⟨s', z, i1, i2, i3⟩ := ih (v + 1) F 1 (by omega) (by omega) (by omega)
          refine ⟨s', z, i1, i2, ⟨fun h => absurd (i3.mp h).1 (by omega), fun h => ?_⟩⟩
          have := (allz_succ.mp h.2).1
          omega
        · have c3 : ¬ nI (bt g v) = 1 := by rw [n1, nJ_eqF c (by omega) (by omega)]; exact not_false
          rw [if_neg c3]
          obtain ⟨s', z, i1, i2, i3⟩ := ih (v + 1) F 0 (by omega) (by omega) (by omega)
          refine ⟨s', z, i1, i2, ⟨fun h => ⟨c0, allz_succ.mpr ⟨by omega, (i3.mp h).2⟩⟩, fun h => i3.mpr ⟨rfl, (allz_succ.mp h.2).2⟩⟩⟩
      · have c2 : ¬ nI s = 0 := by rw [n0, nJ_eqF c0 (by omega) (by omega)]; exact not_false
        rw [if_neg c2]
        obtain ⟨s', z, i1, i2, i3⟩ := ih (v + 1) F 1 (by omega) (by omega) (by omega)
        exact ⟨s', z, i1, i2, ⟨fun h => absurd (i3.mp h).1 (by omega), fun h => absurd h.1 c0⟩⟩
end
end
section
/-! reading a block -/
/-- a fit read from place t: why not, or the fit and the place behind it -/
def rFit (g : Nat → Nat) (T w h t : Nat) : Nat ⊕ (Fit5 × Nat) :=
  if t + db (dac w h * dac w h) ≤ T then
    (if tk g t (db (dac w h * dac w h)) < dac w h * dac w h then
      (if t + db (dac w h * dac w h) + 3 ≤ T then
        (if t + db (dac w h * dac w h) + 3 + 4 ≤ T then
          (if tk g (t + db (dac w h * dac w h) + 3) 4 ≤ 14 then
            (if t + db (dac w h * dac w h) + 3 + 4 + 10 ≤ T then .inr ((tk g t (db (dac w h * dac w h)), tk g (t + db (dac w h * dac w h)) 3, (tk g (t + db (dac w h * dac w h) + 3) 4 : Int) - 7, (tk g (t + db (dac w h * dac w h) + 3 + 4) 10 : Int) - 256, -1), t + db (dac w h * dac w h) + 3 + 4 + 10)
            else .inl 3)
          else .inl 2)
        else .inl 3)
      else .inl 3)
    else .inl 1)
  else .inl 3
theorem m1_iM : ((-1) : Int32) = iM := rfl
theorem ib0 {bn : Nat} (h : 4 ≤ bn) : ¬ ((0 : Int32) < 0 ∨ bn ≤ (0 : Int32).toNatClampNeg) := by
  have z : (0 : Int32).toNatClampNeg = 0 := rfl
  rw [z]; rintro (h | h); exact absurd h (by decide); omega
theorem ib1 {bn : Nat} (h : 4 ≤ bn) : ¬ ((1 : Int32) < 0 ∨ bn ≤ (1 : Int32).toNatClampNeg) := by
  have z : (1 : Int32).toNatClampNeg = 1 := rfl
  rw [z]; rintro (h | h); exact absurd h (by decide); omega
theorem ib2 {bn : Nat} (h : 4 ≤ bn) : ¬ ((2 : Int32) < 0 ∨ bn ≤ (2 : Int32).toNatClampNeg) := by
  have z : (2 : Int32).toNatClampNeg = 2 := rfl
  rw [z]; rintro (h | h); exact absurd h (by decide); omega
theorem ib3 {bn : Nat} (h : 4 ≤ bn) : ¬ ((3 : Int32) < 0 ∨ bn ≤ (3 : Int32).toNatClampNeg) := by
  have z : (3 : Int32).toNatClampNeg = 3 := rfl
  rw [z]; rintro (h | h); exact absurd h (by decide); omega
section
variable {g : Nat → Nat} {f : Nat → Int32} {N n w h : Nat}
def fitC (s : Nat ⊕ (Fit5 × Nat)) (r : Int32 × Int32 × Int32 × Int32 × Int32 × Int32 × Int32) : Prop := Sum.elim (fun e => r.1 = nI e ∧ e ≤ 4) (fun q => r = (iM, nI q.1.1, nI q.1.2.1, iI q.1.2.2.1, iI q.1.2.2.2.1, iI q.1.2.2.2.2, nI q.2)) s
theorem l_F_readFit {t : Nat} {a1 a2 a3 a4 a5 : Int32} (hw : w ≤ 16) (h1 : 0 < h) (h2 : 2 * h ≤ w) (ht : t ≤ 8 * N) (hN : N ≤ n) (hn : n ≤ 2000) (hr : fRep f g N) :
    ∃ r, f_F_readFit (nI (2 * h)) (nI (2 * w)) a1 a2 a3 a4 a5 (nI (8 * N)) (nI t) n f = some r ∧ fitC (rFit g (8 * N) w h t) r := by
  have ha := dac_le (h := h) hw
  obtain ⟨d1, _, _⟩ := db_spec (dac w h * dac w h) (by omega)
  have l1 := l_F_domainBits hw h1 h2
  have l2 := l_F_domains (w := w) (h := h) (by omega) h1 h2
  unfold f_F_readFit rFit
  rw [l1, Option.bind_some]
  generalize db (dac w h * dac w h) = D at d1 ⊢
  rw [l2]
  generalize dac w h * dac w h = A at ha ⊢
  by_cases c1 : t + D ≤ 8 * N
  · have b1 := tk_lt10 g t (show D ≤ 10 by omega)
    rw [if_pos c1, l_B_take_T (by omega) c1 hN hn hr, Option.bind_some, m1_iM, if_neg (by dsimp only; rw [iM_eqF (by omega)]; exact not_false), Option.bind_some]
    dsimp only
    by_cases c2 : tk g t D < A
    · rw [if_pos c2, if_pos (by rw [nJ_ltT c2 (by omega)]; exact trivial), n3]
      by_cases c3 : t + D + 3 ≤ 8 * N
      · have b2 := tk_lt10 g (t + D) (show 3 ≤ 10 by omega)
        rw [if_pos c3, l_B_take_T (by omega) c3 hN hn hr, Option.bind_some, if_neg (by dsimp only; rw [iM_eqF (by omega)]; exact not_false), n4]
        dsimp only
        by_cases c4 : t + D + 3 + 4 ≤ 8 * N
        · have b3 := tk_lt10 g (t + D + 3) (show 4 ≤ 10 by omega)
          have e7 : nI (tk g (t + D + 3) 4) - 7 = iI ((tk g (t + D + 3) 4 : Int) - 7) := by rw [nJ_iI, show (7 : Int32) = iI 7 from rfl, iI_sub]
          rw [if_pos c4, l_B_take_T (by omega) c4 hN hn hr, Option.bind_some, if_neg (by dsimp only; rw [iM_eqF (by omega)]; exact not_false)]
          dsimp only
          rw [e7, show (7 : Int32) = iI 7 from rfl]
          by_cases c5 : tk g (t + D + 3) 4 ≤ 14
          · rw [if_pos c5, if_pos (by rw [iI_leT (by omega) (by omega) (by omega)]; exact trivial), n10]
            by_cases c6 : t + D + 3 + 4 + 10 ≤ 8 * N
            · have b4 := tk_lt10 g (t + D + 3 + 4) (show 10 ≤ 10 by omega)
              have e8 : nI (tk g (t + D + 3 + 4) 10) - 256 = iI ((tk g (t + D + 3 + 4) 10 : Int) - 256) := by rw [nJ_iI, show (256 : Int32) = iI 256 from rfl, iI_sub]
              rw [if_pos c6, l_B_take_T (by omega) c6 hN hn hr, Option.bind_some, if_neg (by dsimp only; rw [iM_eqF (by omega)]; exact not_false)]
              dsimp only
              rw [e8]
              exact ⟨_, rfl, rfl⟩
            · rw [if_neg c6, l_B_take_F (by omega) c6 c4 hN hn, Option.bind_some, if_pos rfl]
              exact ⟨_, rfl, rfl, by omega⟩
          · rw [if_neg c5, if_neg (by rw [iI_leF (by omega) (by omega) (by omega)]; exact not_false)]
            exact ⟨_, rfl, rfl, by omega⟩
        · rw [if_neg c4, l_B_take_F (by omega) c4 c3 hN hn, Option.bind_some, if_pos rfl]
          exact ⟨_, rfl, rfl, by omega⟩
      · rw [if_neg c3, l_B_take_F (by omega) c3 c1 hN hn, Option.bind_some, if_pos rfl]
        exact ⟨_, rfl, rfl, by omega⟩
    · rw [if_neg c2, if_neg (by rw [nJ_ltF (by omega) (by omega)]; exact not_false)]
      exact ⟨_, rfl, rfl, by omega⟩
  · rw [if_neg c1, l_B_take_F (by omega) c1 ht hN hn, Option.bind_some, m1_iM, if_pos rfl]
    exact ⟨_, rfl, rfl, by omega⟩
/-! the reference -/
variable {kn bn : Nat} {p1 p2 p3 fo wy : Int32} {K bf : Nat → Int32}
theorem i0M : ¬ (0 : Int32) ≤ iM := by decide
theorem i0e {e : Nat} (he : e ≤ 4) : (0 : Int32) ≤ nI e := by rw [n0, nJ_leT (by omega) (by omega)]; exact trivial
theorem rb106_X {e : Nat} {ra : Int32} (he : e ≤ 4) (hb : 4 ≤ bn) : ∃ bf', f_M_readBlock_J106 p1 p2 p3 fo (nI N) ra wy kn K n f bn bf (nI e) = some (fo, ra, nI e, K, bf') := by
  unfold f_M_readBlock_J106
  rw [n10, l_M_take_X he (by omega), Option.bind_some, if_neg (ib3 hb), if_pos (i0e he)]
  exact ⟨_, rfl⟩
theorem rb51_X {e : Nat} {ra : Int32} (he : e ≤ 4) (hb : 4 ≤ bn) : ∃ bf', f_M_readBlock_J51 p1 p2 p3 fo (nI N) ra wy kn K n f bn bf (nI e) = some (fo, ra, nI e, K, bf') := by
  unfold f_M_readBlock_J51
  have t3 := l_M_take_X (N := N) (n := n) (f := f) (t := ra) he (show 3 ≤ 10 by omega)
  have t4 := l_M_take_X (N := N) (n := n) (f := f) (t := ra) he (show 4 ≤ 10 by omega)
  have t3 : f_M_take 3 (nI N) ra (nI e) n f = _ := t3
  have t4 : f_M_take 4 (nI N) ra (nI e) n f = _ := t4
  rw [t3, Option.bind_some, if_neg (ib1 hb)]
  dsimp only
  rw [t4, Option.bind_some, if_neg (ib2 hb), if_pos (i0e he)]
  exact rb106_X he hb
theorem rb_X {e : Nat} {ra : Int32} (hw : w ≤ 16) (h1 : 0 < h) (h2 : 2 * h ≤ w) (he : e ≤ 4) (hb : 4 ≤ bn) : ∃ bf', f_M_readBlock p1 p2 (nI (2 * h)) (nI (2 * w)) fo (nI N) ra (nI e) kn K n f bn bf = some (fo, ra, nI e, K, bf') := by
  have ha := dac_le (h := h) hw
  obtain ⟨d1, _, _⟩ := db_spec (dac w h * dac w h) (by omega)
  unfold f_M_readBlock
  rw [l_M_bitsFor hw h1 h2, Option.bind_some, l_M_take_X he (by omega), Option.bind_some, if_neg (ib0 hb), if_pos (i0e he)]
  exact rb51_X he hb
/-- what the reference's reading of a block gives -/
def fitM (c x y h : Nat) (F : Nat → Int) (K : Nat → Int32) (s : Nat ⊕ (Fit5 × Nat)) (r : Int32 × Int32 × Int32 × (Nat → Int32) × (Nat → Int32)) : Prop :=
  Sum.elim (fun e => r.2.2.1 = nI e ∧ e ≤ 4 ∧ ∀ k, k < 2048 → r.2.2.2.1 k = K k) (fun q => r.1 = nI (c + 1) ∧ r.2.1 = nI q.2 ∧ r.2.2.1 = iM ∧ kRep 2048 r.2.2.2.1 (addF F c x y (2 * h) q.1) (c + 1) ∧ ∀ k, k < 2048 → r.2.2.2.1 k = K k) s
theorem fitM_X {c x y e : Nat} {F : Nat → Int} {o : Option (Int32 × Int32 × Int32 × (Nat → Int32) × (Nat → Int32))} {ra fo' : Int32} (he : e ≤ 4) (hx : ∃ bf', o = some (fo', ra, nI e, K, bf')) : ∃ r, o = some r ∧ fitM c x y h F K (.inl e) r := by
  obtain ⟨bf', e1⟩ := hx
  exact ⟨_, e1, rfl, he, fun _ _ => rfl⟩
theorem l_M_readBlock {t c x y : Nat} {F : Nat → Int} (hw : w ≤ 16) (h1 : 0 < h) (h2 : 2 * h ≤ w) (ht : t ≤ 8 * N) (hN : N ≤ n) (hn : n ≤ 2000) (hr : fRep f g N) (hc : c < 256) (hkn : kn = 4096) (hb : 4 ≤ bn) (hk : kRep 2048 K F c) :
    ∃ r, f_M_readBlock (nI x) (nI y) (nI (2 * h)) (nI (2 * w)) (nI c) (nI N) (nI t) iM kn K n f bn bf = some r ∧ fitM c x y h F K (rFit g (8 * N) w h t) r := by
  have ha := dac_le (h := h) hw
  obtain ⟨d1, _, _⟩ := db_spec (dac w h * dac w h) (by omega)
  have l1 := l_M_bitsFor hw h1 h2
  have l2 := l_M_domains (w := w) (h := h) (by omega) h1 h2
  unfold f_M_readBlock rFit
  rw [l1, Option.bind_some, l2]
  generalize db (dac w h * dac w h) = D at d1 ⊢
  simp only [Option.bind_some]
  rw [nJ_mul]
  generalize dac w h * dac w h = A at ha ⊢
  have z0 : (0 : Int32).toNatClampNeg = 0 := rfl
  have z1 : (1 : Int32).toNatClampNeg = 1 := rfl
  have z2 : (2 : Int32).toNatClampNeg = 2 := rfl
  have z3 : (3 : Int32).toNatClampNeg = 3 := rfl
  by_cases c1 : t + D ≤ 8 * N
  · have b1 := tk_lt10 g t (show D ≤ 10 by omega)
    rw [if_pos c1, l_M_take_T (by omega) c1 hN hn hr, Option.bind_some, if_neg (ib0 hb), if_neg i0M, if_neg (ib0 hb)]
    dsimp only
    rw [z0, upd_eq]
    by_cases c2 : tk g t D < A
    · rw [if_pos c2, if_pos (by rw [nJ_ltT c2 (by omega)]; exact trivial)]
      unfold f_M_readBlock_J51
      rw [n3, n4]
      by_cases c3 : t + D + 3 ≤ 8 * N
      · have b2 := tk_lt10 g (t + D) (show 3 ≤ 10 by omega)
        rw [if_pos c3, l_M_take_T (by omega) c3 hN hn hr, Option.bind_some, if_neg (ib1 hb)]
        dsimp only
        by_cases c4 : t + D + 3 + 4 ≤ 8 * N
        · have b3 := tk_lt10 g (t + D + 3) (show 4 ≤ 10 by omega)
          have e7 : nI (tk g (t + D + 3) 4) - 7 = iI ((tk g (t + D + 3) 4 : Int) - 7) := by rw [nJ_iI, show (7 : Int32) = iI 7 from rfl, iI_sub]
          rw [if_pos c4, l_M_take_T (by omega) c4 hN hn hr, Option.bind_some, if_neg (ib2 hb), if_neg i0M, if_neg (ib2 hb)]
          dsimp only
          rw [z2, upd_eq, e7, show (7 : Int32) = iI 7 from rfl]
          by_cases c5 : tk g (t + D + 3) 4 ≤ 14
          · rw [if_pos c5, if_pos (by rw [iI_leT (by omega) (by omega) (by omega)]; exact trivial)]
            unfold f_M_readBlock_J106
            rw [n10]
            by_cases c6 : t + D + 3 + 4 + 10 ≤ 8 * N
            · have b4 := tk_lt10 g (t + D + 3 + 4) (show 10 ≤ 10 by omega)
              have e8 : nI (tk g (t + D + 3 + 4) 10) - 256 = iI ((tk g (t + D + 3 + 4) 10 : Int) - 256) := by rw [nJ_iI, show (256 : Int32) = iI 256 from rfl, iI_sub]
              rw [if_pos c6, l_M_take_T (by omega) c6 hN hn hr, Option.bind_some, if_neg (ib3 hb), if_neg i0M]
              dsimp only
              rw [e8, z1, z3]
              obtain ⟨K', k1, k2, k3⟩ := l_M_note (x := x) (y := y) (s := 2 * h) (c := c) (n := kn) (bn := bn) (f := K) (F := F) (B := (tk g t D, tk g (t + D) 3, (tk g (t + D + 3) 4 : Int) - 7, (tk g (t + D + 3 + 4) 10 : Int) - 256, -1)) (bf := upd (upd (upd (upd bf 0 (nI (tk g t D))) 1 (nI (tk g (t + D) 3))) 2 (iI ((tk g (t + D + 3) 4 : Int) - 7))) 3 (iI ((tk g (t + D + 3 + 4) 10 : Int) - 256))) hc hkn hb hk
                ⟨by simp (disch := omega) only [updF, updT], by simp (disch := omega) only [updF, updT], by simp (disch := omega) only [updF, updT], by simp (disch := omega) only [updF, updT]⟩
              have k1 : f_M_note (nI x) (nI y) (nI (2 * h)) (-1) (nI c) kn K bn _ = _ := k1
              rw [k1]
              exact ⟨_, rfl, rfl, rfl, rfl, k2, k3⟩
            · rw [if_neg c6, l_M_take_F (by omega) c6 c4 hN hn hr, Option.bind_some, if_neg (ib3 hb), if_pos (show (0 : Int32) ≤ 3 by decide)]
              exact ⟨_, rfl, rfl, by omega, fun _ _ => rfl⟩
          · rw [if_neg c5, if_neg (by rw [iI_leF (by omega) (by omega) (by omega)]; exact not_false)]
            exact fitM_X (e := 2) (by omega) (rb106_X (e := 2) (by omega) hb)
        · rw [if_neg c4, l_M_take_F (by omega) c4 c3 hN hn hr, Option.bind_some, if_neg (ib2 hb), if_pos (show (0 : Int32) ≤ 3 by decide)]
          exact fitM_X (e := 3) (by omega) (rb106_X (e := 3) (by omega) hb)
      · have t4 := l_M_take_X (N := N) (n := n) (f := f) (t := nI (8 * N)) (show 3 ≤ 4 by omega) (show 4 ≤ 10 by omega)
        have t4 : f_M_take (nI 4) (nI N) (nI (8 * N)) 3 n f = _ := t4
        rw [if_neg c3, l_M_take_F (by omega) c3 c1 hN hn hr, Option.bind_some, if_neg (ib1 hb)]
        dsimp only
        rw [t4, Option.bind_some, if_neg (ib2 hb), if_pos (i0e (by omega))]
        exact fitM_X (e := 3) (by omega) (rb106_X (e := 3) (by omega) hb)
    · rw [if_neg c2, if_neg (by rw [nJ_ltF (by omega) (by omega)]; exact not_false)]
      exact fitM_X (e := 1) (by omega) (rb51_X (e := 1) (by omega) hb)
  · rw [if_neg c1, l_M_take_F (by omega) c1 ht hN hn hr, Option.bind_some, if_neg (ib0 hb), if_pos (show (0 : Int32) ≤ 3 by decide)]
    exact fitM_X (e := 3) (by omega) (rb51_X (e := 3) (by omega) hb)
end
end
section
/-! reading, square by square -/
/-- the place, blocks, their facts -/
abbrev RS := Nat × Nat × (Nat → Int)
def rBind (s : Nat ⊕ RS) (k : RS → Nat ⊕ RS) : Nat ⊕ RS := Sum.elim (fun e => .inl e) k s
def rLeaf (g : Nat → Nat) (T w h x y : Nat) (q : RS) : Nat ⊕ RS := Sum.elim (fun e => .inl e) (fun b => .inr (b.2, q.2.1 + 1, addF q.2.2 q.2.1 x y (2 * h) b.1)) (rFit g T w h q.1)
def rSq (g : Nat → Nat) (T w least : Nat) : Nat → Nat → Nat → RS → Nat ⊕ RS
  | 0, x, y, q => rLeaf g T w (2 ^ 0) x y q
  | d + 1, x, y, q => if 2 * 2 ^ (d + 1) ≤ least then rLeaf g T w (2 ^ (d + 1)) x y q
    else if q.1 + 1 ≤ T then
      (if bt g q.1 = 1 then rBind (rSq g T w least d x y (q.1 + 1, q.2)) (fun q1 => rBind (rSq g T w least d (x + 2 * 2 ^ d) y q1) (fun q2 => rBind (rSq g T w least d x (y + 2 * 2 ^ d) q2) (fun q3 => rSq g T w least d (x + 2 * 2 ^ d) (y + 2 * 2 ^ d) q3)))
      else rLeaf g T w (2 ^ (d + 1)) x y (q.1 + 1, q.2))
    else .inl 3
def rQ (g : Nat → Nat) (T w least d x y : Nat) (q : RS) : Nat ⊕ RS := rBind (rSq g T w least d x y q) (fun q1 => rBind (rSq g T w least d (x + 2 * 2 ^ d) y q1) (fun q2 => rBind (rSq g T w least d x (y + 2 * 2 ^ d) q2) (fun q3 => rSq g T w least d (x + 2 * 2 ^ d) (y + 2 * 2 ^ d) q3)))
/-- what a square adds at most -/
def rLe (T a : Nat) (q : RS) (s : Nat ⊕ RS) : Prop := ∀ q', s = .inr q' → q'.1 ≤ T ∧ q'.2.1 ≤ q.2.1 + a
theorem rFit_le {g : Nat → Nat} {T w h t : Nat} {b : Fit5 × Nat} (e : rFit g T w h t = .inr b) : b.2 ≤ T ∧ b.1.1 < dac w h * dac w h ∧ b.1.2.1 < 8 ∧ -7 ≤ b.1.2.2.1 ∧ b.1.2.2.1 ≤ 7 ∧ -256 ≤ b.1.2.2.2.1 ∧ b.1.2.2.2.1 ≤ 767 := by
  unfold rFit at e
  generalize db (dac w h * dac w h) = D at e
  have b2 : tk g (t + D) 3 < 2 ^ 3 := tk_lt g (t + D) 3
  have b4 : tk g (t + D + 3 + 4) 10 < 2 ^ 10 := tk_lt g (t + D + 3 + 4) 10
  by_cases c1 : t + D ≤ T
  · rw [if_pos c1] at e
    by_cases c2 : tk g t D < dac w h * dac w h
    · rw [if_pos c2] at e
      by_cases c3 : t + D + 3 ≤ T
      · rw [if_pos c3] at e
        by_cases c4 : t + D + 3 + 4 ≤ T
        · rw [if_pos c4] at e
          by_cases c5 : tk g (t + D + 3) 4 ≤ 14
          · rw [if_pos c5] at e
            by_cases c6 : t + D + 3 + 4 + 10 ≤ T
            · rw [if_pos c6] at e
              have e := Sum.inr.inj e
              subst e
              dsimp only
              refine ⟨c6, c2, b2, ?_, ?_, ?_, ?_⟩ <;> omega
            · rw [if_neg c6] at e; cases e
          · rw [if_neg c5] at e; cases e
        · rw [if_neg c4] at e; cases e
      · rw [if_neg c3] at e; cases e
    · rw [if_neg c2] at e; cases e
  · rw [if_neg c1] at e; cases e
theorem rLeaf_le {g : Nat → Nat} {T w h x y : Nat} {q : RS} : rLe T 1 q (rLeaf g T w h x y q) := by
  intro q' e
  unfold rLeaf at e
  cases hb : rFit g T w h q.1 with
  | inl e2 => rw [hb] at e; cases e
  | inr b =>
    rw [hb] at e
    have e := Sum.inr.inj e
    subst e
    exact ⟨(rFit_le hb).1, Nat.le_refl _⟩
theorem rBind_le {T a c : Nat} {q : RS} {s : Nat ⊕ RS} {k : RS → Nat ⊕ RS} (h1 : rLe T a q s) (h2 : ∀ q1, q1.1 ≤ T → rLe T c q1 (k q1)) : rLe T (a + c) q (rBind s k) := by
  intro q' e
  cases s with
  | inl e2 => cases e
  | inr q1 =>
    have a1 := h1 q1 rfl
    have a2 := h2 q1 a1.1 q' e
    exact ⟨a2.1, by omega⟩
theorem rLe_mono {T a c : Nat} {q : RS} {s : Nat ⊕ RS} (h : rLe T a q s) (hc : a ≤ c) : rLe T c q s := fun q' e => ⟨(h q' e).1, by have := (h q' e).2; omega⟩
theorem rSq_le {g : Nat → Nat} {T w least : Nat} : ∀ (d x y : Nat) (q : RS), rLe T (4 ^ d) q (rSq g T w least d x y q) := by
  intro d
  induction d with
  | zero => intro x y q; rw [rSq]; exact rLeaf_le
  | succ d ih =>
    intro x y q
    have f1 := four_pos d
    have f2 := four_succ d
    rw [rSq]
    split
    · exact rLe_mono rLeaf_le (by omega)
    · split
      · split
        · have := rBind_le (ih x y (q.1 + 1, q.2)) (fun q1 _ => rBind_le (ih (x + 2 * 2 ^ d) y q1) (fun q2 _ => rBind_le (ih x (y + 2 * 2 ^ d) q2) (fun q3 _ => ih (x + 2 * 2 ^ d) (y + 2 * 2 ^ d) q3)))
          intro q' e
          have := this q' e
          exact ⟨this.1, by have := this.2; dsimp only at this; omega⟩
        · intro q' e
          have := rLeaf_le q' e
          exact ⟨this.1, by have := this.2; dsimp only at this; omega⟩
      · intro q' e; cases e
/-! the class -/
abbrev Z8 := Int32 × (Nat → Int32) × Int32 × Int32 × Int32 × Int32 × Int32 × Int32
def zRel (kp : Nat) (k0 : Int32) (K0 : Nat → Int32) (q : RS) (z : Z8) : Prop := z.2.2.2.2.2.2.2 = nI q.1 ∧ (kp = 0 → z.1 = k0 ∧ z.2.1 = K0) ∧ (kp ≠ 0 → z.1 = nI q.2.1 ∧ kRep 0 z.2.1 q.2.2 q.2.1)
def rOk (kp : Nat) (k0 : Int32) (K0 : Nat → Int32) (s : Nat ⊕ RS) (r : Int32 × Z8) : Prop := Sum.elim (fun e => r.1 = nI e ∧ e ≤ 4 ∧ (kp = 0 → r.2.1 = k0 ∧ r.2.2.1 = K0)) (fun q => r.1 = iM ∧ zRel kp k0 K0 q r.2) s
def cRd (kn N n : Nat) (f : Nat → Int32) (D : Nat) (x y s l kp S : Int32) (z : Z8) : Option (Int32 × Z8) := f_F_readSquare (f_F_readQuarters D) x y s l kp S z.1 kn z.2.1 z.2.2.1 z.2.2.2.1 z.2.2.2.2.1 z.2.2.2.2.2.1 z.2.2.2.2.2.2.1 (nI (8 * N)) z.2.2.2.2.2.2.2 n f
def cRq (kn N n : Nat) (f : Nat → Int32) (D : Nat) (x y s l kp S : Int32) (z : Z8) : Option (Int32 × Z8) := f_F_readQuarters D x y s l kp S z.1 kn z.2.1 z.2.2.1 z.2.2.2.1 z.2.2.2.2.1 z.2.2.2.2.2.1 z.2.2.2.2.2.2.1 (nI (8 * N)) z.2.2.2.2.2.2.2 n f
def c13 (kn N n : Nat) (f : Nat → Int32) (D : Nat) (x y s l kp S : Int32) (F : Nat) (e v : Int32) (z : Z8) : Option (Int32 × Int32 × Z8) := f_F_readQuarters_13 (f_F_readQuarters D) x y s l kp S kn (nI (8 * N)) n f F e v z.1 z.2.1 z.2.2.1 z.2.2.2.1 z.2.2.2.2.1 z.2.2.2.2.2.1 z.2.2.2.2.2.2.1 z.2.2.2.2.2.2.2
section
variable {kn N n : Nat} {f : Nat → Int32} {g : Nat → Nat} {w least kp : Nat} {k0 : Int32} {K0 : Nat → Int32}
theorem c13_end {D F : Nat} {x y s l c S e : Int32} {z : Z8} : c13 kn N n f D x y s l c S (F + 1) e (nI 4) z = some (e, nI 4, z) := by
  unfold c13
  rw [f_F_readQuarters_13, if_pos (by decide)]
theorem c13_stop {D F v : Nat} {x y s l c S e : Int32} {z : Z8} (hv : v ≤ 4) (he : e ≠ iM) : c13 kn N n f D x y s l c S (F + 1) e (nI v) z = some (e, nI v, z) := by
  unfold c13
  rw [f_F_readQuarters_13]
  by_cases g1 : (4 : Int32) ≤ nI v
  · rw [if_pos g1]
  · rw [if_neg g1, m1_iM, if_neg he]
theorem c13_step {D F v : Nat} {x y s l c S : Int32} {z : Z8} (hv : v < 4) : c13 kn N n f D x y s l c S (F + 1) iM (nI v) z = (cRd kn N n f D (x + nI (v % 2) * s) (y + nI (v / 2) * s) s l c S z).bind (fun r => c13 kn N n f D x y s l c S F r.1 (nI (v + 1)) r.2) := by
  have g1 : ¬ (4 : Int32) ≤ nI v := by rw [n4, nJ_leF (by omega) (by omega)]; exact not_false
  unfold c13 cRd
  rw [f_F_readQuarters_13, if_neg g1, m1_iM, if_pos rfl, l_across hv, l_down hv]
  simp only [Option.bind_some]
  rw [n1, nJ_add]
theorem cRq_eq {D s : Nat} {x y l c S : Int32} {z : Z8} (h2 : 2 ≤ s) (hs2 : s < 2147483648) : cRq kn N n f (D + 1) x y (nI s) l c S z = (c13 kn N n f D x y (nI s) l c S FU iM (nI 0) z).bind (fun q => some (q.1, q.2.2)) := by
  have g1 : (2 : Int32) ≤ nI s := by rw [n2, nJ_leT (by omega) (by omega)]; exact trivial
  unfold cRq c13
  rw [f_F_readQuarters, if_pos g1]
  rfl
theorem nI_ne {e : Nat} (he : e ≤ 4) : nI e ≠ iM := by
  intro h
  rw [iM_eqF (by omega)] at h
  exact h
/-- a square of this size is read rightly -/
def RdOk (kn N n : Nat) (f : Nat → Int32) (g : Nat → Nat) (w least kp : Nat) (k0 : Int32) (K0 : Nat → Int32) (d D : Nat) : Prop := ∀ (x y : Nat) (q : RS) (z : Z8), x + 2 * 2 ^ d ≤ 2 * w → y + 2 * 2 ^ d ≤ 2 * w → q.1 ≤ 8 * N → zRel kp k0 K0 q z → q.2.1 + 4 ^ d ≤ w * w →
  ∃ r, cRd kn N n f D (nI x) (nI y) (nI (2 * 2 ^ d)) (nI least) (nI kp) (nI (2 * w)) z = some r ∧ rOk kp k0 K0 (rSq g (8 * N) w least d x y q) r
theorem l_cRq {d D : Nat} (hw : w ≤ 16) (ih : RdOk kn N n f g w least kp k0 K0 d D) {x y : Nat} {q : RS} {z : Z8} (hd : 2 * 2 ^ d ≤ 64) (hx : x + 4 * 2 ^ d ≤ 2 * w) (hy : y + 4 * 2 ^ d ≤ 2 * w) (hq : q.1 ≤ 8 * N) (hz : zRel kp k0 K0 q z) (hc : q.2.1 + 4 * 4 ^ d ≤ w * w) :
    ∃ r, cRq kn N n f (D + 1) (nI x) (nI y) (nI (2 * 2 ^ d)) (nI least) (nI kp) (nI (2 * w)) z = some r ∧ rOk kp k0 K0 (rQ g (8 * N) w least d x y q) r := by
  have t1 := two_pos' d
  have hFU : FU = 1048571 + 1 + 1 + 1 + 1 + 1 := rfl
  have m0 : nI x + nI (0 % 2) * nI (2 * 2 ^ d) = nI x := by rw [nJ_mul, nJ_add]; congr 1; omega
  have m0' : nI y + nI (0 / 2) * nI (2 * 2 ^ d) = nI y := by rw [nJ_mul, nJ_add]; congr 1; omega
  have m1 : nI x + nI (1 % 2) * nI (2 * 2 ^ d) = nI (x + 2 * 2 ^ d) := by rw [nJ_mul, nJ_add]; congr 1; omega
  have m1' : nI y + nI (1 / 2) * nI (2 * 2 ^ d) = nI y := by rw [nJ_mul, nJ_add]; congr 1; omega
  have m2 : nI x + nI (2 % 2) * nI (2 * 2 ^ d) = nI x := by rw [nJ_mul, nJ_add]; congr 1; omega
  have m2' : nI y + nI (2 / 2) * nI (2 * 2 ^ d) = nI (y + 2 * 2 ^ d) := by rw [nJ_mul, nJ_add]; congr 1; omega
  have m3 : nI x + nI (3 % 2) * nI (2 * 2 ^ d) = nI (x + 2 * 2 ^ d) := by rw [nJ_mul, nJ_add]; congr 1; omega
  have m3' : nI y + nI (3 / 2) * nI (2 * 2 ^ d) = nI (y + 2 * 2 ^ d) := by rw [nJ_mul, nJ_add]; congr 1; omega
  unfold rQ
  obtain ⟨r1, a1, b1⟩ := ih x y q z (by omega) (by omega) hq hz (by omega)
  have l1 := rSq_le (g := g) (T := 8 * N) (w := w) (least := least) d x y q
  cases h1 : rSq g (8 * N) w least d x y q with
  | inl e =>
    rw [h1] at b1
    obtain ⟨u1, u2, u3⟩ := b1
    refine ⟨(r1.1, r1.2), ?_, u1, u2, u3⟩
    rw [cRq_eq (by omega) (by omega), hFU, c13_step (by omega), m0, m0', a1, Option.bind_some, c13_stop (by omega) (by rw [u1]; exact nI_ne u2)]
    rfl
  | inr q1 =>
    rw [h1] at b1 l1
    obtain ⟨u1, z1⟩ := b1
    obtain ⟨v1, v2⟩ := l1 q1 rfl
    obtain ⟨r2, a2, b2⟩ := ih (x + 2 * 2 ^ d) y q1 r1.2 (by omega) (by omega) v1 z1 (by omega)
    have l2 := rSq_le (g := g) (T := 8 * N) (w := w) (least := least) d (x + 2 * 2 ^ d) y q1
    show ∃ r, _ ∧ rOk kp k0 K0 (rBind (rSq g (8 * N) w least d (x + 2 * 2 ^ d) y q1) _) r
    cases h2 : rSq g (8 * N) w least d (x + 2 * 2 ^ d) y q1 with
    | inl e =>
      rw [h2] at b2
      obtain ⟨u1', u2, u3⟩ := b2
      refine ⟨(r2.1, r2.2), ?_, u1', u2, u3⟩
      rw [cRq_eq (by omega) (by omega), hFU, c13_step (by omega), m0, m0', a1, Option.bind_some, u1, c13_step (by omega), m1, m1', a2, Option.bind_some, c13_stop (by omega) (by rw [u1']; exact nI_ne u2)]
      rfl
    | inr q2 =>
      rw [h2] at b2 l2
      obtain ⟨u1', z2⟩ := b2
      obtain ⟨v3, v4⟩ := l2 q2 rfl
      obtain ⟨r3, a3, b3⟩ := ih x (y + 2 * 2 ^ d) q2 r2.2 (by omega) (by omega) v3 z2 (by omega)
      have l3 := rSq_le (g := g) (T := 8 * N) (w := w) (least := least) d x (y + 2 * 2 ^ d) q2
      show ∃ r, _ ∧ rOk kp k0 K0 (rBind (rSq g (8 * N) w least d x (y + 2 * 2 ^ d) q2) _) r
      cases h3 : rSq g (8 * N) w least d x (y + 2 * 2 ^ d) q2 with
      | inl e =>
        rw [h3] at b3
        obtain ⟨u1'', u2, u3⟩ := b3
        refine ⟨(r3.1, r3.2), ?_, u1'', u2, u3⟩
        rw [cRq_eq (by omega) (by omega), hFU, c13_step (by omega), m0, m0', a1, Option.bind_some, u1, c13_step (by omega), m1, m1', a2, Option.bind_some, u1', c13_step (by omega), m2, m2', a3, Option.bind_some, c13_stop (by omega) (by rw [u1'']; exact nI_ne u2)]
        rfl
      | inr q3 =>
        rw [h3] at b3 l3
        obtain ⟨u1'', z3⟩ := b3
        obtain ⟨v5, v6⟩ := l3 q3 rfl
        obtain ⟨r4, a4, b4⟩ := ih (x + 2 * 2 ^ d) (y + 2 * 2 ^ d) q3 r3.2 (by omega) (by omega) v5 z3 (by omega)
        refine ⟨(r4.1, r4.2), ?_, b4⟩
        rw [cRq_eq (by omega) (by omega), hFU, c13_step (by omega), m0, m0', a1, Option.bind_some, u1, c13_step (by omega), m1, m1', a2, Option.bind_some, u1', c13_step (by omega), m2, m2', a3, Option.bind_some, u1'', c13_step (by omega), m3, m3', a4, Option.bind_some, c13_end]
        rfl
/-- a leaf of the class -/
def rdLeaf (kn N n : Nat) (f : Nat → Int32) (x y s kp S : Int32) (z : Z8) : Option (Int32 × Z8) := (f_F_readFit s S z.2.2.1 z.2.2.2.1 z.2.2.2.2.1 z.2.2.2.2.2.1 z.2.2.2.2.2.2.1 (nI (8 * N)) z.2.2.2.2.2.2.2 n f).bind (fun q => if q.1 = iM then (if kp = 0 then some (q.1, z.1, z.2.1, q.2.1, q.2.2.1, q.2.2.2.1, q.2.2.2.2.1, q.2.2.2.2.2.1, q.2.2.2.2.2.2) else ((f_K_add x y s z.1 kn z.2.1 q.2.1 q.2.2.1 q.2.2.2.1 q.2.2.2.2.1 q.2.2.2.2.2.1).bind (fun c => some (q.1, c.1, c.2, q.2.1, q.2.2.1, q.2.2.2.1, q.2.2.2.2.1, q.2.2.2.2.2.1, q.2.2.2.2.2.2)))) else some (q.1, z.1, z.2.1, q.2.1, q.2.2.1, q.2.2.2.1, q.2.2.2.2.1, q.2.2.2.2.2.1, q.2.2.2.2.2.2))
theorem l_rdLeaf {h x y : Nat} {q : RS} {z : Z8} (hw : w ≤ 16) (h1 : 0 < h) (h2 : 2 * h ≤ w) (hN : N ≤ n) (hn : n ≤ 2000) (hr : fRep f g N) (hkn : kn = 8 * (w * w)) (hkp : kp < 2) (hq : q.1 ≤ 8 * N) (hz : zRel kp k0 K0 q z) (hc : q.2.1 + 1 ≤ w * w) :
    ∃ r, rdLeaf kn N n f (nI x) (nI y) (nI (2 * h)) (nI kp) (nI (2 * w)) z = some r ∧ rOk kp k0 K0 (rLeaf g (8 * N) w h x y q) r := by
  have hww : w * w ≤ 16 * 16 := Nat.mul_le_mul hw hw
  obtain ⟨e1, e2, e3⟩ := hz
  unfold rdLeaf rLeaf
  rw [e1]
  obtain ⟨r, c1, c2⟩ := l_F_readFit (w := w) (h := h) (t := q.1) (a1 := z.2.2.1) (a2 := z.2.2.2.1) (a3 := z.2.2.2.2.1) (a4 := z.2.2.2.2.2.1) (a5 := z.2.2.2.2.2.2.1) hw h1 h2 hq hN hn hr
  rw [c1, Option.bind_some]
  cases hb : rFit g (8 * N) w h q.1 with
  | inl e =>
    rw [hb] at c2
    obtain ⟨u1, u2⟩ := c2
    rw [if_neg (by rw [u1]; exact nI_ne u2)]
    exact ⟨_, rfl, u1, u2, e2⟩
  | inr b =>
    rw [hb] at c2
    have c2 : r = _ := c2
    rw [c2, if_pos rfl]
    by_cases k : kp = 0
    · rw [if_pos (by rw [k]; rfl)]
      exact ⟨_, rfl, rfl, rfl, e2, fun h => absurd k h⟩
    · have kk : ¬ nI kp = 0 := by rw [n0, nJ_eqF k (by omega) (by omega)]; exact not_false
      obtain ⟨e4, e5⟩ := e3 k
      obtain ⟨K', k1, k2⟩ := l_K_add (x := x) (y := y) (s := 2 * h) (c := q.2.1) (n := kn) (f := z.2.1) (F := q.2.2) (B := b.1) (by omega) (by omega) e5
      rw [if_neg kk, e4]
      dsimp only
      rw [k1]
      exact ⟨_, rfl, rfl, rfl, fun h => absurd h k, fun _ => ⟨rfl, k2⟩⟩
theorem l_cRd (hw : w ≤ 16) (hl2 : 2 ≤ least) (hl : least ≤ 16) (hN : N ≤ n) (hn : n ≤ 2000) (hr : fRep f g N) (hkn : kn = 8 * (w * w)) (hkp : kp < 2) :
    ∀ d, 2 * 2 ^ d ≤ w → ∀ D, d ≤ D → RdOk kn N n f g w least kp k0 K0 d D := by
  intro d
  induction d with
  | zero =>
    intro hd D hD x y q z hx hy hq hz hc
    have e4 : 4 ^ 0 = 1 := rfl
    rw [e4] at hc
    rw [rSq]
    obtain ⟨r, c1, c2⟩ := l_rdLeaf (x := x) (y := y) (kp := kp) hw (show 0 < 2 ^ 0 by omega) hd hN hn hr hkn hkp hq hz hc
    refine ⟨r, ?_, c2⟩
    have g1 : nI (2 * 2 ^ 0) ≤ nI least := by rw [nJ_leT (by omega) (by omega)]; exact trivial
    unfold cRd f_F_readSquare
    rw [if_pos g1, if_neg (by decide), if_neg (by decide)]
    exact c1
  | succ d ih =>
    intro hd D hD x y q z hx hy hq hz hc
    have f1 := four_pos d
    have f2 := four_succ d
    have t1 := two_pos' d
    have t2 := two_succ d
    rw [rSq]
    by_cases g0 : 2 * 2 ^ (d + 1) ≤ least
    · rw [if_pos g0]
      obtain ⟨r, c1, c2⟩ := l_rdLeaf (x := x) (y := y) (kp := kp) hw (show 0 < 2 ^ (d + 1) by omega) hd hN hn hr hkn hkp hq hz (by omega)
      refine ⟨r, ?_, c2⟩
      have g1 : nI (2 * 2 ^ (d + 1)) ≤ nI least := by rw [nJ_leT (by omega) (by omega)]; exact trivial
      unfold cRd f_F_readSquare
      rw [if_pos g1, if_neg (by decide), if_neg (by decide)]
      exact c1
    · rw [if_neg g0]
      have g1 : ¬ nI (2 * 2 ^ (d + 1)) ≤ nI least := by rw [nJ_leF (by omega) (by omega)]; exact not_false
      have hz0 := hz
      obtain ⟨e1, e2, e3⟩ := hz0
      by_cases c1 : q.1 + 1 ≤ 8 * N
      · rw [if_pos c1]
        have tt := l_B_take_T (k := 1) (by omega) c1 hN hn hr
        have eb : tk g q.1 1 = bt g q.1 := by
          show 2 * 0 + bt g (q.1 + 0) = _
          rw [Nat.add_zero]; omega
        rw [eb] at tt
        have lt := bt_lt g q.1
        have tt : f_B_take 1 (nI (8 * N)) z.2.2.2.2.2.2.2 n f = some (nI (bt g q.1), nI (q.1 + 1)) := by rw [e1]; exact tt
        have hz2 : zRel kp k0 K0 (q.1 + 1, q.2) (z.1, z.2.1, z.2.2.1, z.2.2.2.1, z.2.2.2.2.1, z.2.2.2.2.2.1, z.2.2.2.2.2.2.1, nI (q.1 + 1)) := ⟨rfl, e2, e3⟩
        by_cases c2 : bt g q.1 = 1
        · rw [if_pos c2]
          match D, hD with
          | D + 1, hD =>
            obtain ⟨r, k1, k2⟩ := l_cRq hw (ih (by omega) D (by omega)) (x := x) (y := y) (by omega) (by omega) (by omega) c1 hz2 (show q.2.1 + 4 * 4 ^ d ≤ w * w by omega)
            refine ⟨r, ?_, k2⟩
            have hv : nI (2 * 2 ^ (d + 1)) / 2 = nI (2 * 2 ^ d) := by rw [n2, nJ_div (by omega) (by omega)]; congr 1; omega
            unfold cRq at k1
            dsimp only at k1
            unfold cRd f_F_readSquare
            rw [if_neg g1, tt, Option.bind_some, if_neg (by rw [m1_iM]; exact nI_ne (by omega)), if_pos (by rw [c2]; rfl), hv]
            dsimp only
            rw [k1]
            rfl
        · rw [if_neg c2]
          obtain ⟨r, k1, k2⟩ := l_rdLeaf (x := x) (y := y) (kp := kp) hw (show 0 < 2 ^ (d + 1) by omega) hd hN hn hr hkn hkp c1 hz2 (show q.2.1 + 1 ≤ w * w by omega)
          refine ⟨r, ?_, k2⟩
          unfold cRd f_F_readSquare
          rw [if_neg g1, tt, Option.bind_some, if_neg (by rw [m1_iM]; exact nI_ne (by omega)), if_neg (by rw [n1, nJ_eqF c2 (by omega) (by omega)]; exact not_false)]
          exact k1
      · rw [if_neg c1]
        have tt := l_B_take_F (f := f) (k := 1) (by omega) c1 hq hN hn
        have tt : f_B_take 1 (nI (8 * N)) z.2.2.2.2.2.2.2 n f = some (iM, nI q.1) := by rw [e1]; exact tt
        unfold cRd f_F_readSquare
        rw [if_neg g1, tt, Option.bind_some, m1_iM, if_pos rfl]
        exact ⟨_, rfl, rfl, by omega, e2⟩
end
end
section
/-! the reference reads: a pile of squares -/
abbrev Z7 := Int32 × Int32 × Int32 × Int32 × (Nat → Int32) × (Nat → Int32) × (Nat → Int32)
def rL (kn n : Nat) (f : Nat → Int32) (ln bn : Nat) (nu l S fm : Int32) (F : Nat) (z : Z7) : Option Z7 := f_M_read_86 nu l S fm kn n f ln bn F z.1 z.2.1 z.2.2.1 z.2.2.2.1 z.2.2.2.2.1 z.2.2.2.2.2.1 z.2.2.2.2.2.2
def mRel (q : RS) (k : Nat) (z : Z7) : Prop := z.1 = nI q.2.1 ∧ z.2.1 = nI q.1 ∧ z.2.2.1 = iM ∧ z.2.2.2.1 = nI k ∧ kRep 2048 z.2.2.2.2.1 q.2.2 q.2.1
def mOk (s : Nat ⊕ RS) (k : Nat) (z r : Z7) : Prop := (∀ j, j < 2048 → r.2.2.2.2.1 j = z.2.2.2.2.1 j) ∧ Sum.elim (fun e => r.2.2.1 = nI e ∧ e ≤ 4) (fun q => mRel q k r ∧ ∀ j, j < 3 * k → r.2.2.2.2.2.1 j = z.2.2.2.2.2.1 j) s
section
variable {kn N n ln bn : Nat} {f : Nat → Int32} {g : Nat → Nat} {w least : Nat} {nu : Int32}
theorem rL_pop {h x y k F : Nat} {q : RS} {z : Z7} {l S fm : Int32} (hk : 3 * (k + 1) ≤ ln) (hln : ln ≤ 96) (hz : mRel q (k + 1) z) (hp : pl z.2.2.2.2.2.1 k x y (2 * h)) :
    rL kn n f ln bn nu l S fm (F + 1) z = if nI (2 * h) ≤ l then ((f_M_readBlock (nI x) (nI y) (nI (2 * h)) S (nI q.2.1) fm (nI q.1) iM kn z.2.2.2.2.1 n f bn z.2.2.2.2.2.2).bind (fun r => rL kn n f ln bn nu l S fm F (r.1, r.2.1, r.2.2.1, nI k, r.2.2.2.1, z.2.2.2.2.2.1, r.2.2.2.2)))
      else ((f_M_take 1 fm (nI q.1) iM n f).bind (fun u => if u.1 = 1 then ((f_M_pileQuarters (nI x) (nI y) (nI (2 * h)) (nI k) ln z.2.2.2.2.2.1).bind (fun v => rL kn n f ln bn nu l S fm F (nI q.2.1, u.2.1, u.2.2, v.1, z.2.2.2.2.1, v.2, z.2.2.2.2.2.2)))
        else ((f_M_readBlock (nI x) (nI y) (nI (2 * h)) S (nI q.2.1) fm u.2.1 u.2.2 kn z.2.2.2.2.1 n f bn z.2.2.2.2.2.2).bind (fun r => rL kn n f ln bn nu l S fm F (r.1, r.2.1, r.2.2.1, nI k, r.2.2.2.1, z.2.2.2.2.2.1, r.2.2.2.2))))) := by
  obtain ⟨z1, z2, z3, z4, _⟩ := hz
  obtain ⟨p1, p2, p3⟩ := hp
  have i0 : ¬ nI (k + 1) ≤ 0 := by rw [n0, nJ_leF (by omega) (by omega)]; exact not_false
  have ek : nI (k + 1) - 1 = nI k := by rw [n1, nJ_sub (by omega)]; rfl
  have c0 : (3 : Int32) * nI k = nI (3 * k) := by rw [n3, nJ_mul]
  have c1 : nI (3 * k) + 1 = nI (3 * k + 1) := by rw [n1, nJ_add]
  have c2 : nI (3 * k) + 2 = nI (3 * k + 2) := by rw [n2, nJ_add]
  have k0 : (nI (3 * k)).toNatClampNeg = 3 * k := nJ_clamp (by omega)
  have k1 : (nI (3 * k + 1)).toNatClampNeg = 3 * k + 1 := nJ_clamp (by omega)
  have k2 : (nI (3 * k + 2)).toNatClampNeg = 3 * k + 2 := nJ_clamp (by omega)
  have d0 : ¬ (nI (3 * k) < 0 ∨ ln ≤ 3 * k) := by rw [n0, nJ_ltF (by omega) (by omega), false_or]; omega
  have d1 : ¬ (nI (3 * k + 1) < 0 ∨ ln ≤ 3 * k + 1) := by rw [n0, nJ_ltF (by omega) (by omega), false_or]; omega
  have d2 : ¬ (nI (3 * k + 2) < 0 ∨ ln ≤ 3 * k + 2) := by rw [n0, nJ_ltF (by omega) (by omega), false_or]; omega
  unfold rL
  rw [f_M_read_86, z4, if_neg i0, z3, if_neg i0M, ek, c0, c1, c2, k0, k1, k2, if_neg d0, if_neg d1, if_neg d2, p1, p2, p3, z1, z2]
/-- a square on the pile is read rightly -/
def RdOkM (kn N n : Nat) (f : Nat → Int32) (ln bn : Nat) (nu : Int32) (g : Nat → Nat) (w least d : Nat) : Prop := ∀ (x y k : Nat) (q : RS) (z : Z7), x + 2 * 2 ^ d ≤ 2 * w → y + 2 * 2 ^ d ≤ 2 * w → q.1 ≤ 8 * N → mRel q (k + 1) z → pl z.2.2.2.2.2.1 k x y (2 * 2 ^ d) → q.2.1 + 4 ^ d ≤ w * w → 3 * (k + 1 + 3 * d) ≤ ln →
  ∃ c r, c + 1 ≤ 2 * 4 ^ d ∧ (∀ F, rL kn n f ln bn nu (nI least) (nI (2 * w)) (nI N) (F + c) z = rL kn n f ln bn nu (nI least) (nI (2 * w)) (nI N) F r) ∧ mOk (rSq g (8 * N) w least d x y q) k z r
theorem l_rQ {d : Nat} (hw : w ≤ 16) (ih : RdOkM kn N n f ln bn nu g w least d) {x y k : Nat} {q : RS} {z : Z7} (hx : x + 4 * 2 ^ d ≤ 2 * w) (hy : y + 4 * 2 ^ d ≤ 2 * w) (hq : q.1 ≤ 8 * N) (hz : mRel q (k + 4) z)
    (q0 : pl z.2.2.2.2.2.1 k (x + 2 * 2 ^ d) (y + 2 * 2 ^ d) (2 * 2 ^ d)) (q1 : pl z.2.2.2.2.2.1 (k + 1) x (y + 2 * 2 ^ d) (2 * 2 ^ d)) (q2 : pl z.2.2.2.2.2.1 (k + 2) (x + 2 * 2 ^ d) y (2 * 2 ^ d)) (q3 : pl z.2.2.2.2.2.1 (k + 3) x y (2 * 2 ^ d))
    (hc : q.2.1 + 4 * 4 ^ d ≤ w * w) (hl : 3 * (k + 4 + 3 * d) ≤ ln) :
    ∃ c r, c + 4 ≤ 8 * 4 ^ d ∧ (∀ F, rL kn n f ln bn nu (nI least) (nI (2 * w)) (nI N) (F + c) z = rL kn n f ln bn nu (nI least) (nI (2 * w)) (nI N) F r) ∧ mOk (rQ g (8 * N) w least d x y q) k z r := by
  have f1 := four_pos d
  have t1 := two_pos' d
  unfold rQ
  obtain ⟨c1, r1, s1, a1, e1, b1⟩ := ih x y (k + 3) q z (by omega) (by omega) hq hz q3 (by omega) (by omega)
  have l1 := rSq_le (g := g) (T := 8 * N) (w := w) (least := least) d x y q
  cases h1 : rSq g (8 * N) w least d x y q with
  | inl e =>
    rw [h1] at b1
    exact ⟨c1, r1, by omega, a1, e1, b1⟩
  | inr u1 =>
    rw [h1] at b1 l1
    obtain ⟨b1, p1⟩ := b1
    obtain ⟨v1, v2⟩ := l1 u1 rfl
    obtain ⟨c2, r2, s2, a2, e2, b2⟩ := ih (x + 2 * 2 ^ d) y (k + 2) u1 r1 (by omega) (by omega) v1 b1 (pl_of q2 (fun j hj => p1 j (by omega))) (by omega) (by omega)
    have l2 := rSq_le (g := g) (T := 8 * N) (w := w) (least := least) d (x + 2 * 2 ^ d) y u1
    show ∃ c r, _ ∧ _ ∧ mOk (rBind (rSq g (8 * N) w least d (x + 2 * 2 ^ d) y u1) _) k z r
    cases h2 : rSq g (8 * N) w least d (x + 2 * 2 ^ d) y u1 with
    | inl e =>
      rw [h2] at b2
      refine ⟨c2 + c1, r2, by omega, fun F => ?_, fun j hj => (e2 j hj).trans (e1 j hj), b2⟩
      rw [show F + (c2 + c1) = F + c2 + c1 by omega, a1, a2]
    | inr u2 =>
      rw [h2] at b2 l2
      obtain ⟨b2, p2⟩ := b2
      obtain ⟨v3, v4⟩ := l2 u2 rfl
      obtain ⟨c3, r3, s3, a3, e3, b3⟩ := ih x (y + 2 * 2 ^ d) (k + 1) u2 r2 (by omega) (by omega) v3 b2 (pl_of q1 (fun j hj => (p2 j (by omega)).trans (p1 j (by omega)))) (by omega) (by omega)
      have l3 := rSq_le (g := g) (T := 8 * N) (w := w) (least := least) d x (y + 2 * 2 ^ d) u2
      show ∃ c r, _ ∧ _ ∧ mOk (rBind (rSq g (8 * N) w least d x (y + 2 * 2 ^ d) u2) _) k z r
      cases h3 : rSq g (8 * N) w least d x (y + 2 * 2 ^ d) u2 with
      | inl e =>
        rw [h3] at b3
        refine ⟨c3 + c2 + c1, r3, by omega, fun F => ?_, fun j hj => (e3 j hj).trans ((e2 j hj).trans (e1 j hj)), b3⟩
        rw [show F + (c3 + c2 + c1) = F + c3 + c2 + c1 by omega, a1, a2, a3]
      | inr u3 =>
        rw [h3] at b3 l3
        obtain ⟨b3, p3⟩ := b3
        obtain ⟨v5, v6⟩ := l3 u3 rfl
        obtain ⟨c4, r4, s4, a4, e4, b4⟩ := ih (x + 2 * 2 ^ d) (y + 2 * 2 ^ d) k u3 r3 (by omega) (by omega) v5 b3 (pl_of q0 (fun j hj => (p3 j (by omega)).trans ((p2 j (by omega)).trans (p1 j (by omega))))) (by omega) (by omega)
        refine ⟨c4 + c3 + c2 + c1, r4, by omega, fun F => ?_, fun j hj => (e4 j hj).trans ((e3 j hj).trans ((e2 j hj).trans (e1 j hj))), ?_⟩
        · rw [show F + (c4 + c3 + c2 + c1) = F + c4 + c3 + c2 + c1 by omega, a1, a2, a3, a4]
        · show Sum.elim _ _ (rSq g (8 * N) w least d (x + 2 * 2 ^ d) (y + 2 * 2 ^ d) u3)
          cases h4 : rSq g (8 * N) w least d (x + 2 * 2 ^ d) (y + 2 * 2 ^ d) u3 with
          | inl e => rw [h4] at b4; exact b4
          | inr u4 =>
            rw [h4] at b4
            exact ⟨b4.1, fun j hj => (b4.2 j hj).trans ((p3 j (by omega)).trans ((p2 j (by omega)).trans (p1 j (by omega))))⟩
/-- a leaf of the reference -/
theorem l_rLeaf {h x y k : Nat} {q : RS} {z : Z7} {wy : Int32} (hw : w ≤ 16) (h1 : 0 < h) (h2 : 2 * h ≤ w) (hN : N ≤ n) (hn : n ≤ 2000) (hr : fRep f g N) (hkn : kn = 4096) (hb : 4 ≤ bn) (hq : q.1 ≤ 8 * N) (hk : kRep 2048 z.2.2.2.2.1 q.2.2 q.2.1) (hc : q.2.1 + 1 ≤ w * w) (hwy : wy = iM) :
    ∃ r, f_M_readBlock (nI x) (nI y) (nI (2 * h)) (nI (2 * w)) (nI q.2.1) (nI N) (nI q.1) wy kn z.2.2.2.2.1 n f bn z.2.2.2.2.2.2 = some r ∧ mOk (rLeaf g (8 * N) w h x y q) k z (r.1, r.2.1, r.2.2.1, nI k, r.2.2.2.1, z.2.2.2.2.2.1, r.2.2.2.2) := by
  subst hwy
  have hww : w * w ≤ 16 * 16 := Nat.mul_le_mul hw hw
  obtain ⟨r, a1, a2⟩ := l_M_readBlock (x := x) (y := y) (w := w) (h := h) (t := q.1) (c := q.2.1) (F := q.2.2) (K := z.2.2.2.2.1) (bf := z.2.2.2.2.2.2) (kn := kn) (bn := bn) hw h1 h2 hq hN hn hr (by omega) hkn hb hk
  refine ⟨r, a1, ?_⟩
  unfold rLeaf
  cases hf : rFit g (8 * N) w h q.1 with
  | inl e =>
    rw [hf] at a2
    exact ⟨a2.2.2, a2.1, a2.2.1⟩
  | inr b =>
    rw [hf] at a2
    obtain ⟨c1, c2, c3, c4, c5⟩ := a2
    exact ⟨c5, ⟨c1, c2, c3, rfl, c4⟩, fun _ _ => rfl⟩
theorem l_rL (hw : w ≤ 16) (hl2 : 2 ≤ least) (hl : least ≤ 16) (hN : N ≤ n) (hn : n ≤ 2000) (hr : fRep f g N) (hkn : kn = 4096) (hb : 4 ≤ bn) (hln : ln ≤ 96) :
    ∀ d, 2 * 2 ^ d ≤ w → RdOkM kn N n f ln bn nu g w least d := by
  intro d
  induction d with
  | zero =>
    intro hd x y k q z hx hy hq hz hp hc hk
    have e4 : 4 ^ 0 = 1 := rfl
    rw [e4] at hc ⊢
    rw [rSq]
    have g1 : nI (2 * 2 ^ 0) ≤ nI least := by rw [nJ_leT (by omega) (by omega)]; exact trivial
    obtain ⟨r, a1, a2⟩ := l_rLeaf (x := x) (y := y) (k := k) (z := z) (wy := iM) hw (show 0 < 2 ^ 0 by omega) hd hN hn hr hkn hb hq hz.2.2.2.2 hc rfl
    refine ⟨1, _, by omega, fun F => ?_, a2⟩
    rw [rL_pop (by omega) hln hz hp, if_pos g1, a1, Option.bind_some]
  | succ d ih =>
    intro hd x y k q z hx hy hq hz hp hc hk
    have f1 := four_pos d
    have f2 := four_succ d
    have t1 := two_pos' d
    have t2 := two_succ d
    rw [rSq]
    by_cases g0 : 2 * 2 ^ (d + 1) ≤ least
    · rw [if_pos g0]
      have g1 : nI (2 * 2 ^ (d + 1)) ≤ nI least := by rw [nJ_leT (by omega) (by omega)]; exact trivial
      obtain ⟨r, a1, a2⟩ := l_rLeaf (x := x) (y := y) (k := k) (z := z) (wy := iM) hw (show 0 < 2 ^ (d + 1) by omega) hd hN hn hr hkn hb hq hz.2.2.2.2 (by omega) rfl
      refine ⟨1, _, by omega, fun F => ?_, a2⟩
      rw [rL_pop (by omega) hln hz hp, if_pos g1, a1, Option.bind_some]
    · rw [if_neg g0]
      have g1 : ¬ nI (2 * 2 ^ (d + 1)) ≤ nI least := by rw [nJ_leF (by omega) (by omega)]; exact not_false
      by_cases c1 : q.1 + 1 ≤ 8 * N
      · rw [if_pos c1]
        have tt := l_M_take_T (k := 1) (by omega) c1 hN hn hr
        have eb : tk g q.1 1 = bt g q.1 := by
          show 2 * 0 + bt g (q.1 + 0) = _
          rw [Nat.add_zero]; omega
        rw [eb] at tt
        have lt := bt_lt g q.1
        have tt : f_M_take 1 (nI N) (nI q.1) iM n f = some (nI (bt g q.1), nI (q.1 + 1), iM) := tt
        by_cases c2 : bt g q.1 = 1
        · rw [if_pos c2]
          obtain ⟨P', y1, y2, y3, y4, y5, y6⟩ := l_pileQ (k := k) (n := ln) (x := x) (y := y) (h := 2 * 2 ^ d) (f := z.2.2.2.2.2.1) (by omega) hln (by omega)
          have hz2 : mRel (q.1 + 1, q.2) (k + 4) (nI q.2.1, nI (q.1 + 1), iM, nI (k + 4), z.2.2.2.2.1, P', z.2.2.2.2.2.2) := ⟨rfl, rfl, rfl, rfl, hz.2.2.2.2⟩
          obtain ⟨c, r, k0, k1, k2, k3⟩ := l_rQ hw (ih (by omega)) (x := x) (y := y) (k := k) (by omega) (by omega) c1 hz2 y2 y3 y4 y5 (show q.2.1 + 4 * 4 ^ d ≤ w * w by omega) (by omega)
          refine ⟨c + 1, r, by omega, fun F => ?_, k2, ?_⟩
          · have y1' : f_M_pileQuarters (nI x) (nI y) (nI (2 * 2 ^ (d + 1))) (nI k) ln z.2.2.2.2.2.1 = some (nI (k + 4), P') := by rw [t2]; exact y1
            rw [show F + (c + 1) = F + c + 1 by omega, rL_pop (by omega) hln hz hp, if_neg g1, tt, Option.bind_some, if_pos (by rw [c2]; rfl), y1', Option.bind_some]
            exact k1 F
          · show Sum.elim _ _ (rQ g (8 * N) w least d x y (q.1 + 1, q.2))
            cases h4 : rQ g (8 * N) w least d x y (q.1 + 1, q.2) with
            | inl e => rw [h4] at k3; exact k3
            | inr u4 => rw [h4] at k3; exact ⟨k3.1, fun j hj => (k3.2 j hj).trans (y6 j hj)⟩
        · rw [if_neg c2]
          obtain ⟨r, a1, a2⟩ := l_rLeaf (q := (q.1 + 1, q.2)) (x := x) (y := y) (k := k) (z := z) (wy := iM) hw (show 0 < 2 ^ (d + 1) by omega) hd hN hn hr hkn hb c1 hz.2.2.2.2 (show q.2.1 + 1 ≤ w * w by omega) rfl
          refine ⟨1, _, by omega, fun F => ?_, a2⟩
          rw [rL_pop (by omega) hln hz hp, if_neg g1, tt, Option.bind_some, if_neg (by rw [n1, nJ_eqF c2 (by omega) (by omega)]; exact not_false)]
          dsimp only at a1 ⊢
          rw [a1, Option.bind_some]
      · rw [if_neg c1]
        have tt := l_M_take_F (k := 1) (by omega) c1 hq hN hn hr
        have tt : f_M_take 1 (nI N) (nI q.1) iM n f = some (0, nI (8 * N), 3) := tt
        obtain ⟨bf', xx⟩ := rb_X (w := w) (h := 2 ^ (d + 1)) (N := N) (n := n) (f := f) (kn := kn) (bn := bn) (p1 := nI x) (p2 := nI y) (fo := nI q.2.1) (K := z.2.2.2.2.1) (bf := z.2.2.2.2.2.2) (e := 3) (ra := nI (8 * N)) hw (by omega) hd (by omega) hb
        have xx : f_M_readBlock (nI x) (nI y) (nI (2 * 2 ^ (d + 1))) (nI (2 * w)) (nI q.2.1) (nI N) (nI (8 * N)) 3 kn z.2.2.2.2.1 n f bn z.2.2.2.2.2.2 = _ := xx
        refine ⟨1, (nI q.2.1, nI (8 * N), nI 3, nI k, z.2.2.2.2.1, z.2.2.2.2.2.1, bf'), by omega, fun F => ?_, fun _ _ => rfl, rfl, by omega⟩
        rw [rL_pop (by omega) hln hz hp, if_neg g1, tt, Option.bind_some, if_neg (show ¬ (0 : Int32) = 1 by decide)]
        dsimp only
        rw [xx, Option.bind_some]
end
/-! reading as a whole -/
/-- what waits, read: why not, or the blocks and their facts -/
noncomputable def rAll (g : Nat → Nat) (N w d : Nat) : Nat ⊕ (Nat × (Nat → Int)) :=
  if 3 ≤ 8 * N then
    (if 1 ≤ tk g 0 3 ∧ tk g 0 3 ≤ 4 ∧ 2 ^ tk g 0 3 ≤ w then
      Sum.elim (fun e => .inl e) (fun q => @ite _ (8 * N - q.1 ≤ 7 ∧ allz g q.1 (8 * N - q.1)) (Classical.propDecidable _) (.inr q.2) (.inl 4)) (rQ g (8 * N) w (2 ^ tk g 0 3) d 0 0 (3, 0, fun _ => 0))
    else .inl 0)
  else .inl 3
section
variable {kn N n ln bn : Nat} {f : Nat → Int32} {g : Nat → Nat} {w d : Nat}
theorem rQ_le {T least : Nat} {x y : Nat} {q : RS} : rLe T (4 * 4 ^ d) q (rQ g T w least d x y q) := by
  have := rBind_le (rSq_le (g := g) (T := T) (w := w) (least := least) d x y q) (fun q1 _ => rBind_le (rSq_le (g := g) (T := T) (w := w) (least := least) d (x + 2 * 2 ^ d) y q1) (fun q2 _ => rBind_le (rSq_le (g := g) (T := T) (w := w) (least := least) d x (y + 2 * 2 ^ d) q2) (fun q3 _ => rSq_le (g := g) (T := T) (w := w) (least := least) d (x + 2 * 2 ^ d) (y + 2 * 2 ^ d) q3)))
  exact rLe_mono this (by omega)
def wOk (kp : Nat) (k0 : Int32) (K0 : Nat → Int32) (s : Nat ⊕ (Nat × (Nat → Int))) (r : Int32 × Z8) : Prop := Sum.elim (fun e => r.1 = nI e ∧ e ≤ 4 ∧ (kp = 0 → r.2.1 = k0 ∧ r.2.2.1 = K0)) (fun q => r.1 = iM ∧ (kp = 0 → r.2.1 = k0 ∧ r.2.2.1 = K0) ∧ (kp ≠ 0 → r.2.1 = nI q.1 ∧ kRep 0 r.2.2.1 q.2 q.1)) s
theorem l_F_readWaiting {kp : Nat} {k0 a1 a2 a3 a4 a5 tk0 : Int32} {K0 : Nat → Int32} (hwd : w = 2 * 2 ^ d) (hw : w ≤ 16) (hN : N ≤ n) (hn : n ≤ 2000) (hr : fRep f g N) (hkn : kn = 8 * (w * w)) (hkp : kp < 2) (hk0 : kp ≠ 0 → k0 = 0) :
    ∃ r, f_F_readWaiting (nI kp) (nI (2 * w)) k0 kn K0 a1 a2 a3 a4 a5 (nI (8 * N)) tk0 n f = some r ∧ wOk kp k0 K0 (rAll g N w d) r := by
  have e4 : w * w = 4 * 4 ^ d := by rw [hwd]; exact four_two d
  have f1 := four_pos d
  have hdd : d ≤ 5 := by
    by_cases c : d ≤ 5
    · exact c
    · have : 2 ^ 6 ≤ 2 ^ d := Nat.pow_le_pow_right (by omega) (by omega)
      omega
  have hv : nI (2 * w) / 2 = nI w := by rw [n2, nJ_div (by omega) (by omega)]; congr 1; omega
  unfold f_F_readWaiting f_B_rewind rAll
  rw [Option.bind_some]
  by_cases c1 : 3 ≤ 8 * N
  · rw [if_pos c1]
    have tt := l_B_take_T (t := 0) (k := 3) (by omega) (by omega) hN hn hr
    have tt : f_B_take 3 (nI (8 * N)) 0 n f = some (nI (tk g 0 3), nI 3) := tt
    have jl : tk g 0 3 < 2 ^ 3 := tk_lt g 0 3
    have jl : tk g 0 3 < 8 := jl
    have sb := shl_bits (tk g 0 3) jl 1 (by omega)
    rw [Nat.one_mul] at sb
    have sb : (1 : Int32) <<< (nI (tk g 0 3) &&& 31) = nI (2 ^ tk g 0 3) := sb
    have jb : 2 ^ tk g 0 3 ≤ 128 := (Nat.pow_le_pow_right (n := 2) (by omega) (by omega) : 2 ^ tk g 0 3 ≤ 2 ^ 7)
    rw [tt, Option.bind_some, if_neg (by rw [m1_iM]; dsimp only; rw [iM_eqF (by omega)]; exact not_false)]
    dsimp only
    rw [sb]
    generalize tk g 0 3 = j at jl jb ⊢
    rcases isSize_cases (nI (2 ^ j)) with ⟨h1, _, h2⟩ | ⟨j', p1, p2, p3, h1, _⟩
    · have nj : ¬ (1 ≤ j ∧ j ≤ 4 ∧ 2 ^ j ≤ w) := fun c => h2 j c.1 c.2.1 rfl
      rw [h1, Option.bind_some, if_pos rfl, if_neg nj]
      exact ⟨_, rfl, rfl, by omega, fun _ => ⟨rfl, rfl⟩⟩
    · have hs := size_le p2
      have p3 := nJ_inj p3 (by omega) (by omega)
      have ejj : j = j' := by
        rcases Nat.lt_trichotomy j j' with h | h | h
        · have := Nat.pow_lt_pow_right (a := 2) (by omega) h; omega
        · exact h
        · have := Nat.pow_lt_pow_right (a := 2) (by omega) h; omega
      subst ejj
      rw [h1, Option.bind_some, if_neg (by decide), hv]
      by_cases c2 : 2 ^ j ≤ w
      · rw [if_pos (show nI (2 ^ j) ≤ nI w by rw [nJ_leT c2 (by omega)]; exact trivial), if_pos ⟨p1, p2, c2⟩]
        have hRd := l_cRd (kn := kn) (N := N) (n := n) (f := f) (g := g) (w := w) (least := 2 ^ j) (kp := kp) (k0 := k0) (K0 := K0) hw (size_ge p1) hs hN hn hr hkn hkp d (by omega) 5 hdd
        have hz : zRel kp k0 K0 (3, 0, fun _ => 0) (k0, K0, a1, a2, a3, a4, a5, nI 3) := ⟨rfl, fun _ => ⟨rfl, rfl⟩, fun h => ⟨hk0 h, fun k hk => (Nat.not_lt_zero k hk).elim⟩⟩
        obtain ⟨r, k1, k2⟩ := l_cRq hw hRd (x := 0) (y := 0) (by omega) (by omega) (by omega) (show 3 ≤ 8 * N from c1) hz (show 0 + 4 * 4 ^ d ≤ w * w by omega)
        unfold cRq at k1
        rw [← hwd] at k1
        dsimp only at k1
        have k1 : f_F_readQuarters 6 0 0 (nI w) (nI (2 ^ j)) (nI kp) (nI (2 * w)) k0 kn K0 a1 a2 a3 a4 a5 (nI (8 * N)) (nI 3) n f = some r := k1
        rw [k1, Option.bind_some]
        have hle := rQ_le (g := g) (w := w) (d := d) (T := 8 * N) (least := 2 ^ j) (x := 0) (y := 0) (q := (3, 0, fun _ => 0))
        cases h3 : rQ g (8 * N) w (2 ^ j) d 0 0 (3, 0, fun _ => 0) with
        | inl e =>
          rw [h3] at k2
          obtain ⟨u1, u2, u3⟩ := k2
          rw [if_neg (by rw [u1]; exact nI_ne u2)]
          exact ⟨_, rfl, u1, u2, u3⟩
        | inr q =>
          rw [h3] at k2 hle
          obtain ⟨u1, z1, z2, z3⟩ := k2
          obtain ⟨v1, _⟩ := hle q rfl
          rw [m1_iM, if_pos u1, z1]
          show ∃ r_1, _ ∧ wOk kp k0 K0 (@ite _ (8 * N - q.1 ≤ 7 ∧ allz g q.1 (8 * N - q.1)) (Classical.propDecidable _) (.inr q.2) (.inl 4)) r_1
          unfold f_B_restIsFilling
          rw [nJ_sub v1]
          by_cases c3 : 8 * N - q.1 ≤ 7
          · rw [if_pos (show nI (8 * N - q.1) < 8 by rw [n8, nJ_ltT (by omega) (by omega)]; exact trivial)]
            have rest := l_B_rest (T := 8 * N) rfl hN hn hr (8 * N - q.1) q.1 FU (fu (by omega)) (by omega)
            by_cases c4 : allz g q.1 (8 * N - q.1)
            · obtain ⟨a, ha⟩ := rest.1 c4
              rw [ha, if_pos ⟨c3, c4⟩]
              exact ⟨_, rfl, rfl, z2, z3⟩
            · obtain ⟨a, ha⟩ := rest.2 c4
              rw [ha, if_neg (fun h => c4 h.2)]
              exact ⟨_, rfl, rfl, by omega, z2⟩
          · rw [if_neg (show ¬ nI (8 * N - q.1) < 8 by rw [n8, nJ_ltF (by omega) (by omega)]; exact not_false), if_neg (fun h => c3 h.1)]
            exact ⟨_, rfl, rfl, by omega, z2⟩
      · rw [if_neg (show ¬ nI (2 ^ j) ≤ nI w by rw [nJ_leF (by omega) (by omega)]; exact not_false), if_neg (fun c => c2 c.2.2)]
        exact ⟨_, rfl, rfl, by omega, fun _ => ⟨rfl, rfl⟩⟩
  · rw [if_neg c1]
    have tt := l_B_take_F (f := f) (t := 0) (k := 3) (by omega) (by omega) (by omega) hN hn
    have tt : f_B_take 3 (nI (8 * N)) 0 n f = some (iM, nI 0) := tt
    rw [tt, Option.bind_some, m1_iM, if_pos rfl]
    exact ⟨_, rfl, rfl, by omega, fun _ => ⟨rfl, rfl⟩⟩
/-- the answer of a reading -/
noncomputable def rAns (s : Nat ⊕ (Nat × (Nat → Int))) : Int32 := Sum.elim (fun e => iM - nI e) (fun q => nI q.1) s
theorem l_F_read {k0 a1 a2 a3 a4 a5 tk0 : Int32} {K0 : Nat → Int32} (hwd : w = 2 * 2 ^ d) (hw : w ≤ 16) (hN : N ≤ n) (hn : n ≤ 2000) (hr : fRep f g N) (hkn : kn = 8 * (w * w)) :
    ∃ r, f_F_read (nI (2 * w)) k0 kn K0 a1 a2 a3 a4 a5 (nI (8 * N)) tk0 n f = some r ∧ r.1 = rAns (rAll g N w d) ∧ r.2.2.2.2.2.2.2.2.1 = 0 ∧ Sum.elim (fun _ => r.2.1 = k0 ∧ r.2.2.1 = K0) (fun q => r.2.1 = nI q.1 ∧ kRep 0 r.2.2.1 q.2 q.1) (rAll g N w d) := by
  obtain ⟨r1, b1, b2⟩ := l_F_readWaiting (kp := 0) (k0 := k0) (K0 := K0) (a1 := a1) (a2 := a2) (a3 := a3) (a4 := a4) (a5 := a5) (tk0 := tk0) hwd hw hN hn hr hkn (by omega) (fun h => absurd rfl h)
  have b1 : f_F_readWaiting 0 (nI (2 * w)) k0 kn K0 a1 a2 a3 a4 a5 (nI (8 * N)) tk0 n f = some r1 := b1
  unfold f_F_read f_K_wipe f_B_wipe
  rw [b1, Option.bind_some, m1_iM]
  cases h3 : rAll g N w d with
  | inl e =>
    rw [h3] at b2
    obtain ⟨u1, u2, u3⟩ := b2
    rw [if_neg (by rw [u1]; exact nI_ne u2), Option.bind_some, if_neg (by rw [u1]; exact nI_ne u2), u1]
    exact ⟨_, rfl, rfl, rfl, u3 rfl⟩
  | inr q =>
    rw [h3] at b2
    obtain ⟨u1, u2, u3⟩ := b2
    obtain ⟨r2, c1, c2⟩ := l_F_readWaiting (kp := 1) (k0 := 0) (K0 := r1.2.2.1) (a1 := r1.2.2.2.1) (a2 := r1.2.2.2.2.1) (a3 := r1.2.2.2.2.2.1) (a4 := r1.2.2.2.2.2.2.1) (a5 := r1.2.2.2.2.2.2.2.1) (tk0 := r1.2.2.2.2.2.2.2.2) hwd hw hN hn hr hkn (by omega) (fun _ => rfl)
    have c1 : f_F_readWaiting 1 (nI (2 * w)) 0 kn r1.2.2.1 r1.2.2.2.1 r1.2.2.2.2.1 r1.2.2.2.2.2.1 r1.2.2.2.2.2.2.1 r1.2.2.2.2.2.2.2.1 (nI (8 * N)) r1.2.2.2.2.2.2.2.2 n f = some r2 := c1
    rw [h3] at c2
    obtain ⟨v1, _, v3⟩ := c2
    obtain ⟨v4, v5⟩ := v3 (by omega)
    rw [if_pos u1, Option.bind_some, c1, Option.bind_some, Option.bind_some, if_pos u1, v4]
    exact ⟨_, rfl, rfl, rfl, rfl, v5⟩
theorem mtail_X {e : Nat} {p1 p2 cd my fo ra wt s0 : Int32} {K P bf : Nat → Int32} (he : e ≤ 4) : f_M_read_J213 p1 p2 cd my fo (nI N) ra (nI e) wt kn K n f P bf s0 = some (iM - nI e, cd, my, fo, 0, ra, nI e, wt, K, P, bf) := by
  unfold f_M_read_J213
  have h : ∃ z, f_M_read_220 p1 p2 (nI N) (nI e) n f FU s0 ra = some z := by
    rw [show FU = 1048575 + 1 from rfl, f_M_read_220]
    by_cases c : 8 * nI N ≤ ra
    · rw [if_pos c]; exact ⟨_, rfl⟩
    · rw [if_neg c, if_pos (i0e he)]; exact ⟨_, rfl⟩
  obtain ⟨z, hz⟩ := h
  rw [hz, Option.bind_some, if_pos (i0e he), if_neg (by rw [n0, nJ_ltF (by omega) (by omega)]; exact not_false)]
  rfl
theorem rL_stop {F e : Nat} {nu l S fm : Int32} {z : Z7} (h : z.2.2.1 = nI e) (he : e ≤ 4) : rL kn n f ln bn nu l S fm (F + 1) z = some z := by
  unfold rL
  rw [f_M_read_86]
  by_cases c : z.2.2.2.1 ≤ 0
  · rw [if_pos c]
  · rw [if_neg c, if_pos (by rw [h]; exact i0e he)]
theorem rL_end {F : Nat} {nu l S fm : Int32} {z : Z7} (h : z.2.2.2.1 = nI 0) : rL kn n f ln bn nu l S fm (F + 1) z = some z := by
  unfold rL
  rw [f_M_read_86, if_pos (by rw [h]; decide)]
/-- what the reference's reading gives -/
def mRd (my : Int32) (K : Nat → Int32) (s : Nat ⊕ (Nat × (Nat → Int))) (r : Int32 × Int32 × Int32 × Int32 × Int32 × Int32 × Int32 × Int32 × (Nat → Int32) × (Nat → Int32) × (Nat → Int32)) : Prop :=
  r.2.1 = 0 ∧ r.2.2.2.2.1 = 0 ∧ Sum.elim (fun e => r.1 = iM - nI e ∧ r.2.2.1 = my ∧ ∀ k, k < 2048 → r.2.2.2.2.2.2.2.2.1 k = K k) (fun q => r.1 = nI q.1 ∧ r.2.2.1 = nI q.1 ∧ kRep 0 r.2.2.2.2.2.2.2.2.1 q.2 q.1) s
theorem mJ73_X {e : Nat} {nu l my ra wy : Int32} {K P bf : Nat → Int32} (he : e ≤ 4) (hwd : w = 2 * 2 ^ d) (hw : w ≤ 16) (hln : ln = 96) :
    ∃ r, f_M_read_J73 nu l 0 (nI (2 * w)) my 0 (nI N) ra wy 0 kn K n f ln P bn bf (nI e) = some r ∧ mRd my K (.inl e) r := by
  obtain ⟨P', y1, _⟩ := l_pileQ (k := 0) (n := ln) (x := 0) (y := 0) (h := 2 * 2 ^ d) (f := P) (by omega) (by omega) (by omega)
  have y1 : f_M_pileQuarters 0 0 (nI (2 * w)) 0 ln P = some (nI (0 + 4), P') := by rw [hwd]; exact y1
  have st := rL_stop (kn := kn) (n := n) (f := f) (ln := ln) (bn := bn) (nu := nu) (l := l) (S := nI (2 * w)) (fm := nI N) (F := 1048575) (z := (0, ra, nI e, nI (0 + 4), K, P', bf)) rfl he
  have st : f_M_read_86 nu l (nI (2 * w)) (nI N) kn n f ln bn FU 0 ra (nI e) (nI (0 + 4)) K P' bf = some (0, ra, nI e, nI (0 + 4), K, P', bf) := st
  unfold f_M_read_J73
  rw [y1, Option.bind_some]
  dsimp only
  rw [st, Option.bind_some]
  dsimp only
  by_cases c : 8 * nI N - ra ≤ 7
  · rw [if_pos c, mtail_X he]
    exact ⟨_, rfl, rfl, rfl, rfl, rfl, fun _ _ => rfl⟩
  · rw [if_neg c, mtail_X he]
    exact ⟨_, rfl, rfl, rfl, rfl, rfl, fun _ _ => rfl⟩
theorem l_M_read {my fo ra wy wt : Int32} {K P bf : Nat → Int32} (hwd : w = 2 * 2 ^ d) (hw : w ≤ 16) (hN : N ≤ n) (hn : n ≤ 2000) (hr : fRep f g N) (hkn : kn = 4096) (hb : 4 ≤ bn) (hln : ln = 96) :
    ∃ r, f_M_read (nI (2 * w)) my fo (nI N) ra wy wt kn K n f ln P bn bf = some r ∧ mRd my K (rAll g N w d) r := by
  have e4 : w * w = 4 * 4 ^ d := by rw [hwd]; exact four_two d
  have hww : w * w ≤ 16 * 16 := Nat.mul_le_mul hw hw
  have f1 := four_pos d
  have t1 := two_pos' d
  have hdd : d ≤ 3 := by
    by_cases c : d ≤ 3
    · exact c
    · have : 2 ^ 4 ≤ 2 ^ d := Nat.pow_le_pow_right (by omega) (by omega)
      omega
  unfold f_M_read rAll
  by_cases c1 : 3 ≤ 8 * N
  · rw [if_pos c1]
    have tt := l_M_take_T (t := 0) (k := 3) (by omega) (by omega) hN hn hr
    have tt : f_M_take 3 (nI N) 0 (-1) n f = some (nI (tk g 0 3), nI 3, iM) := tt
    have jl : tk g 0 3 < 2 ^ 3 := tk_lt g 0 3
    have jl : tk g 0 3 < 8 := jl
    have sb := shl_bits (tk g 0 3) jl 1 (by omega)
    rw [Nat.one_mul] at sb
    have sb : (1 : Int32) <<< (nI (tk g 0 3) &&& 31) = nI (2 ^ tk g 0 3) := sb
    have jb : 2 ^ tk g 0 3 ≤ 128 := (Nat.pow_le_pow_right (n := 2) (by omega) (by omega) : 2 ^ tk g 0 3 ≤ 2 ^ 7)
    rw [tt, Option.bind_some]
    dsimp only
    rw [if_neg i0M, sb]
    generalize tk g 0 3 = j at jl jb ⊢
    by_cases cj : 1 ≤ j ∧ j ≤ 4
    · have hin : f_M_in (nI j).toInt64 1 4 = some 1 := by
        have hj : j = 1 ∨ j = 2 ∨ j = 3 ∨ j = 4 := by omega
        rcases hj with rfl | rfl | rfl | rfl <;> decide
      rw [hin, Option.bind_some, if_neg (by decide)]
      by_cases c2 : 2 ^ j ≤ w
      · have gg : 2 * nI (2 ^ j) ≤ nI (2 * w) := by rw [n2, nJ_mul, nJ_leT (by omega) (by omega)]; exact trivial
        rw [if_pos gg, if_pos ⟨cj.1, cj.2, c2⟩]
        obtain ⟨P', y1, y2, y3, y4, y5, _⟩ := l_pileQ (k := 0) (n := ln) (x := 0) (y := 0) (h := 2 * 2 ^ d) (f := P) (by omega) (by omega) (by omega)
        have y1 : f_M_pileQuarters 0 0 (nI (2 * w)) 0 ln P = some (nI (0 + 4), P') := by rw [hwd]; exact y1
        have hRd := l_rL (kn := kn) (N := N) (n := n) (f := f) (ln := ln) (bn := bn) (g := g) (w := w) (least := 2 ^ j) (nu := nI j) hw (size_ge cj.1) (size_le cj.2) hN hn hr hkn hb (by omega) d (by omega)
        have hz : mRel (3, 0, fun _ => 0) (0 + 4) (0, nI 3, iM, nI (0 + 4), K, P', bf) := ⟨rfl, rfl, rfl, rfl, fun k hk => (Nat.not_lt_zero k hk).elim⟩
        obtain ⟨c, r, k0, k1, k2, k3⟩ := l_rQ hw hRd (x := 0) (y := 0) (k := 0) (by omega) (by omega) (show 3 ≤ 8 * N from c1) hz y2 y3 y4 y5 (show 0 + 4 * 4 ^ d ≤ w * w by omega) (by omega)
        have hFU : FU = (FU - c - 1) + 1 + c := by unfold FU; omega
        have hle := rQ_le (g := g) (w := w) (d := d) (T := 8 * N) (least := 2 ^ j) (x := 0) (y := 0) (q := (3, 0, fun _ => 0))
        unfold f_M_read_J73
        rw [y1, Option.bind_some]
        dsimp only
        cases h3 : rQ g (8 * N) w (2 ^ j) d 0 0 (3, 0, fun _ => 0) with
        | inl e =>
          rw [h3] at k3
          have k4 : rL kn n f ln bn (nI j) (nI (2 ^ j)) (nI (2 * w)) (nI N) FU (0, nI 3, iM, nI (0 + 4), K, P', bf) = some r := by
            rw [hFU, k1]; exact rL_stop k3.1 k3.2
          have k4 : f_M_read_86 (nI j) (nI (2 ^ j)) (nI (2 * w)) (nI N) kn n f ln bn FU 0 (nI 3) iM (nI (0 + 4)) K P' bf = some r := k4
          rw [k4, Option.bind_some, k3.1]
          by_cases cc : 8 * nI N - r.2.1 ≤ 7
          · rw [if_pos cc, mtail_X k3.2]
            exact ⟨_, rfl, rfl, rfl, rfl, rfl, k2⟩
          · rw [if_neg cc, mtail_X k3.2]
            exact ⟨_, rfl, rfl, rfl, rfl, rfl, k2⟩
        | inr q =>
          rw [h3] at k3 hle
          obtain ⟨⟨z1, z2, z3, z4, z5⟩, _⟩ := k3
          obtain ⟨v1, v2⟩ := hle q rfl
          have k4 : rL kn n f ln bn (nI j) (nI (2 ^ j)) (nI (2 * w)) (nI N) FU (0, nI 3, iM, nI (0 + 4), K, P', bf) = some r := by
            rw [hFU, k1]; exact rL_end z4
          have k4 : f_M_read_86 (nI j) (nI (2 ^ j)) (nI (2 * w)) (nI N) kn n f ln bn FU 0 (nI 3) iM (nI (0 + 4)) K P' bf = some r := k4
          have tf := l_M_takeFound (c := q.2.1) (n := kn) (f := r.2.2.2.2.1) (by dsimp only at v2; omega) hkn
          have kr : kRep 0 (wr r.2.2.2.2.1 (fun k => r.2.2.2.2.1 (2048 + k)) (8 * q.2.1)) q.2.2 q.2.1 := fun k hk => by
            rw [Nat.zero_add, wr_lt hk]; exact z5 k hk
          rw [k4, Option.bind_some, z1, z2, z3]
          have e8 : 8 * nI N - nI q.1 = nI (8 * N - q.1) := by rw [n8, nJ_mul, nJ_sub v1]
          rw [e8]
          show ∃ r_1, _ ∧ mRd my K (@ite _ (8 * N - q.1 ≤ 7 ∧ allz g q.1 (8 * N - q.1)) (Classical.propDecidable _) (.inr q.2) (.inl 4)) r_1
          have fin : ∀ s, s < 2 → (s = 0 ↔ 8 * N - q.1 ≤ 7) → ∃ r_1, f_M_read_J213 (nI j) (nI (2 ^ j)) 0 my (nI q.2.1) (nI N) (nI q.1) iM r.2.2.2.1 kn r.2.2.2.2.1 n f r.2.2.2.2.2.1 r.2.2.2.2.2.2 (nI s) = some r_1 ∧ mRd my K (@ite _ (8 * N - q.1 ≤ 7 ∧ allz g q.1 (8 * N - q.1)) (Classical.propDecidable _) (.inr q.2) (.inl 4)) r_1 := by
            intro s hs hs7
            obtain ⟨s', zz, w1, w2, w3⟩ := l_M_rest (T := 8 * N) (p1 := nI j) (p2 := nI (2 ^ j)) rfl hN hn hr (8 * N - q.1) q.1 FU s (fu (by omega)) (by omega) hs
            unfold f_M_read_J213
            rw [w1, Option.bind_some, if_neg i0M]
            by_cases c5 : s' = 0
            · have c6 := w3.mp c5
              rw [if_pos (by rw [c5]; rfl), if_pos (show iM < 0 by decide), tf, Option.bind_some, if_pos ⟨hs7.mp c6.1, c6.2⟩]
              exact ⟨_, rfl, rfl, rfl, rfl, rfl, kr⟩
            · rw [if_neg (by dsimp only; rw [n0, nJ_eqF c5 (by omega) (by omega)]; exact not_false), if_neg (show ¬ (4 : Int32) < 0 by decide), if_neg (fun h => c5 (w3.mpr ⟨hs7.mpr h.1, h.2⟩))]
              exact ⟨_, rfl, rfl, rfl, rfl, rfl, k2⟩
          by_cases c7 : 8 * N - q.1 ≤ 7
          · rw [if_pos (show nI (8 * N - q.1) ≤ 7 by rw [n7, nJ_leT c7 (by omega)]; exact trivial)]
            exact fin 0 (by omega) ⟨fun _ => c7, fun _ => rfl⟩
          · rw [if_neg (show ¬ nI (8 * N - q.1) ≤ 7 by rw [n7, nJ_leF (by omega) (by omega)]; exact not_false)]
            exact fin 1 (by omega) ⟨fun h => absurd h (by omega), fun h => absurd h c7⟩
      · have gg : ¬ 2 * nI (2 ^ j) ≤ nI (2 * w) := by rw [n2, nJ_mul, nJ_leF (by omega) (by omega)]; exact not_false
        rw [if_neg gg, if_neg (fun c => c2 c.2.2)]
        exact mJ73_X (e := 0) (by omega) hwd hw hln
    · have hin : f_M_in (nI j).toInt64 1 4 = some 0 := by
        have hj : j = 0 ∨ j = 5 ∨ j = 6 ∨ j = 7 := by omega
        rcases hj with rfl | rfl | rfl | rfl <;> decide
      rw [hin, Option.bind_some, if_pos rfl, if_neg (fun c => cj ⟨c.1, c.2.1⟩)]
      exact mJ73_X (e := 0) (by omega) hwd hw hln
  · rw [if_neg c1]
    have tt := l_M_take_F (t := 0) (k := 3) (by omega) (by omega) (by omega) hN hn hr
    have tt : f_M_take 3 (nI N) 0 (-1) n f = some (0, nI (8 * N), 3) := tt
    rw [tt, Option.bind_some, if_pos (show (0 : Int32) ≤ 3 by decide)]
    exact mJ73_X (e := 3) (by omega) hwd hw hln
end
end
section
/-! a block is put together: its samples by running number -/
def ad (a b : Nat) : Nat := if b ≤ a then a - b else b - a
def mx (a b : Nat) : Nat := if a < b then b else a
theorem ad_T {a b : Nat} (h : b ≤ a) : nI a - nI b = nI (ad a b) := by rw [nJ_sub h]; unfold ad; rw [if_pos h]
theorem ad_F {a b : Nat} (h : ¬ b ≤ a) : nI a - nI b = iI (-(ad a b : Int)) := by
  rw [nJ_iI, nJ_iI, iI_sub]; unfold ad; rw [if_neg h]; congr 1; omega
theorem ad_le {a b : Nat} (ha : a ≤ 255) (hb : b ≤ 255) : ad a b ≤ 255 := by unfold ad; split <;> omega
theorem ad_pos {a b : Nat} (h : ¬ b ≤ a) : 1 ≤ ad a b := by unfold ad; rw [if_neg h]; omega
theorem ad_C {a b : Nat} (ha : a ≤ 255) (hb : b ≤ 255) : (if (0 : Int32) ≤ nI a - nI b then nI a - nI b else 0 - (nI a - nI b)) = nI (ad a b) := by
  have l := ad_le ha hb
  by_cases h : b ≤ a
  · rw [ad_T h, if_pos (by rw [n0, nJ_leT (by omega) (by omega)]; exact trivial)]
  · have p := ad_pos h
    rw [ad_F h, show (0 : Int32) = iI 0 from rfl, if_neg (by rw [iI_leF (by omega) (by omega) (by omega)]; exact not_false), iI_sub, nJ_iI]
    congr 1; omega
theorem mx_C {a b : Nat} (ha : a ≤ 255) (hb : b ≤ 255) : (if nI a < nI b then nI b else nI a) = nI (mx a b) := by
  unfold mx
  by_cases h : a < b
  · rw [if_pos h, if_pos (by rw [nJ_ltT h (by omega)]; exact trivial)]
  · rw [if_neg h, if_neg (by rw [nJ_ltF (by omega) (by omega)]; exact not_false)]
theorem mxx_le {a b : Nat} (ha : a ≤ 255) (hb : b ≤ 255) : mx a b ≤ 255 := by unfold mx; split <;> omega
def tgt (s L T z i : Nat) : Nat := (T + i / z) * s + L + i % z
theorem tgt_coord {s L T z i L' T' z' i' : Nat} (h1 : L + z ≤ s) (h2 : L' + z' ≤ s) (hi : i < z * z) (hi' : i' < z' * z') (e : tgt s L T z i = tgt s L' T' z' i') : T + i / z = T' + i' / z' ∧ L + i % z = L' + i' % z' := by
  unfold tgt at e
  have a := modLt hi
  have b := modLt hi'
  generalize i % z = u at *
  generalize i' % z' = u' at *
  generalize T + i / z = r at *
  generalize T' + i' / z' = r' at *
  have hr : r = r' := by
    rcases Nat.lt_trichotomy r r' with h | h | h
    · have : (r + 1) * s ≤ r' * s := Nat.mul_le_mul_right s h
      rw [Nat.add_mul] at this; omega
    · exact h
    · have : (r' + 1) * s ≤ r * s := Nat.mul_le_mul_right s h
      rw [Nat.add_mul] at this; omega
  subst hr
  exact ⟨rfl, by omega⟩
theorem tgt_inj {s L T z i j : Nat} (h1 : L + z ≤ s) (hi : i < z * z) (hj : j < z * z) (e : tgt s L T z i = tgt s L T z j) : i = j := by
  obtain ⟨a, b⟩ := tgt_coord h1 h1 hi hj e
  have c := Nat.div_add_mod i z
  have d := Nat.div_add_mod j z
  have a' : i / z = j / z := by omega
  have b' : i % z = j % z := by omega
  rw [← c, ← d, a', b']
theorem tgt_lt {s L T z i : Nat} (h1 : L + z ≤ s) (h2 : T + z ≤ s) (hi : i < z * z) : tgt s L T z i < s * s := by
  have a := modLt hi
  have b := divLt hi
  have := ix (x := L + i % z) (y := T + i / z) (s := s) (by omega) (by omega)
  unfold tgt; omega
def pA (s L T z : Nat) (v : Nat → Nat) (f : Nat → Int32) : Nat → (Nat → Int32)
  | 0 => f
  | i + 1 => upd (pA s L T z v f i) (tgt s L T z i) (nI (v i))
def pN (s L T z : Nat) (v : Nat → Nat) (P : Nat → Nat) : Nat → (Nat → Nat)
  | 0 => P
  | i + 1 => fun j => if j = tgt s L T z i then v i else pN s L T z v P i j
def cG (s L T z : Nat) (v : Nat → Nat) (O : Nat → Nat) : Nat → Nat
  | 0 => 0
  | i + 1 => mx (cG s L T z v O i) (ad (v i) (O (tgt s L T z i)))
section
variable {s L T z : Nat} {v P O : Nat → Nat} {f : Nat → Int32}
theorem pA_rep {M : Nat} (h : ∀ j, j < M → f j = nI (P j)) (i j : Nat) (hj : j < M) : pA s L T z v f i j = nI (pN s L T z v P i j) := by
  induction i with
  | zero => exact h j hj
  | succ i ih =>
    rw [pA, pN]
    dsimp only
    by_cases e : j = tgt s L T z i
    · rw [if_pos e, updT e]
    · rw [if_neg e, updF e, ih]
theorem pN_out {k j : Nat} (h : ∀ i, i < k → j ≠ tgt s L T z i) : pN s L T z v P k j = P j := by
  induction k with
  | zero => rfl
  | succ k ih =>
    rw [pN]
    dsimp only
    rw [if_neg (h k (by omega)), ih (fun i hi => h i (by omega))]
theorem pN_at {k : Nat} (h1 : L + z ≤ s) (hk : k < z * z) : pN s L T z v P k (tgt s L T z k) = P (tgt s L T z k) :=
  pN_out (fun i hi e => by have := tgt_inj h1 (show i < z * z by omega) hk e.symm; omega)
theorem pN_le {k j : Nat} (hv : ∀ i, v i ≤ 255) (hP : ∀ j, P j ≤ 255) : pN s L T z v P k j ≤ 255 := by
  induction k with
  | zero => exact hP j
  | succ k ih =>
    rw [pN]
    dsimp only
    split
    · exact hv k
    · exact ih
theorem cG_le {k : Nat} (hv : ∀ i, v i ≤ 255) (hO : ∀ j, O j ≤ 255) : cG s L T z v O k ≤ 255 := by
  induction k with
  | zero => exact Nat.zero_le _
  | succ k ih => rw [cG]; exact mxx_le ih (ad_le (hv k) (hO _))
theorem cG_congr {k : Nat} (h : ∀ i, i < k → P (tgt s L T z i) = O (tgt s L T z i)) : cG s L T z v P k = cG s L T z v O k := by
  induction k with
  | zero => rfl
  | succ k ih => rw [cG, cG, ih (fun i hi => h i (by omega)), h k (by omega)]
end
/-- a sample of a block, from a half q -/
def vB (q : Nat → Nat) (w' dL dT z t : Nat) (con off : Int) (i : Nat) : Nat := (clampI 0 255 (dim con (q (dcell w' dL dT (z - 1) t (i % z) (i / z))) + off)).toNat
theorem vB_le {q : Nat → Nat} {w' dL dT z t : Nat} {con off : Int} (i : Nat) : vB q w' dL dT z t con off i ≤ 255 := by
  unfold vB
  have := clampI_in (lo := 0) (hi := 255) (z := dim con (q (dcell w' dL dT (z - 1) t (i % z) (i / z))) + off) (by omega)
  omega
theorem rowIdx {y x z : Nat} (hx : x < z) : (y * z + x) / z = y ∧ (y * z + x) % z = x := by
  constructor
  · rw [Nat.add_comm, Nat.add_mul_div_right _ _ (by omega), Nat.div_eq_of_lt hx, Nat.zero_add]
  · rw [Nat.add_comm, Nat.add_mul_mod_self_right, Nat.mod_eq_of_lt hx]
section
variable {s L T z w' dL dT t hn nn : Nat} {con off : Int} {q P : Nat → Nat} {f HA : Nat → Int32}
theorem l_C104 {y : Nat} {p1 p2 : Int32} (hs : s ≤ 64) (hw' : w' ≤ 64) (hz : 2 ≤ z) (h1 : L + z ≤ s) (h2 : T + z ≤ s) (hnn : s * s ≤ nn) (h8 : t < 8) (hdL : dL + z ≤ w') (hdT : dT + z ≤ w') (hHn : w' * w' ≤ hn) (hHn2 : hn < 2147483648)
    (hc1 : -7 ≤ con) (hc2 : con ≤ 7) (ho1 : -256 ≤ off) (ho2 : off ≤ 767) (hHA : ∀ k, k < w' * w' → HA k = nI (q k) ∧ q k ≤ 255) (hf : ∀ j, j < s * s → f j = nI (P j)) (hP : ∀ j, P j ≤ 255) (hy : y < z) :
    f_F_decodeBlock_104 p1 p2 (nI L) (nI T) (nI z) (iI con) (iI off) (nI y) (nI s) nn hn HA (nI (dcell w' dL dT (z - 1) t 0 0)) (nI (dcell w' dL dT (z - 1) t 1 0) - nI (dcell w' dL dT (z - 1) t 0 0)) (nI (dcell w' dL dT (z - 1) t 0 1) - nI (dcell w' dL dT (z - 1) t 0 0)) FU (nI (cG s L T z (vB q w' dL dT z t con off) P (y * z))) 0 (pA s L T z (vB q w' dL dT z t con off) f (y * z)) =
      some (nI (cG s L T z (vB q w' dL dT z t con off) P ((y + 1) * z)), nI z, pA s L T z (vB q w' dL dT z t con off) f ((y + 1) * z)) := by
  have key := lp_up (L := fun n' (a : Nat × (Nat → Int32)) v => f_F_decodeBlock_104 p1 p2 (nI L) (nI T) (nI z) (iI con) (iI off) (nI y) (nI s) nn hn HA (nI (dcell w' dL dT (z - 1) t 0 0)) (nI (dcell w' dL dT (z - 1) t 1 0) - nI (dcell w' dL dT (z - 1) t 0 0)) (nI (dcell w' dL dT (z - 1) t 0 1) - nI (dcell w' dL dT (z - 1) t 0 0)) n' (nI a.1) (nI v) a.2)
    (st := fun x => (cG s L T z (vB q w' dL dT z t con off) P (y * z + x), pA s L T z (vB q w' dL dT z t con off) f (y * z + x))) (b := z) (fin := (nI (cG s L T z (vB q w' dL dT z t con off) P (y * z + z)), nI z, pA s L T z (vB q w' dL dT z t con off) f (y * z + z)))
    (fun n' => by
      show f_F_decodeBlock_104 _ _ _ _ _ _ _ _ _ _ _ _ _ _ _ (n' + 1) _ _ _ = _
      rw [f_F_decodeBlock_104, if_pos (by rw [nJ_leT (Nat.le_refl _) (by omega)]; exact trivial)])
    (fun n' x hx => by
      show f_F_decodeBlock_104 _ _ _ _ _ _ _ _ _ _ _ _ _ _ _ (n' + 1) _ _ _ = f_F_decodeBlock_104 _ _ _ _ _ _ _ _ _ _ _ _ _ _ _ n' _ _ _
      obtain ⟨r1, r2⟩ := rowIdx (y := y) hx
      have hi : y * z + x < z * z := ix hx hy
      have hcell := dcell_lt (w := w') (left := dL) (top := dT) (m := z - 1) (turn := t) (x := x) (y := y) h8 (by omega) (by omega) (by omega) (by omega)
      obtain ⟨g1, g2⟩ := hHA _ hcell
      have hdim := dim_bound hc1 hc2 g2
      have hcl := clampI_in (lo := 0) (hi := 255) (z := dim con (q (dcell w' dL dT (z - 1) t x y)) + off) (by omega)
      have ev : vB q w' dL dT z t con off (y * z + x) = (clampI 0 255 (dim con (q (dcell w' dL dT (z - 1) t x y)) + off)).toNat := by unfold vB; rw [r1, r2]
      have et : tgt s L T z (y * z + x) = (T + y) * s + (L + x) := by unfold tgt; rw [r1, r2]; omega
      have s1 := l_V_sample (w := w') (left := dL) (top := dT) (size := z) (turn := t) (x := x) (y := y) (n := hn) (f := HA) hw' hz h8 hx hy hdL hdT hHn hHn2
      have s2 := l_F_dimmed hc1 hc2 g2
      have s3 := l_F_brought (a := dim con (q (dcell w' dL dT (z - 1) t x y)) + off) (lo := 0) (hi := 255) (by omega) (by omega) (by omega) (by omega) (by omega)
      have s3 : f_F_brought (lI (dim con (q (dcell w' dL dT (z - 1) t x y)) + off)) 0 255 = _ := s3
      have e5 : iI (clampI 0 255 (dim con (q (dcell w' dL dT (z - 1) t x y)) + off)) = nI (vB q w' dL dT z t con off (y * z + x)) := by rw [ev, nJ_iI, Int.toNat_of_nonneg hcl.1]
      have e6 : pA s L T z (vB q w' dL dT z t con off) f (y * z + x) ((T + y) * s + (L + x)) = nI (P ((T + y) * s + (L + x))) := by
        rw [← et, pA_rep hf _ _ (tgt_lt h1 h2 hi), pN_at h1 hi]
      have b1 := vB_le (q := q) (w' := w') (dL := dL) (dT := dT) (z := z) (t := t) (con := con) (off := off) (y * z + x)
      have b2 := hP ((T + y) * s + (L + x))
      have b3 := cG_le (s := s) (L := L) (T := T) (z := z) (v := vB q w' dL dT z t con off) (O := P) (k := y * z + x) (fun i => vB_le i) hP
      rw [f_F_decodeBlock_104, if_neg (by rw [nJ_leF hx (by omega)]; exact not_false)]
      dsimp only
      rw [s1, Option.bind_some, g1, s2, Option.bind_some, iI_add, iI_long (by omega) (by omega), s3, Option.bind_some, lI_int, e5, nJ_add, nJ_add, l_G_sample hs (show L + x < s by omega) (show T + y < s by omega) hnn, Option.bind_some, l_G_set hs (show L + x < s by omega) (show T + y < s by omega) hnn, Option.bind_some, e6, ad_C b1 b2, mx_C b3 (ad_le b1 b2), n1, nJ_add]
      rw [show y * z + (x + 1) = (y * z + x) + 1 by omega, cG, pA, et])
    FU 0 (Nat.zero_le _) (fu (by omega))
  have e : (y + 1) * z = y * z + z := by rw [Nat.add_mul, Nat.one_mul]
  rw [e]
  exact key
theorem l_C94 {p1 p2 : Int32} (hs : s ≤ 64) (hw' : w' ≤ 64) (hz : 2 ≤ z) (h1 : L + z ≤ s) (h2 : T + z ≤ s) (hnn : s * s ≤ nn) (h8 : t < 8) (hdL : dL + z ≤ w') (hdT : dT + z ≤ w') (hHn : w' * w' ≤ hn) (hHn2 : hn < 2147483648)
    (hc1 : -7 ≤ con) (hc2 : con ≤ 7) (ho1 : -256 ≤ off) (ho2 : off ≤ 767) (hHA : ∀ k, k < w' * w' → HA k = nI (q k) ∧ q k ≤ 255) (hf : ∀ j, j < s * s → f j = nI (P j)) (hP : ∀ j, P j ≤ 255) :
    f_F_decodeBlock_94 p1 p2 (nI L) (nI T) (nI z) (iI con) (iI off) (nI s) nn hn HA (nI (dcell w' dL dT (z - 1) t 0 0)) (nI (dcell w' dL dT (z - 1) t 1 0) - nI (dcell w' dL dT (z - 1) t 0 0)) (nI (dcell w' dL dT (z - 1) t 0 1) - nI (dcell w' dL dT (z - 1) t 0 0)) FU 0 0 f =
      some (nI (cG s L T z (vB q w' dL dT z t con off) P (z * z)), nI z, pA s L T z (vB q w' dL dT z t con off) f (z * z)) := by
  have key := lp_up (L := fun n' (a : Nat × (Nat → Int32)) v => f_F_decodeBlock_94 p1 p2 (nI L) (nI T) (nI z) (iI con) (iI off) (nI s) nn hn HA (nI (dcell w' dL dT (z - 1) t 0 0)) (nI (dcell w' dL dT (z - 1) t 1 0) - nI (dcell w' dL dT (z - 1) t 0 0)) (nI (dcell w' dL dT (z - 1) t 0 1) - nI (dcell w' dL dT (z - 1) t 0 0)) n' (nI a.1) (nI v) a.2)
    (st := fun y => (cG s L T z (vB q w' dL dT z t con off) P (y * z), pA s L T z (vB q w' dL dT z t con off) f (y * z))) (b := z) (fin := (nI (cG s L T z (vB q w' dL dT z t con off) P (z * z)), nI z, pA s L T z (vB q w' dL dT z t con off) f (z * z)))
    (fun n' => by
      show f_F_decodeBlock_94 _ _ _ _ _ _ _ _ _ _ _ _ _ _ (n' + 1) _ _ _ = _
      rw [f_F_decodeBlock_94, if_pos (by rw [nJ_leT (Nat.le_refl _) (by omega)]; exact trivial)])
    (fun n' y hy => by
      show f_F_decodeBlock_94 _ _ _ _ _ _ _ _ _ _ _ _ _ _ (n' + 1) _ _ _ = f_F_decodeBlock_94 _ _ _ _ _ _ _ _ _ _ _ _ _ _ n' _ _ _
      rw [f_F_decodeBlock_94, if_neg (by rw [nJ_leF hy (by omega)]; exact not_false)]
      dsimp only
      rw [l_C104 hs hw' hz h1 h2 hnn h8 hdL hdT hHn hHn2 hc1 hc2 ho1 ho2 hHA hf hP hy, Option.bind_some, n1, nJ_add])
    FU 0 (Nat.zero_le _) (fu (by omega))
  rw [Nat.zero_mul] at key
  exact key
theorem neg_iI (a : Nat) : -iI (-(a : Int)) = nI a := by rw [iI_neg, nJ_iI]; congr 1; omega
theorem l_M77 {k x y m kn on ohn : Nat} {K ol O' : Nat → Int32} {p3 p6 p7 : Int32} {O : Nat → Nat} (hs : s ≤ 64) (hz : 2 ≤ z) (h1 : x * m + z ≤ s) (h2 : y * m + z ≤ s) (hnn : s * s ≤ nn) (hon : s * s ≤ on) (h8 : t < 8) (hsw : s / 2 = w') (hdL : dL + z ≤ w') (hdT : dT + z ≤ w') (hHn : w' * w' ≤ hn)
    (hc1 : -7 ≤ con) (hc2 : con ≤ 7) (ho1 : -256 ≤ off) (ho2 : off ≤ 767) (hHA : ∀ k, k < w' * w' → HA k = nI (q k) ∧ q k ≤ 255) (hol : ∀ j, j < s * s → ol j = nI (O j)) (hO : ∀ j, O j ≤ 255)
    (hk : 8 * k + 7 < kn) (hkn : kn ≤ 4096) (k0 : K (8 * k) = nI x) (k1 : K (8 * k + 1) = nI y) (k4 : K (8 * k + 4) = nI t) (k5 : K (8 * k + 5) = iI con) (k6 : K (8 * k + 6) = iI off) :
    f_M_decodeBlock_77 (nI k) (nI m) p3 (nI z) (nI s) p6 p7 (nI dL) (nI dT) kn K nn on ol hn HA FU 0 0 f = some (nI (cG s (x * m) (y * m) z (vB q w' dL dT z t con off) O (z * z)), nI (z * z), pA s (x * m) (y * m) z (vB q w' dL dT z t con off) f (z * z)) := by
  have hz2 := sq64 (show z ≤ 64 by omega)
  have hs2 := sq64 hs
  have hmx : x * m ≤ 64 := by omega
  have hmy : y * m ≤ 64 := by omega
  have key := lp_up (L := fun n' (a : Nat × (Nat → Int32)) v => f_M_decodeBlock_77 (nI k) (nI m) p3 (nI z) (nI s) p6 p7 (nI dL) (nI dT) kn K nn on ol hn HA n' (nI a.1) (nI v) a.2)
    (st := fun i => (cG s (x * m) (y * m) z (vB q w' dL dT z t con off) O i, pA s (x * m) (y * m) z (vB q w' dL dT z t con off) f i)) (b := z * z) (fin := (nI (cG s (x * m) (y * m) z (vB q w' dL dT z t con off) O (z * z)), nI (z * z), pA s (x * m) (y * m) z (vB q w' dL dT z t con off) f (z * z)))
    (fun n' => by
      show f_M_decodeBlock_77 _ _ _ _ _ _ _ _ _ _ _ _ _ _ _ _ (n' + 1) _ _ _ = _
      rw [f_M_decodeBlock_77, nJ_mul, if_pos (by rw [nJ_leT (Nat.le_refl _) (by omega)]; exact trivial)])
    (fun n' i hi => by
      show f_M_decodeBlock_77 _ _ _ _ _ _ _ _ _ _ _ _ _ _ _ _ (n' + 1) _ _ _ = f_M_decodeBlock_77 _ _ _ _ _ _ _ _ _ _ _ _ _ _ _ _ n' _ _ _
      have hx := modLt hi
      have hy := divLt hi
      have hcell := dcell_lt (w := w') (left := dL) (top := dT) (m := z - 1) (turn := t) (x := i % z) (y := i / z) h8 (by omega) (by omega) (by omega) (by omega)
      obtain ⟨g1, g2⟩ := hHA _ hcell
      have hdim := dim_bound hc1 hc2 g2
      have hcl := clampI_in (lo := 0) (hi := 255) (z := dim con (q (dcell w' dL dT (z - 1) t (i % z) (i / z))) + off) (by omega)
      have s1 := l_M_turned (w := w') (left := dL) (top := dT) (size := z) (turn := t) (k := i) (n := hn) (f := HA) (by omega) hdL hdT hHn hi h8
      have s2 := l_M_mapped hc1 hc2 g2
      have s3 := l_M_brought (a := dim con (q (dcell w' dL dT (z - 1) t (i % z) (i / z))) + off) (lo := 0) (hi := 255) (by omega) (by omega) (by omega) (by omega) (by omega)
      have s3 : f_M_brought (lI (dim con (q (dcell w' dL dT (z - 1) t (i % z) (i / z))) + off)) 0 255 = _ := s3
      have e5 : iI (clampI 0 255 (dim con (q (dcell w' dL dT (z - 1) t (i % z) (i / z))) + off)) = nI (vB q w' dL dT z t con off i) := by
        rw [nJ_iI]; unfold vB; rw [Int.toNat_of_nonneg hcl.1]
      have b1 := vB_le (q := q) (w' := w') (dL := dL) (dT := dT) (z := z) (t := t) (con := con) (off := off) i
      have tl := tgt_lt (i := i) h1 h2 hi
      have b2 := hO (tgt s (x * m) (y * m) z i)
      have b3 := cG_le (s := s) (L := x * m) (T := y * m) (z := z) (v := vB q w' dL dT z t con off) (O := O) (k := i) (fun i => vB_le i) hO
      have em : i - i / z * z = i % z := modSub i z
      have ml : i / z * z ≤ i := Nat.div_mul_le_self i z
      have et : (((nI y * nI m + nI i / nI z) * nI s + nI x * nI m) + (nI i - nI i / nI z * nI z)) = nI (tgt s (x * m) (y * m) z i) := by
        rw [nJ_div (by omega) (by omega), nJ_mul, nJ_mul, nJ_mul, nJ_add, nJ_mul, nJ_sub ml, em, nJ_add, nJ_add]; rfl
      have cz : ¬ nI z = 0 := by rw [n0, nJ_eqF (by omega) (by omega) (by omega)]; exact not_false
      have cl : (nI (tgt s (x * m) (y * m) z i)).toNatClampNeg = tgt s (x * m) (y * m) z i := nJ_clamp (by omega)
      have i1 : ¬ (nI (tgt s (x * m) (y * m) z i) < 0 ∨ nn ≤ tgt s (x * m) (y * m) z i) := by rw [n0, nJ_ltF (by omega) (by omega), false_or]; omega
      have i2 : ¬ (nI (tgt s (x * m) (y * m) z i) < 0 ∨ on ≤ tgt s (x * m) (y * m) z i) := by rw [n0, nJ_ltF (by omega) (by omega), false_or]; omega
      have ix0 : ∀ u, u ≤ 7 → ¬ (nI (8 * k + u) < 0 ∨ kn ≤ 8 * k + u) := fun u hu => by rw [n0, nJ_ltF (by omega) (by omega), false_or]; omega
      have ixz : ¬ (nI (8 * k) < 0 ∨ kn ≤ 8 * k) := by rw [n0, nJ_ltF (by omega) (by omega), false_or]; omega
      have a0 : (8 : Int32) * nI k = nI (8 * k) := by rw [n8, nJ_mul]
      have a1 : nI (8 * k) + 1 = nI (8 * k + 1) := by rw [n1, nJ_add]
      have a4 : nI (8 * k) + 4 = nI (8 * k + 4) := by rw [n4, nJ_add]
      have a5 : nI (8 * k) + 5 = nI (8 * k + 5) := by rw [n5, nJ_add]
      have a6 : nI (8 * k) + 6 = nI (8 * k + 6) := by rw [n6, nJ_add]
      have c0 : (nI (8 * k)).toNatClampNeg = 8 * k := nJ_clamp (by omega)
      have c1 : (nI (8 * k + 1)).toNatClampNeg = 8 * k + 1 := nJ_clamp (by omega)
      have c4 : (nI (8 * k + 4)).toNatClampNeg = 8 * k + 4 := nJ_clamp (by omega)
      have c5 : (nI (8 * k + 5)).toNatClampNeg = 8 * k + 5 := nJ_clamp (by omega)
      have c6 : (nI (8 * k + 6)).toNatClampNeg = 8 * k + 6 := nJ_clamp (by omega)
      have hh : nI s / 2 = nI w' := by rw [n2, nJ_div (by omega) (by omega), hsw]
      have eO := hol _ tl
      rw [f_M_decodeBlock_77, nJ_mul, if_neg (by rw [nJ_leF hi (by omega)]; exact not_false), a0, a1, a4, a5, a6, c0, c1, c4, c5, c6, if_neg (ix0 5 (by omega)), if_neg (ix0 4 (by omega)), k4, k5, hh, s1, Option.bind_some, g1, s2, Option.bind_some, if_neg (ix0 6 (by omega)), if_neg (ix0 1 (by omega)), if_neg cz, if_neg ixz, if_neg cz, k0, k1, k6, iI_add, iI_long (by omega) (by omega), s3, Option.bind_some, e5, et, cl, if_neg i1, if_neg i1, if_neg i2, upd_eq, eO]
      have ee : nI i + 1 = nI (i + 1) := by rw [n1, nJ_add]
      rw [ee]
      show _ = f_M_decodeBlock_77 _ _ _ _ _ _ _ _ _ _ _ _ _ _ _ _ n' (nI (mx (cG s (x * m) (y * m) z (vB q w' dL dT z t con off) O i) (ad (vB q w' dL dT z t con off i) (O (tgt s (x * m) (y * m) z i))))) _ (upd (pA s (x * m) (y * m) z (vB q w' dL dT z t con off) f i) (tgt s (x * m) (y * m) z i) (nI (vB q w' dL dT z t con off i)))
      have l := ad_le b1 b2
      dsimp only
      by_cases h : O (tgt s (x * m) (y * m) z i) ≤ vB q w' dL dT z t con off i
      · rw [ad_T h, if_pos (by rw [n0, nJ_leT (by omega) (by omega)]; exact trivial)]
        unfold mx
        by_cases hc : cG s (x * m) (y * m) z (vB q w' dL dT z t con off) O i < ad (vB q w' dL dT z t con off i) (O (tgt s (x * m) (y * m) z i))
        · rw [if_pos hc, if_neg (by rw [nJ_leF hc (by omega)]; exact not_false)]
        · rw [if_neg hc, if_pos (by rw [nJ_leT (by omega) (by omega)]; exact trivial)]
      · have p := ad_pos h
        rw [ad_F h, if_neg (by rw [show (0 : Int32) = iI 0 from rfl, iI_leF (by omega) (by omega) (by omega)]; exact not_false), neg_iI]
        unfold mx
        by_cases hc : cG s (x * m) (y * m) z (vB q w' dL dT z t con off) O i < ad (vB q w' dL dT z t con off i) (O (tgt s (x * m) (y * m) z i))
        · rw [if_pos hc, if_neg (by rw [nJ_leF hc (by omega)]; exact not_false)]
        · rw [if_neg hc, if_pos (by rw [nJ_leT (by omega) (by omega)]; exact trivial)])
    FU 0 (Nat.zero_le _) (fu (by omega))
  exact key
end
end
section
/-! putting together: blocks, rounds -/
def bX (F : Nat → Int) (i : Nat) : Nat := (F (8 * i)).toNat
def bY (F : Nat → Int) (i : Nat) : Nat := (F (8 * i + 1)).toNat
def bH (F : Nat → Int) (i : Nat) : Nat := (F (8 * i + 2)).toNat / 2
def bD (F : Nat → Int) (i : Nat) : Nat := (F (8 * i + 3)).toNat
def bT (F : Nat → Int) (i : Nat) : Nat := (F (8 * i + 4)).toNat
/-- a block's facts are such as can be put together -/
def okB (w : Nat) (F : Nat → Int) (i : Nat) : Prop := (F (8 * i) = (bX F i : Int) ∧ F (8 * i + 1) = (bY F i : Int) ∧ F (8 * i + 2) = ((2 * bH F i : Nat) : Int) ∧ F (8 * i + 3) = (bD F i : Int) ∧ F (8 * i + 4) = (bT F i : Int)) ∧ 0 < bH F i ∧ 2 * bH F i ≤ w ∧ bX F i + 2 * bH F i ≤ 2 * w ∧ bY F i + 2 * bH F i ≤ 2 * w ∧ bD F i < dac w (bH F i) * dac w (bH F i) ∧ bT F i < 8 ∧ -7 ≤ F (8 * i + 5) ∧ F (8 * i + 5) ≤ 7 ∧ -256 ≤ F (8 * i + 6) ∧ F (8 * i + 6) ≤ 767
def apart (F : Nat → Int) (i j : Nat) : Prop := bX F i + 2 * bH F i ≤ bX F j ∨ bX F j + 2 * bH F j ≤ bX F i ∨ bY F i + 2 * bH F i ≤ bY F j ∨ bY F j + 2 * bH F j ≤ bY F i
def okF (w : Nat) (F : Nat → Int) (c : Nat) : Prop := (∀ i, i < c → okB w F i) ∧ ∀ i j, i < j → j < c → apart F i j
def vF (q : Nat → Nat) (w m : Nat) (F : Nat → Int) (i : Nat) : Nat → Nat := vB q (w * m) (domL (w * m) (bH F i * m) (bD F i)) (domT (w * m) (bH F i * m) (bD F i)) (2 * (bH F i * m)) (bT F i) (F (8 * i + 5)) (F (8 * i + 6))
def rP (w m : Nat) (F : Nat → Int) (O q : Nat → Nat) : Nat → (Nat → Nat)
  | 0 => O
  | k + 1 => pN (2 * (w * m)) (bX F k * m) (bY F k * m) (2 * (bH F k * m)) (vF q w m F k) (rP w m F O q k) (2 * (bH F k * m) * (2 * (bH F k * m)))
def rC (w m : Nat) (F : Nat → Int) (O q : Nat → Nat) : Nat → Nat
  | 0 => 0
  | k + 1 => mx (rC w m F O q k) (cG (2 * (w * m)) (bX F k * m) (bY F k * m) (2 * (bH F k * m)) (vF q w m F k) O (2 * (bH F k * m) * (2 * (bH F k * m))))
theorem dac_mul {w h m : Nat} (hm : 0 < m) : dac (w * m) (h * m) = dac w h := by
  unfold dac
  rw [Nat.mul_div_mul_right w h hm]
theorem m_le {a b m : Nat} (h : a ≤ b) : a * m ≤ b * m := Nat.mul_le_mul_right m h
theorem m_add (a b m : Nat) : (a + b) * m = a * m + b * m := Nat.add_mul a b m
theorem m_two (a m : Nat) : 2 * a * m = 2 * (a * m) := Nat.mul_assoc 2 a m
section
variable {w m : Nat} {F : Nat → Int} {O q : Nat → Nat} {c : Nat}
/-- the scaled square of a block lies in the picture -/
theorem okB_in {i : Nat} (hm : 0 < m) (h : okB w F i) : 2 ≤ 2 * (bH F i * m) ∧ bX F i * m + 2 * (bH F i * m) ≤ 2 * (w * m) ∧ bY F i * m + 2 * (bH F i * m) ≤ 2 * (w * m) ∧ 2 * (bH F i * m) ≤ w * m ∧ domL (w * m) (bH F i * m) (bD F i) + 2 * (bH F i * m) ≤ w * m ∧ domT (w * m) (bH F i * m) (bD F i) + 2 * (bH F i * m) ≤ w * m := by
  obtain ⟨_, h1, h2, h3, h4, h5, _⟩ := h
  have p : 0 < bH F i * m := Nat.mul_pos h1 hm
  have a2 := m_le (m := m) h2
  have a3 := m_le (m := m) h3
  have a4 := m_le (m := m) h4
  rw [m_add, m_two, m_two] at a3 a4
  rw [m_two] at a2
  have dd := dom_in (w := w * m) (h := bH F i * m) (d := bD F i) p a2 (by rw [dac_mul hm]; exact h5)
  exact ⟨by omega, a3, a4, a2, dd.1, dd.2⟩
theorem apart_tgt {i j u u' : Nat} (hm : 0 < m) (hi : okB w F i) (hj : okB w F j) (ha : apart F i j) (hu : u < 2 * (bH F i * m) * (2 * (bH F i * m))) (hu' : u' < 2 * (bH F j * m) * (2 * (bH F j * m))) :
    tgt (2 * (w * m)) (bX F j * m) (bY F j * m) (2 * (bH F j * m)) u' ≠ tgt (2 * (w * m)) (bX F i * m) (bY F i * m) (2 * (bH F i * m)) u := by
  intro e
  have a := okB_in hm hi
  have b := okB_in hm hj
  obtain ⟨e1, e2⟩ := tgt_coord b.2.1 a.2.1 hu' hu e
  have c1 := modLt hu
  have c2 := divLt hu
  have c3 := modLt hu'
  have c4 := divLt hu'
  generalize u / (2 * (bH F i * m)) = d1 at e1 c2
  generalize u' / (2 * (bH F j * m)) = d2 at e1 c4
  rcases ha with h | h | h | h
  · have := m_le (m := m) h
    rw [m_add, m_two] at this; omega
  · have := m_le (m := m) h
    rw [m_add, m_two] at this; omega
  · have := m_le (m := m) h
    rw [m_add, m_two] at this; omega
  · have := m_le (m := m) h
    rw [m_add, m_two] at this; omega
theorem rP_out {k j : Nat} (h : ∀ i, i < k → ∀ u, u < 2 * (bH F i * m) * (2 * (bH F i * m)) → j ≠ tgt (2 * (w * m)) (bX F i * m) (bY F i * m) (2 * (bH F i * m)) u) : rP w m F O q k j = O j := by
  induction k with
  | zero => rfl
  | succ k ih => rw [rP, pN_out (h k (by omega)), ih (fun i hi => h i (by omega))]
theorem rP_at {k u : Nat} (hm : 0 < m) (hF : okF w F c) (hk : k < c) (hu : u < 2 * (bH F k * m) * (2 * (bH F k * m))) :
    rP w m F O q k (tgt (2 * (w * m)) (bX F k * m) (bY F k * m) (2 * (bH F k * m)) u) = O (tgt (2 * (w * m)) (bX F k * m) (bY F k * m) (2 * (bH F k * m)) u) :=
  rP_out (fun i hi v hv => apart_tgt hm (hF.1 i (by omega)) (hF.1 k hk) (hF.2 i k hi hk) hv hu)
theorem vF_le (i j : Nat) : vF q w m F i j ≤ 255 := vB_le j
theorem rP_le (hO : ∀ j, O j ≤ 255) : ∀ k j, rP w m F O q k j ≤ 255 := by
  intro k
  induction k with
  | zero => exact hO
  | succ k ih => intro j; rw [rP]; exact pN_le (fun i => vF_le k i) ih
theorem rC_le (hO : ∀ j, O j ≤ 255) : ∀ k, rC w m F O q k ≤ 255 := by
  intro k
  induction k with
  | zero => exact Nat.zero_le _
  | succ k ih => rw [rC]; exact mxx_le ih (cG_le (fun i => vF_le k i) hO)
theorem l_K_fact {k j kn : Nat} {K : Nat → Int32} (hk : k < c) (hj : j < 8) (h : 8 * c ≤ kn) (hkn : kn ≤ 2048) : f_K_fact (nI k) (nI j) (nI c) kn K = some (K (8 * k + j)) := by
  unfold f_K_fact
  simp (disch := omega) only [n0, n1, n2, n3, n4, n5, n6, n7, n8, n10, n16, n40, n128, n255, n256, n1024, n2000, n2048, nJ_add, nJ_mul, nJ_sub, nJ_leT, nJ_leF, nJ_ltT, nJ_ltF, nJ_eqT, nJ_eqF, nJ_clamp, nJ_div, nM, iM_eqF, iM_eqF2, iM_leF, iM_ltF, iM_leT, iM_ltT, iM_add, iM_add0, natLeF, natLeT, natLtF, natLtT, natEqF, natEqT, if_true, if_false, ite_true, ite_false, false_or, or_false, or_self, Option.bind_some, ↓reduceIte]
theorem sh2 : ∀ sc, sc < 2 → ∀ a, a < 65 → nI a <<< (nI sc &&& 31) = nI (a * (sc + 1)) := by decide +kernel
/-- the facts of a block in an array -/
theorem kRep_at {o k : Nat} {K : Nat → Int32} (hr : kRep o K F c) (hk : k < c) (hB : okB w F k) : K (o + (8 * k)) = nI (bX F k) ∧ K (o + (8 * k + 1)) = nI (bY F k) ∧ K (o + (8 * k + 2)) = nI (2 * bH F k) ∧ K (o + (8 * k + 3)) = nI (bD F k) ∧ K (o + (8 * k + 4)) = nI (bT F k) ∧ K (o + (8 * k + 5)) = iI (F (8 * k + 5)) ∧ K (o + (8 * k + 6)) = iI (F (8 * k + 6)) := by
  obtain ⟨⟨e0, e1, e2, e3, e4⟩, _⟩ := hB
  refine ⟨?_, ?_, ?_, ?_, ?_, hr _ (by omega), hr _ (by omega)⟩
  · rw [hr _ (by omega), e0, nJ_iI]
  · rw [hr _ (by omega), e1, nJ_iI]
  · rw [hr _ (by omega), e2, nJ_iI]
  · rw [hr _ (by omega), e3, nJ_iI]
  · rw [hr _ (by omega), e4, nJ_iI]
theorem l_C_block {k sc kn nn hn : Nat} {K f HA : Nat → Int32} {P : Nat → Nat} {a1 a2 a3 a4 a5 : Int32} (hw : w ≤ 16) (hsc : sc < 2) (hm : m = sc + 1) (hB : okB w F k) (hk : k < c) (hr : kRep 0 K F c) (hc : 8 * c ≤ kn) (hkn : kn ≤ 2048) (hnn : 2 * (w * m) * (2 * (w * m)) ≤ nn) (hHn : w * m * (w * m) ≤ hn) (hHn2 : hn < 2147483648)
    (hHA : ∀ k, k < w * m * (w * m) → HA k = nI (q k) ∧ q k ≤ 255) (hf : ∀ j, j < 2 * (w * m) * (2 * (w * m)) → f j = nI (P j)) (hP : ∀ j, P j ≤ 255) :
    ∃ b1 b2 b3 b4 b5, f_F_decodeBlock (nI k) (nI sc) (nI (2 * (w * m))) nn f (nI (w * m)) hn HA a1 a2 a3 a4 a5 (nI c) kn K = some (nI (cG (2 * (w * m)) (bX F k * m) (bY F k * m) (2 * (bH F k * m)) (vF q w m F k) P (2 * (bH F k * m) * (2 * (bH F k * m)))), pA (2 * (w * m)) (bX F k * m) (bY F k * m) (2 * (bH F k * m)) (vF q w m F k) f (2 * (bH F k * m) * (2 * (bH F k * m))), b1, b2, b3, b4, b5) := by
  have hm0 : 0 < m := by omega
  have hin := okB_in hm0 hB
  obtain ⟨k0, k1, k2, k3, k4, k5, k6⟩ := kRep_at hr hk hB
  simp only [Nat.zero_add] at k0 k1 k2 k3 k4 k5 k6
  obtain ⟨_, g1, g2, g3, g4, g5, g6, g7, g8, g9, g10⟩ := hB
  have hwm : w * m ≤ 32 := by
    have : w * m ≤ 16 * 2 := Nat.mul_le_mul hw (by omega)
    omega
  have f0 : f_K_fact (nI k) 0 (nI c) kn K = some (nI (bX F k)) := by rw [← k0]; exact l_K_fact (j := 0) hk (by omega) hc hkn
  have f1 : f_K_fact (nI k) 1 (nI c) kn K = some (nI (bY F k)) := by rw [← k1]; exact l_K_fact (j := 1) hk (by omega) hc hkn
  have f2 : f_K_fact (nI k) 2 (nI c) kn K = some (nI (2 * bH F k)) := by rw [← k2]; exact l_K_fact (j := 2) hk (by omega) hc hkn
  have f3 : f_K_fact (nI k) 3 (nI c) kn K = some (nI (bD F k)) := by rw [← k3]; exact l_K_fact (j := 3) hk (by omega) hc hkn
  have f4 : f_K_fact (nI k) 4 (nI c) kn K = some (nI (bT F k)) := by rw [← k4]; exact l_K_fact (j := 4) hk (by omega) hc hkn
  have f5 : f_K_fact (nI k) 5 (nI c) kn K = some (iI (F (8 * k + 5))) := by rw [← k5]; exact l_K_fact (j := 5) hk (by omega) hc hkn
  have f6 : f_K_fact (nI k) 6 (nI c) kn K = some (iI (F (8 * k + 6))) := by rw [← k6]; exact l_K_fact (j := 6) hk (by omega) hc hkn
  have s0 := sh2 sc hsc (bX F k) (by omega)
  have s1 := sh2 sc hsc (bY F k) (by omega)
  have s2 := sh2 sc hsc (2 * bH F k) (by omega)
  rw [← hm] at s0 s1 s2
  rw [m_two] at s2
  have va := l_V_aim (w := w * m) (h := bH F k * m) (d := bD F k) (turn := bT F k) (a := a1) (b := a2) (c := a3) hwm (Nat.mul_pos g1 hm0) hin.2.2.2.1 (by rw [dac_mul hm0]; exact g5) g6
  have c94 := l_C94 (s := 2 * (w * m)) (L := bX F k * m) (T := bY F k * m) (z := 2 * (bH F k * m)) (w' := w * m) (dL := domL (w * m) (bH F k * m) (bD F k)) (dT := domT (w * m) (bH F k * m) (bD F k)) (t := bT F k) (hn := hn) (nn := nn) (con := F (8 * k + 5)) (off := F (8 * k + 6)) (q := q) (P := P) (f := f) (HA := HA) (p1 := nI k) (p2 := nI sc) (by omega) (by omega) hin.1 hin.2.1 hin.2.2.1 hnn g6 hin.2.2.2.2.1 hin.2.2.2.2.2 hHn hHn2 g7 g8 g9 g10 hHA hf hP
  unfold f_F_decodeBlock
  rw [f0, Option.bind_some, f1, Option.bind_some, f2, Option.bind_some, f5, Option.bind_some, f6, Option.bind_some, f3, Option.bind_some, f4, Option.bind_some, s0, s1, s2, va, Option.bind_some]
  dsimp only
  rw [c94, Option.bind_some]
  exact ⟨_, _, _, _, _, rfl⟩
theorem l_M_block {k kn nn on hn : Nat} {K f ol HA : Nat → Int32} (hw : w ≤ 16) (hm0 : 0 < m) (hm2 : m ≤ 2) (hB : okB w F k) (hk : k < c) (hr : kRep 0 K F c) (hc : c ≤ 256) (hkn : kn = 4096) (hnn : 2 * (w * m) * (2 * (w * m)) ≤ nn) (hon : 2 * (w * m) * (2 * (w * m)) ≤ on) (hHn : w * m * (w * m) ≤ hn)
    (hHA : ∀ k, k < w * m * (w * m) → HA k = nI (q k) ∧ q k ≤ 255) (hol : ∀ j, j < 2 * (w * m) * (2 * (w * m)) → ol j = nI (O j)) (hO : ∀ j, O j ≤ 255) :
    f_M_decodeBlock (nI k) (nI m) (nI (2 * w)) kn K nn f on ol hn HA = some (nI (cG (2 * (w * m)) (bX F k * m) (bY F k * m) (2 * (bH F k * m)) (vF q w m F k) O (2 * (bH F k * m) * (2 * (bH F k * m)))), pA (2 * (w * m)) (bX F k * m) (bY F k * m) (2 * (bH F k * m)) (vF q w m F k) f (2 * (bH F k * m) * (2 * (bH F k * m)))) := by
  subst hkn
  have hin := okB_in hm0 hB
  obtain ⟨k0, k1, k2, k3, k4, k5, k6⟩ := kRep_at hr hk hB
  simp only [Nat.zero_add] at k0 k1 k2 k3 k4 k5 k6
  obtain ⟨_, g1, g2, g3, g4, g5, g6, g7, g8, g9, g10⟩ := hB
  have hwm : w * m ≤ 32 := by
    have : w * m ≤ 16 * 2 := Nat.mul_le_mul hw (by omega)
    omega
  have hdom := l_M_domains (w := w) (h := bH F k) (by omega) g1 g2
  have hpos := dac_pos g1 g2
  have hda : dac w (bH F k) ≤ 16 := by
    have : w / bH F k ≤ w := Nat.div_le_self _ _
    unfold dac; omega
  have hdd : bD F k ≤ 256 := by
    have : dac w (bH F k) * dac w (bH F k) ≤ 16 * 16 := Nat.mul_le_mul hda hda
    omega
  have hx := modLt g5
  have hy := divLt g5
  have hle : bD F k / dac w (bH F k) * dac w (bH F k) ≤ bD F k := Nat.div_mul_le_self _ _
  have em := modSub (bD F k) (dac w (bH F k))
  have half : ∀ u, u * (2 * bH F k) * m / 2 = u * (bH F k * m) := fun u => by
    rw [show u * (2 * bH F k) * m = u * (bH F k * m) * 2 by rw [← Nat.mul_assoc u 2, Nat.mul_comm u 2, Nat.mul_assoc 2 u, Nat.mul_assoc 2 (u * bH F k), Nat.mul_assoc u, Nat.mul_comm 2], Nat.mul_div_cancel _ (by omega)]
  have bnd : ∀ u, u < dac w (bH F k) → u * (2 * bH F k) * m < 2147483648 := fun u hu => by
    have a1 : u * (2 * bH F k) ≤ 16 * 16 := Nat.mul_le_mul (by omega) (by omega)
    have a2 : u * (2 * bH F k) * m ≤ 256 * 2 := Nat.mul_le_mul a1 hm2
    omega
  have eL : ((nI (bD F k) - nI (bD F k) / nI (dac w (bH F k)) * nI (dac w (bH F k))) * nI (2 * bH F k)) * nI m / 2 = nI (domL (w * m) (bH F k * m) (bD F k)) := by
    rw [nJ_div (by omega) (by omega), nJ_mul, nJ_sub hle, em, nJ_mul, nJ_mul, n2, nJ_div (bnd _ hx) (by omega), half]
    unfold domL; rw [dac_mul hm0]
  have eT : (nI (bD F k) / nI (dac w (bH F k)) * nI (2 * bH F k)) * nI m / 2 = nI (domT (w * m) (bH F k * m) (bD F k)) := by
    rw [nJ_div (by omega) (by omega), nJ_mul, nJ_mul, n2, nJ_div (bnd _ hy) (by omega), half]
    unfold domT; rw [dac_mul hm0]
  have m77 := l_M77 (s := 2 * (w * m)) (z := 2 * (bH F k * m)) (w' := w * m) (dL := domL (w * m) (bH F k * m) (bD F k)) (dT := domT (w * m) (bH F k * m) (bD F k)) (t := bT F k) (hn := hn) (nn := nn) (con := F (8 * k + 5)) (off := F (8 * k + 6)) (q := q) (f := f) (HA := HA) (k := k) (x := bX F k) (y := bY F k) (m := m) (kn := 4096) (on := on) (ohn := 0) (K := K) (ol := ol) (O' := ol) (O := O) (p3 := nI (2 * bH F k)) (p6 := nI (dac w (bH F k))) (p7 := nI (bD F k)) (by omega) hin.1 hin.2.1 hin.2.2.1 hnn hon g6 (by omega) hin.2.2.2.2.1 hin.2.2.2.2.2 hHn g7 g8 g9 g10 hHA hol hO (by omega) (by omega) k0 k1 k4 k5 k6
  have i2 : ¬ (nI (8 * k + 2) < 0 ∨ 4096 ≤ 8 * k + 2) := by rw [n0, nJ_ltF (by omega) (by omega), false_or]; omega
  have i3 : ¬ (nI (8 * k + 3) < 0 ∨ 4096 ≤ 8 * k + 3) := by rw [n0, nJ_ltF (by omega) (by omega), false_or]; omega
  have a0 : (8 : Int32) * nI k = nI (8 * k) := by rw [n8, nJ_mul]
  have a2 : nI (8 * k) + 2 = nI (8 * k + 2) := by rw [n2, nJ_add]
  have a3 : nI (8 * k) + 3 = nI (8 * k + 3) := by rw [n3, nJ_add]
  have c2 : (nI (8 * k + 2)).toNatClampNeg = 8 * k + 2 := nJ_clamp (by omega)
  have c3 : (nI (8 * k + 3)).toNatClampNeg = 8 * k + 3 := nJ_clamp (by omega)
  have cz : ¬ nI (dac w (bH F k)) = 0 := by rw [n0, nJ_eqF (by omega) (by omega) (by omega)]; exact not_false
  have e1 : nI (2 * bH F k) * nI m = nI (2 * (bH F k * m)) := by rw [nJ_mul, m_two]
  have e2 : nI (2 * w) * nI m = nI (2 * (w * m)) := by rw [nJ_mul, m_two]
  unfold f_M_decodeBlock
  rw [a0, a2, a3, c2, c3, if_neg i2, k2, hdom, Option.bind_some, if_neg i3, if_neg cz, if_neg cz, k3, eL, eT, e1, e2, m77]
  rfl
end
end
section
/-! rounds of putting together, and all of it -/
theorem l_in {x : Int32} {a b : Int} (ha1 : -2147483648 ≤ a) (ha2 : a < 2147483648) (hb1 : -2147483648 ≤ b) (hb2 : b < 2147483648) : f_M_in x.toInt64 (lI a) (lI b) = some (if a ≤ x.toInt ∧ x.toInt ≤ b then 1 else 0) := by
  have e : ∀ z : Int, -2147483648 ≤ z → z < 2147483648 → (lI z).toInt = z := fun z h1 h2 => lI_toInt (by omega) (by omega)
  unfold f_M_in
  simp only [cmp_lt0, cmp_gt0]
  have i1 : x.toInt64 < lI a ↔ x.toInt < a := by rw [Int64.lt_iff_toInt_lt, Int32.toInt_toInt64, e a ha1 ha2]
  have i2 : lI b < x.toInt64 ↔ b < x.toInt := by rw [Int64.lt_iff_toInt_lt, Int32.toInt_toInt64, e b hb1 hb2]
  by_cases h1 : x.toInt < a
  · rw [if_pos (i1.mpr h1), if_neg (by omega)]
  · rw [if_neg (fun h => h1 (i1.mp h))]
    by_cases h2 : b < x.toInt
    · rw [if_pos (i2.mpr h2), if_neg (by omega)]
    · rw [if_neg (fun h => h2 (i2.mp h)), if_pos (by omega)]
section
variable {w m c : Nat} {F : Nat → Int}
def dec (w m : Nat) (F : Nat → Int) (c : Nat) : Nat → (Nat → Nat) × Nat
  | 0 => (fun _ => 128, 0)
  | r + 1 => (rP w m F (dec w m F c r).1 (hlf (dec w m F c r).1 (2 * (w * m))) c, rC w m F (dec w m F c r).1 (hlf (dec w m F c r).1 (2 * (w * m))) c)
theorem dec_le : ∀ r j, (dec w m F c r).1 j ≤ 255 := by
  intro r
  induction r with
  | zero => intro j; show (128 : Nat) ≤ 255; omega
  | succ r ih => intro j; exact rP_le ih c j
theorem wm_sq (hw : w ≤ 16) (hm2 : m ≤ 2) : w * m ≤ 32 := by
  have : w * m ≤ 16 * 2 := Nat.mul_le_mul hw hm2
  omega
theorem l_C_round {sc kn nn hn : Nat} {K f HA : Nat → Int32} {O : Nat → Nat} {hs a1 a2 a3 a4 a5 : Int32} (hw : w ≤ 16) (hsc : sc < 2) (hm : m = sc + 1) (hF : okF w F c) (hr : kRep 0 K F c) (hc : 8 * c ≤ kn) (hkn : kn ≤ 2048) (hnn : 2 * (w * m) * (2 * (w * m)) ≤ nn) (hHn : w * m * (w * m) ≤ hn) (hHn2 : hn < 2147483648)
    (hf : ∀ j, j < 2 * (w * m) * (2 * (w * m)) → f j = nI (O j)) (hO : ∀ j, O j ≤ 255) :
    ∃ r, f_F_decodeRound (nI sc) (nI (2 * (w * m))) nn f (nI (2 * w)) hs hn HA a1 a2 a3 a4 a5 (nI c) kn K = some r ∧ r.1 = nI (rC w m F O (hlf O (2 * (w * m))) c) ∧ ∀ j, j < 2 * (w * m) * (2 * (w * m)) → r.2.1 j = nI (rP w m F O (hlf O (2 * (w * m))) c j) := by
  have hwm := wm_sq hw (show m ≤ 2 by omega)
  have hm0 : 0 < m := by omega
  have hwm2 : w * m ≤ 2 * w := by
    have : w * m ≤ w * 2 := Nat.mul_le_mul_left w (by omega)
    omega
  have hhalf := l_G_half (s := 2 * (w * m)) (w := w * m) (m := hn) (n := nn) (q := 2 * w) (f := f) (g := HA) (p := O) (G := hs) (by omega) (by omega) hnn hHn hwm2 (by omega) hf (fun k _ => hO k)
  have hHA : ∀ k, k < w * m * (w * m) → wr HA (fun k => nI (hlf O (2 * (w * m)) k)) (w * m * (w * m)) k = nI (hlf O (2 * (w * m)) k) ∧ hlf O (2 * (w * m)) k ≤ 255 := fun k hk => ⟨wr_lt hk, hlf_le (fun k _ => hO k) hk⟩
  have key := lp_inv (L := fun n' (a : Int32 × (Nat → Int32) × Int32 × Int32 × Int32 × Int32 × Int32) v => f_F_decodeRound_15 (nI sc) (nI (2 * (w * m))) nn (nI (w * m)) hn (wr HA (fun k => nI (hlf O (2 * (w * m)) k)) (w * m * (w * m))) (nI c) kn K n' a.1 (nI v) a.2.1 a.2.2.1 a.2.2.2.1 a.2.2.2.2.1 a.2.2.2.2.2.1 a.2.2.2.2.2.2)
    (I := fun v a => a.1 = nI (rC w m F O (hlf O (2 * (w * m))) v) ∧ ∀ j, j < 2 * (w * m) * (2 * (w * m)) → a.2.1 j = nI (rP w m F O (hlf O (2 * (w * m))) v j))
    (F := fun r => r.1 = nI (rC w m F O (hlf O (2 * (w * m))) c) ∧ ∀ j, j < 2 * (w * m) * (2 * (w * m)) → r.2.2.1 j = nI (rP w m F O (hlf O (2 * (w * m))) c j)) (b := c)
    (fun n' a ha => by
      refine ⟨(a.1, nI c, a.2.1, a.2.2.1, a.2.2.2.1, a.2.2.2.2.1, a.2.2.2.2.2.1, a.2.2.2.2.2.2), ?_, ha⟩
      show f_F_decodeRound_15 _ _ _ _ _ _ _ _ _ (n' + 1) _ _ _ _ _ _ _ _ = _
      rw [f_F_decodeRound_15, if_pos (by rw [nJ_leT (Nat.le_refl _) (by omega)]; exact trivial)])
    (fun n' a v hv ha => by
      have hB := hF.1 v hv
      obtain ⟨b1, b2, b3, b4, b5, e⟩ := l_C_block (q := hlf O (2 * (w * m))) (P := rP w m F O (hlf O (2 * (w * m))) v) (f := a.2.1) (a1 := a.2.2.1) (a2 := a.2.2.2.1) (a3 := a.2.2.2.2.1) (a4 := a.2.2.2.2.2.1) (a5 := a.2.2.2.2.2.2) hw hsc hm hB hv hr hc hkn hnn hHn hHn2 hHA ha.2 (rP_le hO v)
      rw [cG_congr (O := O) (fun i hi => rP_at hm0 hF hv hi)] at e
      have l1 := rC_le (w := w) (m := m) (F := F) (q := hlf O (2 * (w * m))) hO v
      have l2 := cG_le (s := 2 * (w * m)) (L := bX F v * m) (T := bY F v * m) (z := 2 * (bH F v * m)) (v := vF (hlf O (2 * (w * m))) w m F v) (O := O) (k := 2 * (bH F v * m) * (2 * (bH F v * m))) (fun i => vF_le v i) hO
      refine ⟨(nI (rC w m F O (hlf O (2 * (w * m))) (v + 1)), pA (2 * (w * m)) (bX F v * m) (bY F v * m) (2 * (bH F v * m)) (vF (hlf O (2 * (w * m))) w m F v) a.2.1 (2 * (bH F v * m) * (2 * (bH F v * m))), b1, b2, b3, b4, b5), ?_, rfl, ?_⟩
      · show f_F_decodeRound_15 _ _ _ _ _ _ _ _ _ (n' + 1) _ _ _ _ _ _ _ _ = f_F_decodeRound_15 _ _ _ _ _ _ _ _ _ n' _ _ _ _ _ _ _ _
        rw [f_F_decodeRound_15, if_neg (by rw [nJ_leF hv (by omega)]; exact not_false)]
        rw [e, Option.bind_some, ha.1, n1, nJ_add]
        dsimp only
        rw [mx_C l1 l2, rC]
      · intro j hj
        exact pA_rep ha.2 _ j hj)
    FU 0 (0, f, a1, a2, a3, a4, a5) (Nat.zero_le _) (fu (by omega)) ⟨rfl, hf⟩
  obtain ⟨r, e, h1, h2⟩ := key
  have e : f_F_decodeRound_15 (nI sc) (nI (2 * (w * m))) nn (nI (w * m)) hn (wr HA (fun k => nI (hlf O (2 * (w * m)) k)) (w * m * (w * m))) (nI c) kn K FU 0 0 f a1 a2 a3 a4 a5 = some r := e
  unfold f_F_decodeRound
  rw [hhalf, Option.bind_some]
  dsimp only
  rw [e, Option.bind_some]
  exact ⟨_, rfl, h1, h2⟩
theorem l_JA_fill {nn : Nat} {x : Int32} {f : Nat → Int32} (hn : nn ≤ 4096) : f_JA_fill x nn f = some (wr f (fun _ => x) nn) := by
  unfold f_JA_fill
  have key := lp_up (L := fun n' (a : Nat → Int32) v => f_JA_fill_5 x (nI nn) nn n' (nI v) a) (st := fun v => wr f (fun _ => x) v) (b := nn) (fin := (nI nn, wr f (fun _ => x) nn))
    (fun n' => by
      show f_JA_fill_5 _ _ _ (n' + 1) _ _ = _
      rw [f_JA_fill_5]
      simp (disch := omega) only [n0, n1, n2, n3, n4, n5, n6, n7, n8, n10, n16, n40, n128, n255, n256, n1024, n2000, n2048, nJ_add, nJ_mul, nJ_sub, nJ_leT, nJ_leF, nJ_ltT, nJ_ltF, nJ_eqT, nJ_eqF, nJ_clamp, nJ_div, nM, iM_eqF, iM_eqF2, iM_leF, iM_ltF, iM_leT, iM_ltT, iM_add, iM_add0, natLeF, natLeT, natLtF, natLtT, natEqF, natEqT, if_true, if_false, ite_true, ite_false, false_or, or_false, or_self, Option.bind_some, ↓reduceIte])
    (fun n' v hv => by
      show f_JA_fill_5 _ _ _ (n' + 1) _ _ = f_JA_fill_5 _ _ _ n' _ _
      rw [f_JA_fill_5]
      simp (disch := omega) only [n0, n1, n2, n3, n4, n5, n6, n7, n8, n10, n16, n40, n128, n255, n256, n1024, n2000, n2048, nJ_add, nJ_mul, nJ_sub, nJ_leT, nJ_leF, nJ_ltT, nJ_ltF, nJ_eqT, nJ_eqF, nJ_clamp, nJ_div, nM, iM_eqF, iM_eqF2, iM_leF, iM_ltF, iM_leT, iM_ltT, iM_add, iM_add0, natLeF, natLeT, natLtF, natLtT, natEqF, natEqT, if_true, if_false, ite_true, ite_false, false_or, or_false, or_self, Option.bind_some, ↓reduceIte]
      have := wrS f (fun _ => x) v
      rw [this])
    FU 0 (Nat.zero_le _) (fu (by omega))
  have key : f_JA_fill_5 x (nI nn) nn FU 0 (wr f (fun _ => x) 0) = _ := key
  rw [wr0] at key
  rw [key]
  rfl
theorem l_G_become {nn s q : Nat} {x : Int32} {f : Nat → Int32} (hn : nn ≤ 4096) (hs : s ≤ q) (hq : q ≤ 64) : f_G_become (nI s) x (nI q) nn f = some (nI s, wr f (fun _ => x) nn) := by
  unfold f_G_become
  rw [l_JA_fill hn, Option.bind_some, if_neg (show ¬ nI q < nI s by rw [nJ_ltF hs (by omega)]; exact not_false)]
  by_cases h : s = 0
  · subst h; rw [if_neg (by decide)]; rfl
  · rw [if_pos (by rw [n0, nJ_ltT (by omega) (by omega)]; exact trivial)]
theorem l_F_decode_ok {R sc kn nn hn : Nat} {K f HA : Nat → Int32} {ns hs a1 a2 a3 a4 a5 : Int32} (hw : w ≤ 16) (hsc : sc < 2) (hm : m = sc + 1) (hR1 : 1 ≤ R) (hR : R ≤ 40) (hF : okF w F c) (hr : kRep 0 K F c) (hc0 : c ≠ 0) (hc : 8 * c ≤ kn) (hkn : kn ≤ 2048) (hnn : 2 * (w * m) * (2 * (w * m)) ≤ nn) (hnn2 : nn ≤ 4096) (hHn : w * m * (w * m) ≤ hn) (hHn2 : hn < 2147483648) :
    ∃ r, f_F_decode (nI R) (nI sc) (nI (2 * w)) (nI (4 * w)) ns nn f (nI (2 * w)) hs hn HA a1 a2 a3 a4 a5 (nI c) kn K = some (.inr r) ∧ r.1 = nI (dec w m F c R).2 ∧ r.2.1 = nI (2 * (w * m)) ∧ ∀ j, j < 2 * (w * m) * (2 * (w * m)) → r.2.2.1 j = nI ((dec w m F c R).1 j) := by
  have hwm := wm_sq hw (show m ≤ 2 by omega)
  have hwm2 : w * m ≤ 2 * w := by
    have : w * m ≤ w * 2 := Nat.mul_le_mul_left w (by omega)
    omega
  have s0 := sh2 sc hsc (2 * w) (by omega)
  rw [← hm, m_two] at s0
  have bc := l_G_become (nn := nn) (s := 2 * (w * m)) (q := 4 * w) (x := 128) (f := f) hnn2 (by omega) (by omega)
  have key := lp_inv (L := fun n' (a : Int32 × (Nat → Int32) × Int32 × (Nat → Int32) × Int32 × Int32 × Int32 × Int32 × Int32) v => f_F_decode_81 (nI R) (nI sc) (nI (2 * (w * m))) nn (nI (2 * w)) hn (nI c) kn K n' a.1 (nI v) a.2.1 a.2.2.1 a.2.2.2.1 a.2.2.2.2.1 a.2.2.2.2.2.1 a.2.2.2.2.2.2.1 a.2.2.2.2.2.2.2.1 a.2.2.2.2.2.2.2.2)
    (I := fun v a => a.1 = nI (dec w m F c v).2 ∧ ∀ j, j < 2 * (w * m) * (2 * (w * m)) → a.2.1 j = nI ((dec w m F c v).1 j))
    (F := fun r => r.1 = nI (dec w m F c R).2 ∧ ∀ j, j < 2 * (w * m) * (2 * (w * m)) → r.2.2.1 j = nI ((dec w m F c R).1 j)) (b := R)
    (fun n' a ha => by
      refine ⟨(a.1, nI R, a.2.1, a.2.2.1, a.2.2.2.1, a.2.2.2.2.1, a.2.2.2.2.2.1, a.2.2.2.2.2.2.1, a.2.2.2.2.2.2.2.1, a.2.2.2.2.2.2.2.2), ?_, ha⟩
      show f_F_decode_81 _ _ _ _ _ _ _ _ _ (n' + 1) _ _ _ _ _ _ _ _ _ _ = _
      rw [f_F_decode_81, if_pos (by rw [nJ_leT (Nat.le_refl _) (by omega)]; exact trivial)])
    (fun n' a v hv ha => by
      obtain ⟨r, e, h1, h2⟩ := l_C_round (O := (dec w m F c v).1) (f := a.2.1) (hs := a.2.2.1) (HA := a.2.2.2.1) (a1 := a.2.2.2.2.1) (a2 := a.2.2.2.2.2.1) (a3 := a.2.2.2.2.2.2.1) (a4 := a.2.2.2.2.2.2.2.1) (a5 := a.2.2.2.2.2.2.2.2) hw hsc hm hF hr hc hkn hnn hHn hHn2 ha.2 (dec_le v)
      refine ⟨r, ?_, h1, h2⟩
      show f_F_decode_81 _ _ _ _ _ _ _ _ _ (n' + 1) _ _ _ _ _ _ _ _ _ _ = f_F_decode_81 _ _ _ _ _ _ _ _ _ n' _ _ _ _ _ _ _ _ _ _
      rw [f_F_decode_81, if_neg (by rw [nJ_leF hv (by omega)]; exact not_false)]
      rw [e, Option.bind_some, n1, nJ_add])
    FU 0 (0, wr f (fun _ => 128) nn, hs, HA, a1, a2, a3, a4, a5) (Nat.zero_le _) (fu (by omega)) ⟨rfl, fun j hj => by dsimp only; rw [wr_lt (by omega)]; rfl⟩
  obtain ⟨r, e, h1, h2⟩ := key
  have e : f_F_decode_81 (nI R) (nI sc) (nI (2 * (w * m))) nn (nI (2 * w)) hn (nI c) kn K FU 0 0 (wr f (fun _ => 128) nn) hs HA a1 a2 a3 a4 a5 = some r := e
  unfold f_F_decode
  rw [if_neg (show ¬ nI R < 1 by rw [n1, nJ_ltF (by omega) (by omega)]; exact not_false), if_pos (show nI R ≤ 40 by rw [n40, nJ_leT (by omega) (by omega)]; exact trivial), if_neg (show ¬ nI sc < 0 by rw [n0, nJ_ltF (by omega) (by omega)]; exact not_false), if_pos (show nI sc ≤ 1 by rw [n1, nJ_leT (by omega) (by omega)]; exact trivial), if_neg (show ¬ nI c = 0 by rw [n0, nJ_eqF hc0 (by omega) (by omega)]; exact not_false), s0, bc, Option.bind_some]
  dsimp only
  rw [e, Option.bind_some]
  exact ⟨_, rfl, h1, rfl, h2⟩
theorem l_M_round {kn nn on hn : Nat} {K f ol HA : Nat → Int32} {p1 p2 p4 : Int32} {O : Nat → Nat} (hw : w ≤ 16) (hm0 : 0 < m) (hm2 : m ≤ 2) (hp2 : p2 + 1 = nI m) (hF : okF w F c) (hr : kRep 0 K F c) (hc : c ≤ 256) (hkn : kn = 4096) (hnn : 2 * (w * m) * (2 * (w * m)) ≤ nn) (hon : 2 * (w * m) * (2 * (w * m)) ≤ on) (hHn : w * m * (w * m) ≤ hn)
    (hHA : ∀ k, k < w * m * (w * m) → HA k = nI (hlf O (2 * (w * m)) k)) (hol : ∀ j, j < 2 * (w * m) * (2 * (w * m)) → ol j = nI (O j)) (hf : ∀ j, j < 2 * (w * m) * (2 * (w * m)) → f j = nI (O j)) (hO : ∀ j, O j ≤ 255) :
    ∃ r, f_M_decode_161 p1 p2 p4 (nI (2 * w)) (nI c) kn K nn on ol hn HA FU 0 0 f = some r ∧ r.1 = nI (rC w m F O (hlf O (2 * (w * m))) c) ∧ ∀ j, j < 2 * (w * m) * (2 * (w * m)) → r.2.2 j = nI (rP w m F O (hlf O (2 * (w * m))) c j) := by
  have hHA2 : ∀ k, k < w * m * (w * m) → HA k = nI (hlf O (2 * (w * m)) k) ∧ hlf O (2 * (w * m)) k ≤ 255 := fun k hk => ⟨hHA k hk, hlf_le (fun k _ => hO k) hk⟩
  have key := lp_inv (L := fun n' (a : Int32 × (Nat → Int32)) v => f_M_decode_161 p1 p2 p4 (nI (2 * w)) (nI c) kn K nn on ol hn HA n' a.1 (nI v) a.2)
    (I := fun v a => a.1 = nI (rC w m F O (hlf O (2 * (w * m))) v) ∧ ∀ j, j < 2 * (w * m) * (2 * (w * m)) → a.2 j = nI (rP w m F O (hlf O (2 * (w * m))) v j))
    (F := fun r => r.1 = nI (rC w m F O (hlf O (2 * (w * m))) c) ∧ ∀ j, j < 2 * (w * m) * (2 * (w * m)) → r.2.2 j = nI (rP w m F O (hlf O (2 * (w * m))) c j)) (b := c)
    (fun n' a ha => by
      refine ⟨(a.1, nI c, a.2), ?_, ha⟩
      show f_M_decode_161 _ _ _ _ _ _ _ _ _ _ _ _ (n' + 1) _ _ _ = _
      rw [f_M_decode_161, if_pos (by rw [nJ_leT (Nat.le_refl _) (by omega)]; exact trivial)])
    (fun n' a v hv ha => by
      have hB := hF.1 v hv
      have e := l_M_block (q := hlf O (2 * (w * m))) (O := O) (f := a.2) (ol := ol) (nn := nn) (on := on) (hn := hn) (HA := HA) hw hm0 hm2 hB hv hr hc hkn hnn hon hHn hHA2 hol hO
      have l1 := rC_le (w := w) (m := m) (F := F) (q := hlf O (2 * (w * m))) hO v
      have l2 := cG_le (s := 2 * (w * m)) (L := bX F v * m) (T := bY F v * m) (z := 2 * (bH F v * m)) (v := vF (hlf O (2 * (w * m))) w m F v) (O := O) (k := 2 * (bH F v * m) * (2 * (bH F v * m))) (fun i => vF_le v i) hO
      refine ⟨(nI (rC w m F O (hlf O (2 * (w * m))) (v + 1)), pA (2 * (w * m)) (bX F v * m) (bY F v * m) (2 * (bH F v * m)) (vF (hlf O (2 * (w * m))) w m F v) a.2 (2 * (bH F v * m) * (2 * (bH F v * m)))), ?_, rfl, ?_⟩
      · show f_M_decode_161 _ _ _ _ _ _ _ _ _ _ _ _ (n' + 1) _ _ _ = f_M_decode_161 _ _ _ _ _ _ _ _ _ _ _ _ n' _ _ _
        rw [f_M_decode_161, if_neg (by rw [nJ_leF hv (by omega)]; exact not_false), hp2, e, Option.bind_some, ha.1, n1, nJ_add]
        dsimp only
        rw [rC]
        unfold mx
        by_cases h : rC w m F O (hlf O (2 * (w * m))) v < cG (2 * (w * m)) (bX F v * m) (bY F v * m) (2 * (bH F v * m)) (vF (hlf O (2 * (w * m))) w m F v) O (2 * (bH F v * m) * (2 * (bH F v * m)))
        · rw [if_pos h, if_neg (by rw [nJ_leF h (by omega)]; exact not_false)]
        · rw [if_neg h, if_pos (by rw [nJ_leT (by omega) (by omega)]; exact trivial)]
      · intro j hj
        exact pA_rep ha.2 _ j hj)
    FU 0 (0, f) (Nat.zero_le _) (fu (by omega)) ⟨rfl, hf⟩
  obtain ⟨r, e, h1, h2⟩ := key
  exact ⟨r, e, h1, h2⟩
theorem l_M_copy {s nn on : Nat} {f g : Nat → Int32} {p1 p2 p3 p4 : Int32} (hs : s ≤ 64) (hnn : s * s ≤ nn) (hon : s * s ≤ on) : f_M_decode_122 p1 p2 p3 p4 (nI s) nn f on FU 0 g = some (nI (s * s), wr g f (s * s)) := by
  have hs2 := sq64 hs
  have key := lp_up (L := fun n' (a : Nat → Int32) v => f_M_decode_122 p1 p2 p3 p4 (nI s) nn f on n' (nI v) a) (st := fun v => wr g f v) (b := s * s) (fin := (nI (s * s), wr g f (s * s)))
    (fun n' => by
      show f_M_decode_122 _ _ _ _ _ _ _ _ (n' + 1) _ _ = _
      rw [f_M_decode_122]
      simp (disch := omega) only [n0, n1, n2, n3, n4, n5, n6, n7, n8, n10, n16, n40, n128, n255, n256, n1024, n2000, n2048, nJ_add, nJ_mul, nJ_sub, nJ_leT, nJ_leF, nJ_ltT, nJ_ltF, nJ_eqT, nJ_eqF, nJ_clamp, nJ_div, nM, iM_eqF, iM_eqF2, iM_leF, iM_ltF, iM_leT, iM_ltT, iM_add, iM_add0, natLeF, natLeT, natLtF, natLtT, natEqF, natEqT, if_true, if_false, ite_true, ite_false, false_or, or_false, or_self, Option.bind_some, ↓reduceIte])
    (fun n' v hv => by
      show f_M_decode_122 _ _ _ _ _ _ _ _ (n' + 1) _ _ = f_M_decode_122 _ _ _ _ _ _ _ _ n' _ _
      rw [f_M_decode_122]
      simp (disch := omega) only [n0, n1, n2, n3, n4, n5, n6, n7, n8, n10, n16, n40, n128, n255, n256, n1024, n2000, n2048, nJ_add, nJ_mul, nJ_sub, nJ_leT, nJ_leF, nJ_ltT, nJ_ltF, nJ_eqT, nJ_eqF, nJ_clamp, nJ_div, nM, iM_eqF, iM_eqF2, iM_leF, iM_ltF, iM_leT, iM_ltT, iM_add, iM_add0, natLeF, natLeT, natLtF, natLtT, natEqF, natEqT, if_true, if_false, ite_true, ite_false, false_or, or_false, or_self, Option.bind_some, ↓reduceIte]
      rw [wrS])
    FU 0 (Nat.zero_le _) (fu (by omega))
  have key : f_M_decode_122 p1 p2 p3 p4 (nI s) nn f on FU 0 (wr g f 0) = _ := key
  rw [wr0] at key
  exact key
theorem l_M_grey {s nn : Nat} {f : Nat → Int32} {p1 p2 : Int32} (hs : s ≤ 64) (hnn : s * s ≤ nn) : f_M_decode_65 p1 p2 (nI s) nn FU 0 f = some (nI (s * s), wr f (fun _ => 128) (s * s)) := by
  have hs2 := sq64 hs
  have key := lp_up (L := fun n' (a : Nat → Int32) v => f_M_decode_65 p1 p2 (nI s) nn n' (nI v) a) (st := fun v => wr f (fun _ => 128) v) (b := s * s) (fin := (nI (s * s), wr f (fun _ => 128) (s * s)))
    (fun n' => by
      show f_M_decode_65 _ _ _ _ (n' + 1) _ _ = _
      rw [f_M_decode_65]
      simp (disch := omega) only [n0, n1, n2, n3, n4, n5, n6, n7, n8, n10, n16, n40, n128, n255, n256, n1024, n2000, n2048, nJ_add, nJ_mul, nJ_sub, nJ_leT, nJ_leF, nJ_ltT, nJ_ltF, nJ_eqT, nJ_eqF, nJ_clamp, nJ_div, nM, iM_eqF, iM_eqF2, iM_leF, iM_ltF, iM_leT, iM_ltT, iM_add, iM_add0, natLeF, natLeT, natLtF, natLtT, natEqF, natEqT, if_true, if_false, ite_true, ite_false, false_or, or_false, or_self, Option.bind_some, ↓reduceIte])
    (fun n' v hv => by
      show f_M_decode_65 _ _ _ _ (n' + 1) _ _ = f_M_decode_65 _ _ _ _ n' _ _
      have hw1 := wrS f (fun _ => (128 : Int32)) v
      rw [f_M_decode_65, if_neg (by rw [nJ_mul, nJ_leF hv (by omega)]; exact not_false), if_neg (by rw [n0, nJ_ltF (by omega) (by omega), nJ_clamp (by omega), false_or]; omega), nJ_clamp (by omega), n1, nJ_add, hw1])
    FU 0 (Nat.zero_le _) (fu (by omega))
  have key : f_M_decode_65 p1 p2 (nI s) nn FU 0 (wr f (fun _ => 128) 0) = _ := key
  rw [wr0] at key
  exact key
theorem l_M_decode_ok {R sc kn nn on hn : Nat} {K f ol HA : Nat → Int32} {cd dd : Int32} (hw : w ≤ 16) (hsc : sc < 2) (hm : m = sc + 1) (hR1 : 1 ≤ R) (hR : R ≤ 40) (hF : okF w F c) (hr : kRep 0 K F c) (hc0 : c ≠ 0) (hc : c ≤ 256) (hkn : kn = 4096) (hnn : 2 * (w * m) * (2 * (w * m)) ≤ nn) (hon : 2 * (w * m) * (2 * (w * m)) ≤ on) (hHn : w * m * (w * m) ≤ hn) :
    ∃ r, f_M_decode (nI R) (nI sc) cd (nI (2 * w)) (nI c) dd kn K nn f on ol hn HA = some r ∧ r.1 = nI (dec w m F c R).2 ∧ r.2.1 = 0 ∧ r.2.2.1 = nI (2 * (w * m)) ∧ ∀ j, j < 2 * (w * m) * (2 * (w * m)) → r.2.2.2.1 j = nI ((dec w m F c R).1 j) := by
  have hwm := wm_sq hw (show m ≤ 2 by omega)
  have hm0 : 0 < m := by omega
  have hp2 : nI sc + 1 = nI m := by rw [n1, nJ_add, hm]
  have key := lp_inv (L := fun n' (a : Int32 × (Nat → Int32) × (Nat → Int32) × (Nat → Int32)) v => f_M_decode_98 (nI R) (nI sc) (nI (2 * w)) (nI c) (nI (2 * (w * m))) kn K nn on hn n' a.1 (nI v) a.2.1 a.2.2.1 a.2.2.2)
    (I := fun v a => a.1 = nI (dec w m F c v).2 ∧ ∀ j, j < 2 * (w * m) * (2 * (w * m)) → a.2.1 j = nI ((dec w m F c v).1 j))
    (F := fun r => r.1 = nI (dec w m F c R).2 ∧ ∀ j, j < 2 * (w * m) * (2 * (w * m)) → r.2.2.1 j = nI ((dec w m F c R).1 j)) (b := R)
    (fun n' a ha => by
      refine ⟨(a.1, nI R, a.2.1, a.2.2.1, a.2.2.2), ?_, ha⟩
      show f_M_decode_98 _ _ _ _ _ _ _ _ _ _ (n' + 1) _ _ _ _ _ = _
      rw [f_M_decode_98, if_pos (by rw [nJ_leT (Nat.le_refl _) (by omega)]; exact trivial)])
    (fun n' a v hv ha => by
      have hh := l_M_halve (s := 2 * (w * m)) (w := w * m) (m := hn) (n := nn) (f := a.2.1) (g := a.2.2.2) (p := (dec w m F c v).1) (by omega) (by omega) hnn hHn ha.2 (fun k _ => dec_le v k)
      have cp := l_M_copy (s := 2 * (w * m)) (nn := nn) (on := on) (f := a.2.1) (g := a.2.2.1) (p1 := nI R) (p2 := nI sc) (p3 := a.1) (p4 := nI v) (by omega) hnn hon
      obtain ⟨r, e, h1, h2⟩ := l_M_round (O := (dec w m F c v).1) (f := a.2.1) (ol := wr a.2.2.1 a.2.1 (2 * (w * m) * (2 * (w * m)))) (HA := wr a.2.2.2 (fun k => nI (hlf (dec w m F c v).1 (2 * (w * m)) k)) (w * m * (w * m))) (p1 := nI R) (p2 := nI sc) (p4 := nI v) hw hm0 (by omega) hp2 hF hr hc hkn hnn hon hHn (fun k hk => wr_lt hk) (fun j hj => by rw [wr_lt hj]; exact ha.2 j hj) ha.2 (dec_le v)
      refine ⟨(r.1, r.2.2, wr a.2.2.1 a.2.1 (2 * (w * m) * (2 * (w * m))), wr a.2.2.2 (fun k => nI (hlf (dec w m F c v).1 (2 * (w * m)) k)) (w * m * (w * m))), ?_, h1, h2⟩
      show f_M_decode_98 _ _ _ _ _ _ _ _ _ _ (n' + 1) _ _ _ _ _ = f_M_decode_98 _ _ _ _ _ _ _ _ _ _ n' _ _ _ _ _
      rw [f_M_decode_98, if_neg (by rw [nJ_leF hv (by omega)]; exact not_false), hh, Option.bind_some, cp, Option.bind_some]
      dsimp only
      rw [e, Option.bind_some, n1, nJ_add])
    FU 0 (0, wr f (fun _ => 128) (2 * (w * m) * (2 * (w * m))), ol, HA) (Nat.zero_le _) (fu (by omega)) ⟨rfl, fun j hj => by dsimp only; rw [wr_lt hj]; rfl⟩
  obtain ⟨r, e, h1, h2⟩ := key
  have e : f_M_decode_98 (nI R) (nI sc) (nI (2 * w)) (nI c) (nI (2 * (w * m))) kn K nn on hn FU 0 0 (wr f (fun _ => 128) (2 * (w * m) * (2 * (w * m)))) ol HA = some r := e
  have gr := l_M_grey (s := 2 * (w * m)) (nn := nn) (f := f) (p1 := nI R) (p2 := nI sc) (by omega) hnn
  have i1 : f_M_in (nI R).toInt64 1 40 = some 1 := by
    have := l_in (x := nI R) (a := 1) (b := 40) (by omega) (by omega) (by omega) (by omega)
    rw [if_pos (by rw [nJ_toInt (by omega)]; omega)] at this
    exact this
  have i2 : f_M_in (nI sc).toInt64 0 1 = some 1 := by
    have := l_in (x := nI sc) (a := 0) (b := 1) (by omega) (by omega) (by omega) (by omega)
    rw [if_pos (by rw [nJ_toInt (by omega)]; omega)] at this
    exact this
  have e2 : nI (2 * w) * nI m = nI (2 * (w * m)) := by rw [nJ_mul, m_two]
  unfold f_M_decode
  rw [i1, Option.bind_some, if_neg (by decide), i2, Option.bind_some, if_neg (by decide), if_neg (show ¬ nI c = 0 by rw [n0, nJ_eqF hc0 (by omega) (by omega)]; exact not_false)]
  unfold f_M_decode_J39
  rw [if_pos (by decide), hp2, e2, gr, Option.bind_some]
  dsimp only
  rw [e, Option.bind_some]
  exact ⟨_, rfl, h1, rfl, rfl, h2⟩
/-- arguments that a decoding refuses -/
def decBad (u v : Int32) : Prop := ¬ ((1 ≤ u.toInt ∧ u.toInt ≤ 40) ∧ (0 ≤ v.toInt ∧ v.toInt ≤ 1))
theorem l_F_decode_bad {kn nn hn : Nat} {K f HA : Nat → Int32} {S nm ns hm hs a1 a2 a3 a4 a5 kc u v : Int32} (h : decBad u v) : f_F_decode u v S nm ns nn f hm hs hn HA a1 a2 a3 a4 a5 kc kn K = some (.inl 2) := by
  unfold decBad at h
  unfold f_F_decode
  have t1 : (1 : Int32).toInt = 1 := rfl
  have t40 : (40 : Int32).toInt = 40 := rfl
  have t0 : (0 : Int32).toInt = 0 := rfl
  have j1 : u < 1 ↔ u.toInt < 1 := by rw [Int32.lt_iff_toInt_lt, t1]
  have j2 : u ≤ 40 ↔ u.toInt ≤ 40 := by rw [Int32.le_iff_toInt_le, t40]
  have j3 : v < 0 ↔ v.toInt < 0 := by rw [Int32.lt_iff_toInt_lt, t0]
  have j4 : v ≤ 1 ↔ v.toInt ≤ 1 := by rw [Int32.le_iff_toInt_le, t1]
  by_cases c1 : u < 1
  · rw [if_pos c1]
  · rw [if_neg c1]
    by_cases c2 : u ≤ 40
    · rw [if_pos c2]
      by_cases c3 : v < 0
      · rw [if_pos c3]
      · rw [if_neg c3, if_neg (fun c4 => by rw [j4] at c4; rw [j3] at c3; rw [j2] at c2; rw [j1] at c1; omega)]
    · rw [if_neg c2]
theorem l_M_decode_bad {kn nn on hn : Nat} {K f ol HA : Nat → Int32} {cd S my dd u v : Int32} (h : decBad u v) : f_M_decode u v cd S my dd kn K nn f on ol hn HA = some (0, 1, dd, f, ol, HA) := by
  unfold decBad at h
  have J : f_M_decode_J39 u v cd S my dd kn K nn f on ol hn HA 1 = some (0, 1, dd, f, ol, HA) := by
    unfold f_M_decode_J39
    rw [if_neg (by decide)]
  unfold f_M_decode
  have i1 := l_in (x := u) (a := 1) (b := 40) (by omega) (by omega) (by omega) (by omega)
  have i1 : f_M_in u.toInt64 1 40 = _ := i1
  have i2 := l_in (x := v) (a := 0) (b := 1) (by omega) (by omega) (by omega) (by omega)
  have i2 : f_M_in v.toInt64 0 1 = _ := i2
  rw [i1, Option.bind_some, i2]
  by_cases c1 : 1 ≤ u.toInt ∧ u.toInt ≤ 40
  · rw [if_pos c1, if_neg (by decide), Option.bind_some, if_neg (show ¬ (0 ≤ v.toInt ∧ v.toInt ≤ 1) from fun c2 => h ⟨c1, c2⟩), if_pos rfl]
    exact J
  · rw [if_neg c1, if_pos rfl]
    exact J
theorem decOk {u v : Int32} (h : ¬ decBad u v) : ∃ R sc : Nat, 1 ≤ R ∧ R ≤ 40 ∧ sc < 2 ∧ u = nI R ∧ v = nI sc := by
  unfold decBad at h
  have h : (1 ≤ u.toInt ∧ u.toInt ≤ 40) ∧ (0 ≤ v.toInt ∧ v.toInt ≤ 1) := Classical.not_not.mp h
  refine ⟨u.toInt.toNat, v.toInt.toNat, by omega, by omega, by omega, ?_, ?_⟩
  · apply Int32.toInt_inj.mp; rw [nJ_toInt (by omega)]; omega
  · apply Int32.toInt_inj.mp; rw [nJ_toInt (by omega)]; omega
theorem l_F_decode_none {kn nn hn R sc : Nat} {K f HA : Nat → Int32} {S nm ns hm hs a1 a2 a3 a4 a5 : Int32} (hR1 : 1 ≤ R) (hR : R ≤ 40) (hsc : sc < 2) : f_F_decode (nI R) (nI sc) S nm ns nn f hm hs hn HA a1 a2 a3 a4 a5 (nI 0) kn K = some (.inl 3) := by
  unfold f_F_decode
  rw [if_neg (show ¬ nI R < 1 by rw [n1, nJ_ltF (by omega) (by omega)]; exact not_false), if_pos (show nI R ≤ 40 by rw [n40, nJ_leT (by omega) (by omega)]; exact trivial), if_neg (show ¬ nI sc < 0 by rw [n0, nJ_ltF (by omega) (by omega)]; exact not_false), if_pos (show nI sc ≤ 1 by rw [n1, nJ_leT (by omega) (by omega)]; exact trivial), if_pos (show nI 0 = 0 from rfl)]
theorem l_M_decode_none {kn nn on hn R sc : Nat} {K f ol HA : Nat → Int32} {cd S dd : Int32} (hR1 : 1 ≤ R) (hR : R ≤ 40) (hsc : sc < 2) : f_M_decode (nI R) (nI sc) cd S (nI 0) dd kn K nn f on ol hn HA = some (0, 2, dd, f, ol, HA) := by
  have i1 : f_M_in (nI R).toInt64 1 40 = some 1 := by
    have := l_in (x := nI R) (a := 1) (b := 40) (by omega) (by omega) (by omega) (by omega)
    rw [if_pos (by rw [nJ_toInt (by omega)]; omega)] at this
    exact this
  have i2 : f_M_in (nI sc).toInt64 0 1 = some 1 := by
    have := l_in (x := nI sc) (a := 0) (b := 1) (by omega) (by omega) (by omega) (by omega)
    rw [if_pos (by rw [nJ_toInt (by omega)]; omega)] at this
    exact this
  unfold f_M_decode
  rw [i1, Option.bind_some, if_neg (by decide), i2, Option.bind_some, if_neg (by decide), if_pos (show nI 0 = 0 from rfl)]
  unfold f_M_decode_J39
  rw [if_neg (by decide)]
end
end
section
/-! blocks of a square lie in it, and apart -/
/-- blocks c to c' are added, good ones, of places R, apart -/
def ins (w : Nat) (F F' : Nat → Int) (c c' : Nat) (R : Nat → Nat → Nat → Prop) : Prop := c ≤ c' ∧ (∀ k, k < 8 * c → F' k = F k) ∧ (∀ i, c ≤ i → i < c' → okB w F' i ∧ R (bX F' i) (bY F' i) (bH F' i)) ∧ ∀ i j, c ≤ i → i < j → j < c' → apart F' i j
def sqR (X Y S : Nat) (x y h : Nat) : Prop := X ≤ x ∧ x + 2 * h ≤ X + S ∧ Y ≤ y ∧ y + 2 * h ≤ Y + S
theorem acc_eq {F F' : Nat → Int} {i : Nat} (h : ∀ k, 8 * i ≤ k → k < 8 * i + 8 → F' k = F k) : bX F' i = bX F i ∧ bY F' i = bY F i ∧ bH F' i = bH F i ∧ bD F' i = bD F i ∧ bT F' i = bT F i := by
  unfold bX bY bH bD bT
  rw [h _ (by omega) (by omega), h _ (by omega) (by omega), h _ (by omega) (by omega), h _ (by omega) (by omega), h _ (by omega) (by omega)]
  exact ⟨rfl, rfl, rfl, rfl, rfl⟩
theorem okB_eq {w : Nat} {F F' : Nat → Int} {i : Nat} (h : ∀ k, 8 * i ≤ k → k < 8 * i + 8 → F' k = F k) (hB : okB w F i) : okB w F' i := by
  obtain ⟨e1, e2, e3, e4, e5⟩ := acc_eq h
  unfold okB at hB ⊢
  rw [e1, e2, e3, e4, e5, h _ (by omega) (by omega), h _ (by omega) (by omega), h _ (by omega) (by omega), h _ (by omega) (by omega), h _ (by omega) (by omega), h _ (by omega) (by omega), h _ (by omega) (by omega)]
  exact hB
theorem apart_eq {F F' : Nat → Int} {i j : Nat} (h : ∀ k, 8 * i ≤ k → k < 8 * i + 8 → F' k = F k) (h2 : ∀ k, 8 * j ≤ k → k < 8 * j + 8 → F' k = F k) (ha : apart F i j) : apart F' i j := by
  obtain ⟨e1, e2, e3, _, _⟩ := acc_eq h
  obtain ⟨g1, g2, g3, _, _⟩ := acc_eq h2
  unfold apart at ha ⊢
  rw [e1, e2, e3, g1, g2, g3]
  exact ha
theorem ins_trans {w : Nat} {F F1 F2 : Nat → Int} {c c1 c2 : Nat} {R1 R2 : Nat → Nat → Nat → Prop} (a : ins w F F1 c c1 R1) (b : ins w F1 F2 c1 c2 R2)
    (hR : ∀ x y h x' y' h', R1 x y h → R2 x' y' h' → x + 2 * h ≤ x' ∨ x' + 2 * h' ≤ x ∨ y + 2 * h ≤ y' ∨ y' + 2 * h' ≤ y) : ins w F F2 c c2 (fun x y h => R1 x y h ∨ R2 x y h) := by
  obtain ⟨a1, a2, a3, a4⟩ := a
  obtain ⟨b1, b2, b3, b4⟩ := b
  have st : ∀ i, i < c1 → ∀ k, 8 * i ≤ k → k < 8 * i + 8 → F2 k = F1 k := fun i hi k _ hk => b2 k (by omega)
  refine ⟨by omega, fun k hk => (b2 k (by omega)).trans (a2 k hk), fun i h1 h2 => ?_, fun i j h1 h2 h3 => ?_⟩
  · by_cases hi : i < c1
    · obtain ⟨e1, e2, e3, _, _⟩ := acc_eq (st i hi)
      obtain ⟨q1, q2⟩ := a3 i h1 hi
      exact ⟨okB_eq (st i hi) q1, Or.inl (by rw [e1, e2, e3]; exact q2)⟩
    · obtain ⟨q1, q2⟩ := b3 i (by omega) h2
      exact ⟨q1, Or.inr q2⟩
  · by_cases hj : j < c1
    · exact apart_eq (st i (by omega)) (st j hj) (a4 i j h1 h2 hj)
    · by_cases hi : i < c1
      · obtain ⟨e1, e2, e3, _, _⟩ := acc_eq (st i hi)
        obtain ⟨_, q2⟩ := a3 i h1 hi
        obtain ⟨_, q4⟩ := b3 j (by omega) h3
        rw [← e1, ← e2, ← e3] at q2
        exact hR _ _ _ _ _ _ q2 q4
      · exact b4 i j (by omega) h2 h3
theorem ins_mono {w : Nat} {F F' : Nat → Int} {c c' : Nat} {R R' : Nat → Nat → Nat → Prop} (a : ins w F F' c c' R) (h : ∀ x y h, R x y h → R' x y h) : ins w F F' c c' R' := ⟨a.1, a.2.1, fun i h1 h2 => ⟨(a.2.2.1 i h1 h2).1, h _ _ _ (a.2.2.1 i h1 h2).2⟩, a.2.2.2⟩
theorem ins_four {w s : Nat} {F F1 F2 F3 F4 : Nat → Int} {c c1 c2 c3 c4 x y : Nat} (a1 : ins w F F1 c c1 (sqR x y s)) (a2 : ins w F1 F2 c1 c2 (sqR (x + s) y s)) (a3 : ins w F2 F3 c2 c3 (sqR x (y + s) s)) (a4 : ins w F3 F4 c3 c4 (sqR (x + s) (y + s) s)) : ins w F F4 c c4 (sqR x y (2 * s)) := by
  have b1 := ins_trans a1 a2 (fun x y h x' y' h' p q => by unfold sqR at p q; omega)
  have b2 := ins_trans b1 a3 (fun x y h x' y' h' p q => by unfold sqR at p q; omega)
  have b3 := ins_trans b2 a4 (fun x y h x' y' h' p q => by unfold sqR at p q; omega)
  exact ins_mono b3 (fun x y h p => by unfold sqR at p ⊢; omega)
theorem ins_leaf {w h c x y : Nat} {F : Nat → Int} {B : Fit5} (h1 : 0 < h) (h2 : 2 * h ≤ w) (hx : x + 2 * h ≤ 2 * w) (hy : y + 2 * h ≤ 2 * w) (hB1 : B.1 < dac w h * dac w h) (hB2 : B.2.1 < 8) (hB3 : -7 ≤ B.2.2.1) (hB4 : B.2.2.1 ≤ 7) (hB5 : -256 ≤ B.2.2.2.1) (hB6 : B.2.2.2.1 ≤ 767) :
    ins w F (addF F c x y (2 * h) B) c (c + 1) (sqR x y (2 * h)) := by
  have f0 : addF F c x y (2 * h) B (8 * c) = (x : Int) := by have := addF_new (F := F) (c := c) (x := x) (y := y) (s := 2 * h) (j := 0) (B := B); exact this
  have f1 : addF F c x y (2 * h) B (8 * c + 1) = (y : Int) := addF_new
  have f2 : addF F c x y (2 * h) B (8 * c + 2) = ((2 * h : Nat) : Int) := addF_new
  have f3 : addF F c x y (2 * h) B (8 * c + 3) = (B.1 : Int) := addF_new
  have f4 : addF F c x y (2 * h) B (8 * c + 4) = (B.2.1 : Int) := addF_new
  have f5 : addF F c x y (2 * h) B (8 * c + 5) = B.2.2.1 := addF_new
  have f6 : addF F c x y (2 * h) B (8 * c + 6) = B.2.2.2.1 := addF_new
  have e0 : bX (addF F c x y (2 * h) B) c = x := by unfold bX; rw [f0]; rfl
  have e1 : bY (addF F c x y (2 * h) B) c = y := by unfold bY; rw [f1]; rfl
  have e2 : bH (addF F c x y (2 * h) B) c = h := by unfold bH; rw [f2]; show 2 * h / 2 = h; omega
  have e3 : bD (addF F c x y (2 * h) B) c = B.1 := by unfold bD; rw [f3]; rfl
  have e4 : bT (addF F c x y (2 * h) B) c = B.2.1 := by unfold bT; rw [f4]; rfl
  refine ⟨by omega, fun k hk => addF_old hk, fun i q1 q2 => ?_, fun i j q1 q2 q3 => by omega⟩
  obtain rfl : i = c := by omega
  unfold okB sqR
  rw [e0, e1, e2, e3, e4, f0, f1, f2, f3, f4, f5, f6]
  exact ⟨⟨⟨rfl, rfl, rfl, rfl, rfl⟩, h1, h2, hx, hy, hB1, hB2, hB3, hB4, hB5, hB6⟩, by omega⟩
theorem eSq_ins {p : Nat → Nat} {w least bd : Nat} (hw : w ≤ 16) (hp : ∀ k, k < 2 * w * (2 * w) → p k ≤ 255) : ∀ (d x y : Nat) (e : ES), 2 * 2 ^ d ≤ w → x + 2 * 2 ^ d ≤ 2 * w → y + 2 * 2 ^ d ≤ 2 * w → ins w e.2.1 (eSq p w least bd d x y e).2.1 e.1 (eSq p w least bd d x y e).1 (sqR x y (2 * 2 ^ d)) := by
  have leaf : ∀ (h x y : Nat) (e : ES), 0 < h → 2 * h ≤ w → x + 2 * h ≤ 2 * w → y + 2 * h ≤ 2 * w → ins w e.2.1 (eLeaf w h x y (best p w h x y).1 e).2.1 e.1 (eLeaf w h x y (best p w h x y).1 e).1 (sqR x y (2 * h)) := by
    intro h x y e h1 h2 hx hy
    obtain ⟨⟨_, b1, b2, b3, b4, b5, b6⟩, _⟩ := best_val (p := p) (w := w) (h := h) (x := x) (y := y) h1 (by omega) h2 hx hy hp
    exact ins_leaf h1 h2 hx hy b1 b2 b3 b4 (by omega) (by omega)
  intro d
  induction d with
  | zero =>
    intro x y e hd hx hy
    rw [eSq]
    exact leaf (2 ^ 0) x y (eTr (best p w (2 ^ 0) x y).2 e) (by omega) hd hx hy
  | succ d ih =>
    intro x y e hd hx hy
    have t1 := two_pos' d
    have t2 := two_succ d
    rw [eSq]
    split
    · exact leaf (2 ^ (d + 1)) x y (eTr (best p w (2 ^ (d + 1)) x y).2 e) (by omega) hd hx hy
    · split
      · exact leaf (2 ^ (d + 1)) x y (eBit 0 (eTr (best p w (2 ^ (d + 1)) x y).2 e)) (by omega) hd hx hy
      · have i1 := ih x y (eBit 1 (eTr (best p w (2 ^ (d + 1)) x y).2 e)) (by omega) (by omega) (by omega)
        have i2 := ih (x + 2 * 2 ^ d) y (eSq p w least bd d x y (eBit 1 (eTr (best p w (2 ^ (d + 1)) x y).2 e))) (by omega) (by omega) (by omega)
        have i3 := ih x (y + 2 * 2 ^ d) (eSq p w least bd d (x + 2 * 2 ^ d) y (eSq p w least bd d x y (eBit 1 (eTr (best p w (2 ^ (d + 1)) x y).2 e)))) (by omega) (by omega) (by omega)
        have i4 := ih (x + 2 * 2 ^ d) (y + 2 * 2 ^ d) (eSq p w least bd d x (y + 2 * 2 ^ d) (eSq p w least bd d (x + 2 * 2 ^ d) y (eSq p w least bd d x y (eBit 1 (eTr (best p w (2 ^ (d + 1)) x y).2 e))))) (by omega) (by omega) (by omega)
        have := ins_four i1 i2 i3 i4
        rw [show 2 * (2 * 2 ^ d) = 2 * 2 ^ (d + 1) by rw [t2]] at this
        exact this
theorem ins_okF {w c : Nat} {F F' : Nat → Int} {R : Nat → Nat → Nat → Prop} (h : ins w F F' 0 c R) : okF w F' c := ⟨fun i hi => (h.2.2.1 i (Nat.zero_le _) hi).1, fun i j h1 h2 => h.2.2.2 i j (Nat.zero_le _) h1 h2⟩
theorem encOf_ok {p : Nat → Nat} {w d j bd : Nat} (hw : w ≤ 16) (hwd : w = 2 * 2 ^ d) (hp : ∀ k, k < 2 * w * (2 * w) → p k ≤ 255) : okF w (encOf p w d j bd).2.1 (encOf p w d j bd).1 := by
  have i1 := eSq_ins (least := 2 ^ j) (bd := bd) hw hp d 0 0 (0, fun _ => 0, 3, apN j 3 (fun _ => 0) 0, 0) (by omega) (by omega) (by omega)
  have i2 := eSq_ins (least := 2 ^ j) (bd := bd) hw hp d (0 + 2 * 2 ^ d) 0 (eSq p w (2 ^ j) bd d 0 0 (0, fun _ => 0, 3, apN j 3 (fun _ => 0) 0, 0)) (by omega) (by omega) (by omega)
  have i3 := eSq_ins (least := 2 ^ j) (bd := bd) hw hp d 0 (0 + 2 * 2 ^ d) (eSq p w (2 ^ j) bd d (0 + 2 * 2 ^ d) 0 (eSq p w (2 ^ j) bd d 0 0 (0, fun _ => 0, 3, apN j 3 (fun _ => 0) 0, 0))) (by omega) (by omega) (by omega)
  have i4 := eSq_ins (least := 2 ^ j) (bd := bd) hw hp d (0 + 2 * 2 ^ d) (0 + 2 * 2 ^ d) (eSq p w (2 ^ j) bd d 0 (0 + 2 * 2 ^ d) (eSq p w (2 ^ j) bd d (0 + 2 * 2 ^ d) 0 (eSq p w (2 ^ j) bd d 0 0 (0, fun _ => 0, 3, apN j 3 (fun _ => 0) 0, 0)))) (by omega) (by omega) (by omega)
  exact ins_okF (ins_four i1 i2 i3 i4)
/-! what is read -/
def rIns (w : Nat) (q : RS) (s : Nat ⊕ RS) (R : Nat → Nat → Nat → Prop) : Prop := ∀ q', s = .inr q' → ins w q.2.2 q'.2.2 q.2.1 q'.2.1 R
theorem rLeaf_ins {g : Nat → Nat} {T w h x y : Nat} {q : RS} (h1 : 0 < h) (h2 : 2 * h ≤ w) (hx : x + 2 * h ≤ 2 * w) (hy : y + 2 * h ≤ 2 * w) : rIns w q (rLeaf g T w h x y q) (sqR x y (2 * h)) := by
  intro q' e
  unfold rLeaf at e
  cases hb : rFit g T w h q.1 with
  | inl e2 => rw [hb] at e; cases e
  | inr b =>
    rw [hb] at e
    have e := Sum.inr.inj e
    subst e
    obtain ⟨_, b1, b2, b3, b4, b5, b6⟩ := rFit_le hb
    exact ins_leaf h1 h2 hx hy b1 b2 b3 b4 b5 b6
theorem rQ_ins {g : Nat → Nat} {T w least d x y : Nat} {q : RS} (ih : ∀ (x y : Nat) (q : RS), x + 2 * 2 ^ d ≤ 2 * w → y + 2 * 2 ^ d ≤ 2 * w → rIns w q (rSq g T w least d x y q) (sqR x y (2 * 2 ^ d))) (hx : x + 4 * 2 ^ d ≤ 2 * w) (hy : y + 4 * 2 ^ d ≤ 2 * w) : rIns w q (rQ g T w least d x y q) (sqR x y (2 * (2 * 2 ^ d))) := by
  intro q' e
  unfold rQ at e
  have i1 := ih x y q (by omega) (by omega)
  cases h1 : rSq g T w least d x y q with
  | inl e2 => rw [h1] at e; cases e
  | inr q1 =>
    rw [h1] at e
    have e : rBind (rSq g T w least d (x + 2 * 2 ^ d) y q1) _ = Sum.inr q' := e
    have i2 := ih (x + 2 * 2 ^ d) y q1 (by omega) (by omega)
    cases h2 : rSq g T w least d (x + 2 * 2 ^ d) y q1 with
    | inl e2 => rw [h2] at e; cases e
    | inr q2 =>
      rw [h2] at e
      have e : rBind (rSq g T w least d x (y + 2 * 2 ^ d) q2) _ = Sum.inr q' := e
      have i3 := ih x (y + 2 * 2 ^ d) q2 (by omega) (by omega)
      cases h3 : rSq g T w least d x (y + 2 * 2 ^ d) q2 with
      | inl e2 => rw [h3] at e; cases e
      | inr q3 =>
        rw [h3] at e
        have e : rSq g T w least d (x + 2 * 2 ^ d) (y + 2 * 2 ^ d) q3 = Sum.inr q' := e
        have i4 := ih (x + 2 * 2 ^ d) (y + 2 * 2 ^ d) q3 (by omega) (by omega)
        exact ins_four (i1 q1 h1) (i2 q2 h2) (i3 q3 h3) (i4 q' e)
theorem rSq_ins {g : Nat → Nat} {T w least : Nat} : ∀ d, 2 * 2 ^ d ≤ w → ∀ (x y : Nat) (q : RS), x + 2 * 2 ^ d ≤ 2 * w → y + 2 * 2 ^ d ≤ 2 * w → rIns w q (rSq g T w least d x y q) (sqR x y (2 * 2 ^ d)) := by
  intro d
  induction d with
  | zero => intro hd x y q hx hy; rw [rSq]; exact rLeaf_ins (by omega) hd hx hy
  | succ d ih =>
    intro hd x y q hx hy
    have t1 := two_pos' d
    have t2 := two_succ d
    rw [rSq]
    split
    · exact rLeaf_ins (by omega) hd hx hy
    · split
      · split
        · have := rQ_ins (q := (q.1 + 1, q.2)) (ih (by omega)) (x := x) (y := y) (by omega) (by omega)
          rw [show 2 * (2 * 2 ^ d) = 2 * 2 ^ (d + 1) by rw [t2]] at this
          exact this
        · exact rLeaf_ins (q := (q.1 + 1, q.2)) (by omega) hd hx hy
      · intro q' e; cases e
theorem rAll_ok {g : Nat → Nat} {N w d : Nat} {q : Nat × (Nat → Int)} (hwd : w = 2 * 2 ^ d) (e : rAll g N w d = .inr q) : okF w q.2 q.1 ∧ q.1 ≤ w * w := by
  have e4 : w * w = 4 * 4 ^ d := by rw [hwd]; exact four_two d
  unfold rAll at e
  by_cases c1 : 3 ≤ 8 * N
  · rw [if_pos c1] at e
    by_cases c2 : 1 ≤ tk g 0 3 ∧ tk g 0 3 ≤ 4 ∧ 2 ^ tk g 0 3 ≤ w
    · rw [if_pos c2] at e
      have i1 := rQ_ins (g := g) (T := 8 * N) (w := w) (least := 2 ^ tk g 0 3) (d := d) (x := 0) (y := 0) (q := (3, 0, fun _ => 0)) (rSq_ins d (by omega)) (by omega) (by omega)
      have l1 := rQ_le (g := g) (w := w) (d := d) (T := 8 * N) (least := 2 ^ tk g 0 3) (x := 0) (y := 0) (q := (3, 0, fun _ => 0))
      cases h : rQ g (8 * N) w (2 ^ tk g 0 3) d 0 0 (3, 0, fun _ => 0) with
      | inl e2 => rw [h] at e; cases e
      | inr q1 =>
        rw [h] at e
        have e : @ite _ (8 * N - q1.1 ≤ 7 ∧ allz g q1.1 (8 * N - q1.1)) (Classical.propDecidable _) (Sum.inr q1.2) (Sum.inl 4) = Sum.inr q := e
        by_cases c3 : 8 * N - q1.1 ≤ 7 ∧ allz g q1.1 (8 * N - q1.1)
        · rw [if_pos c3] at e
          have e := Sum.inr.inj e
          subst e
          have := (l1 q1 h).2
          dsimp only at this
          exact ⟨ins_okF (i1 q1 h), by omega⟩
        · rw [if_neg c3] at e; cases e
    · rw [if_neg c2] at e; cases e
  · rw [if_neg c1] at e; cases e
end
section
/-! small calls, class and reference -/
theorem law_ok {α : Type} {uc qc : Int32} {o v : Int64} {Z : α} (h1 : uc = qc) (h2 : qc = 0 → o = v) : (if uc = qc then (if qc = 0 then (if (0 : Int32) < 0 ∨ 1 ≤ (0 : Int32).toNatClampNeg then none else (if (lg_cmp o v) = 0 then (some Z) else (none))) else (some Z)) else (none)) = some Z := by
  rw [if_pos h1]
  by_cases c : qc = 0
  · rw [if_pos c, if_neg (by decide), if_pos (by rw [cmp_eq0]; exact h2 c)]
  · rw [if_neg c]
theorem updL0 {f : Nat → Int64} {v : Int64} : vp_updL f (0 : Int32).toNatClampNeg v (0 : Int32).toNatClampNeg = v := by simp [vp_updL]
theorem c1_ne : ¬ (1 : Int32) = 0 := by decide
theorem c2_ne : ¬ (2 : Int32) = 0 := by decide
theorem io1 : ¬ ((0 : Int32) < 0 ∨ 1 ≤ (0 : Int32).toNatClampNeg) := by decide
theorem l_isPlace_T {x y s : Nat} (hs : s ≤ 64) (hx : x < s) (hy : y < s) : f_M_isPlace (nI x) (nI y) (nI s) = some 1 := by
  unfold f_M_isPlace
  rw [l_in_T hx (by omega), Option.bind_some, if_neg (by decide), l_in_T hy (by omega), Option.bind_some, if_neg (by decide)]
theorem l_isPlace_F {x y : Int32} {s : Nat} (hs : s ≤ 64) (h : ¬ ∃ a b : Nat, a < s ∧ b < s ∧ x = nI a ∧ y = nI b) : f_M_isPlace x y (nI s) = some 0 := by
  unfold f_M_isPlace
  by_cases c : ∃ a : Nat, a < s ∧ x = nI a
  · obtain ⟨a, ha, rfl⟩ := c
    have h2 : ¬ ∃ b : Nat, b < s ∧ y = nI b := fun ⟨b, hb, e⟩ => h ⟨a, b, ha, hb, rfl, e⟩
    rw [l_in_T ha (by omega), Option.bind_some, if_neg (by decide), l_in_F h2 (by omega), Option.bind_some, if_pos rfl]
  · rw [l_in_F c (by omega), Option.bind_some, if_pos rfl]
/-- bytes that bits fill -/
theorem l_B_bytes {m : Nat} (h : m ≤ 20000) : f_B_bytes (nI m) = some (nI ((m + 7) / 8)) := by
  unfold f_B_bytes
  rw [n8, n1, nJ_add, nJ_sub (by omega), nJ_div (by omega) (by omega)]
  rfl
theorem l_M_bytes {m : Nat} (h : m ≤ 20000) : f_M_bytes (nI m) = some (nI ((m + 7) / 8)) := by
  unfold f_M_bytes
  rw [n8, n7, nJ_add, nJ_div (by omega) (by omega)]
theorem l_B_byteOf {n i : Nat} {f : Nat → Int32} (h : i < n) (hn : n ≤ 2000) : f_B_byteOf (nI i) n f = some (f i) := by
  unfold f_B_byteOf
  simp (disch := omega) only [n0, n1, n2, n3, n4, n5, n6, n7, n8, n10, n16, n40, n128, n255, n256, n1024, n2000, n2048, nJ_add, nJ_mul, nJ_sub, nJ_leT, nJ_leF, nJ_ltT, nJ_ltF, nJ_eqT, nJ_eqF, nJ_clamp, nJ_div, nM, iM_eqF, iM_eqF2, iM_leF, iM_ltF, iM_leT, iM_ltT, iM_add, iM_add0, natLeF, natLeT, natLtF, natLtT, natEqF, natEqT, if_true, if_false, ite_true, ite_false, false_or, or_false, or_self, Option.bind_some, ↓reduceIte]
/-! a byte's eight bits at the end of bytes -/
theorem apN8 {e : Nat → Nat} {N v : Nat} (hv : v ≤ 255) : apN v 8 e (8 * N) = fun i => if i = N then v else e i := by
  funext i
  unfold apN apN apN apN apN apN apN apN apN apB
  have d0 : 8 * N / 8 = N := by omega
  have d1 : (8 * N + 1) / 8 = N := by omega
  have d2 : (8 * N + 1 + 1) / 8 = N := by omega
  have d3 : (8 * N + 1 + 1 + 1) / 8 = N := by omega
  have d4 : (8 * N + 1 + 1 + 1 + 1) / 8 = N := by omega
  have d5 : (8 * N + 1 + 1 + 1 + 1 + 1) / 8 = N := by omega
  have d6 : (8 * N + 1 + 1 + 1 + 1 + 1 + 1) / 8 = N := by omega
  have d7 : (8 * N + 1 + 1 + 1 + 1 + 1 + 1 + 1) / 8 = N := by omega
  have m0 : 8 * N % 8 = 0 := by omega
  have m1 : (8 * N + 1) % 8 = 1 := by omega
  have m2 : (8 * N + 1 + 1) % 8 = 2 := by omega
  have m3 : (8 * N + 1 + 1 + 1) % 8 = 3 := by omega
  have m4 : (8 * N + 1 + 1 + 1 + 1) % 8 = 4 := by omega
  have m5 : (8 * N + 1 + 1 + 1 + 1 + 1) % 8 = 5 := by omega
  have m6 : (8 * N + 1 + 1 + 1 + 1 + 1 + 1) % 8 = 6 := by omega
  have m7 : (8 * N + 1 + 1 + 1 + 1 + 1 + 1 + 1) % 8 = 7 := by omega
  by_cases c : i = N
  · simp only [d0, d1, d2, d3, d4, d5, d6, d7, m0, m1, m2, m3, m4, m5, m6, m7, c, if_true, ↓reduceIte]
    simp
    omega
  · simp only [d0, d1, d2, d3, d4, d5, d6, d7, c, if_false, ↓reduceIte]
theorem fRep_bits {f : Nat → Int32} {g : Nat → Nat} {N : Nat} (h : fRep f g N) : bRep f g (8 * N) ∧ bGood g (8 * N) := by
  refine ⟨fun i hi => (h i (by omega)).1, fun i hi => (h i (by omega)).2, fun hm => absurd (by omega) hm⟩
theorem l_append8 {f : Nat → Int32} {g : Nat → Nat} {N v n : Nat} (h : fRep f g N) (hv : v ≤ 255) (hN : N < n) (hn : n ≤ 2000) : ∃ f', f_B_append (nI v) 8 (nI (8 * N)) n f = some (nI (8 * (N + 1)), f') ∧ fRep f' (fun i => if i = N then v else g i) (N + 1) := by
  obtain ⟨b1, b2⟩ := fRep_bits h
  obtain ⟨f', a1, a2⟩ := l_B_append (num := v) (w := 8) (m := 8 * N) (n := n) (by omega) hn (by omega) b1 b2 (by omega)
  refine ⟨f', a1, fun k hk => ?_⟩
  have := a2 k (by omega)
  rw [apN8 hv] at this
  refine ⟨this, ?_⟩
  dsimp only
  by_cases c : k = N
  · rw [if_pos c]; exact hv
  · rw [if_neg c]; exact (h k (by omega)).2
theorem fRep_upd {f : Nat → Int32} {g : Nat → Nat} {N v : Nat} (h : fRep f g N) (hv : v ≤ 255) : fRep (upd f N (nI v)) (fun i => if i = N then v else g i) (N + 1) := by
  intro k hk
  dsimp only
  by_cases c : k = N
  · rw [if_pos c, updT c]; exact ⟨rfl, hv⟩
  · rw [if_neg c, updF c]; exact h k (by omega)
/-! paint -/
theorem long_of (x : Int32) : x.toInt64 = lI x.toInt := by
  have h1 := x.le_toInt
  have h2 := x.toInt_lt
  have e : x = iI x.toInt := (Int32.ofInt_toInt x).symm
  have := iI_long (z := x.toInt) (by omega) (by omega)
  rw [← e] at this
  exact this
theorem mul_bd {a : Int} {k : Nat} (h1 : -2147483648 ≤ a) (h2 : a < 2147483648) (hk : k ≤ 64) : -137438953472 ≤ a * (k : Int) ∧ a * (k : Int) ≤ 137438953472 := by
  have a1 : a * (k : Int) ≤ 2147483648 * (k : Int) := Int.mul_le_mul_of_nonneg_right (by omega) (by omega)
  have a2 : -2147483648 * (k : Int) ≤ a * (k : Int) := Int.mul_le_mul_of_nonneg_right (by omega) (by omega)
  omega
def pv (v a b : Int) (s k : Nat) : Nat := (clampI 0 255 (v + a * ((k % s : Nat) : Int) + b * ((k / s : Nat) : Int))).toNat
theorem pv_le {v a b : Int} {s k : Nat} : pv v a b s k ≤ 255 := by
  unfold pv
  have := clampI_in (lo := 0) (hi := 255) (z := v + a * ((k % s : Nat) : Int) + b * ((k / s : Nat) : Int)) (by omega)
  omega
theorem pv_eq {v a b : Int} {s k : Nat} : iI (clampI 0 255 (v + a * ((k % s : Nat) : Int) + b * ((k / s : Nat) : Int))) = nI (pv v a b s k) := by
  have := clampI_in (lo := 0) (hi := 255) (z := v + a * ((k % s : Nat) : Int) + b * ((k / s : Nat) : Int)) (by omega)
  unfold pv
  rw [nJ_iI, Int.toNat_of_nonneg this.1]
def pcn (p g : Nat → Nat) : Nat → Nat
  | 0 => 0
  | k + 1 => pcn p g k + (if g k = p k then 0 else 1)
theorem pcn_le (p g : Nat → Nat) (k : Nat) : pcn p g k ≤ k := by
  induction k with
  | zero => exact Nat.le_refl _
  | succ k ih => rw [pcn]; split <;> omega
section
variable {s n : Nat} {f : Nat → Int32} {p : Nat → Nat} {x1 x2 x3 : Int32}
theorem l_F_paint_18 {y : Nat} (hs : s ≤ 64) (hn : s * s ≤ n) (hf : ∀ k, k < s * s → f k = nI (p k)) (hp : ∀ k, k < s * s → p k ≤ 255) (hy : y < s) :
    f_F_paint_18 x1 x2 x3 (nI y) (nI s) (nI s) n FU (nI (pcn p (pv x1.toInt x2.toInt x3.toInt s) (y * s))) 0 (wr f (fun k => nI (pv x1.toInt x2.toInt x3.toInt s k)) (y * s)) = some (nI (pcn p (pv x1.toInt x2.toInt x3.toInt s) ((y + 1) * s)), nI s, wr f (fun k => nI (pv x1.toInt x2.toInt x3.toInt s k)) ((y + 1) * s)) := by
  have key := lp_up (L := fun n' (a : Nat × (Nat → Int32)) v => f_F_paint_18 x1 x2 x3 (nI y) (nI s) (nI s) n n' (nI a.1) (nI v) a.2)
    (st := fun x => (pcn p (pv x1.toInt x2.toInt x3.toInt s) (y * s + x), wr f (fun k => nI (pv x1.toInt x2.toInt x3.toInt s k)) (y * s + x))) (b := s) (fin := (nI (pcn p (pv x1.toInt x2.toInt x3.toInt s) (y * s + s)), nI s, wr f (fun k => nI (pv x1.toInt x2.toInt x3.toInt s k)) (y * s + s)))
    (fun n' => by
      show f_F_paint_18 _ _ _ _ _ _ _ (n' + 1) _ _ _ = _
      rw [f_F_paint_18, if_pos (by rw [nJ_leT (Nat.le_refl _) (by omega)]; exact trivial)])
    (fun n' x hx => by
      show f_F_paint_18 _ _ _ _ _ _ _ (n' + 1) _ _ _ = f_F_paint_18 _ _ _ _ _ _ _ n' _ _ _
      obtain ⟨r1, r2⟩ := rowIdx (y := y) hx
      have hi : y * s + x < s * s := ix hx hy
      have q1 := x1.le_toInt
      have q2 := x1.toInt_lt
      have q3 := mul_bd x2.le_toInt x2.toInt_lt (show x ≤ 64 by omega)
      have q4 := mul_bd x3.le_toInt x3.toInt_lt (show y ≤ 64 by omega)
      have br := l_F_brought (a := x1.toInt + x2.toInt * (x : Int) + x3.toInt * (y : Int)) (lo := 0) (hi := 255) (by omega) (by omega) (by omega) (by omega) (by omega)
      have br : f_F_brought (lI (x1.toInt + x2.toInt * (x : Int) + x3.toInt * (y : Int))) 0 255 = _ := br
      have e5 : iI (clampI 0 255 (x1.toInt + x2.toInt * (x : Int) + x3.toInt * (y : Int))) = nI (pv x1.toInt x2.toInt x3.toInt s (y * s + x)) := by
        have := pv_eq (v := x1.toInt) (a := x2.toInt) (b := x3.toInt) (s := s) (k := y * s + x)
        rw [r1, r2] at this; exact this
      have hv := pv_le (v := x1.toInt) (a := x2.toInt) (b := x3.toInt) (s := s) (k := y * s + x)
      have hpp := hp _ hi
      have e6 : wr f (fun k => nI (pv x1.toInt x2.toInt x3.toInt s k)) (y * s + x) (y * s + x) = nI (p (y * s + x)) := by rw [wr_ge (Nat.le_refl _)]; exact hf _ hi
      have ws := wrS f (fun k => nI (pv x1.toInt x2.toInt x3.toInt s k)) (y * s + x)
      rw [f_F_paint_18, if_neg (by rw [nJ_leF hx (by omega)]; exact not_false)]
      dsimp only
      rw [long_of x1, long_of x2, long_of x3, nJ_long (by omega), nJ_long (by omega), lI_mul, lI_mul, lI_add, lI_add, br, Option.bind_some, lI_int, e5, l_G_sample hs hx hy hn, Option.bind_some, e6, l_G_set hs hx hy hn, Option.bind_some, Option.bind_some]
      rw [ws, show y * s + (x + 1) = y * s + x + 1 by omega, pcn, n1, nJ_add, nJ_add]
      by_cases c : pv x1.toInt x2.toInt x3.toInt s (y * s + x) = p (y * s + x)
      · rw [if_pos (by rw [c]), if_pos c]; rfl
      · rw [if_neg (by rw [nJ_eqF c (by omega) (by omega)]; exact not_false), if_neg c])
    FU 0 (Nat.zero_le _) (fu (by omega))
  have e : (y + 1) * s = y * s + s := by rw [Nat.add_mul, Nat.one_mul]
  rw [e]
  exact key
theorem l_F_paint (hs : s ≤ 64) (hn : s * s ≤ n) (hf : ∀ k, k < s * s → f k = nI (p k)) (hp : ∀ k, k < s * s → p k ≤ 255) :
    f_F_paint x1 x2 x3 (nI s) (nI s) n f = some (nI (pcn p (pv x1.toInt x2.toInt x3.toInt s) (s * s)), wr f (fun k => nI (pv x1.toInt x2.toInt x3.toInt s k)) (s * s)) := by
  have key := lp_up (L := fun n' (a : Nat × (Nat → Int32)) v => f_F_paint_6 x1 x2 x3 (nI s) (nI s) n n' (nI a.1) (nI v) a.2)
    (st := fun y => (pcn p (pv x1.toInt x2.toInt x3.toInt s) (y * s), wr f (fun k => nI (pv x1.toInt x2.toInt x3.toInt s k)) (y * s))) (b := s) (fin := (nI (pcn p (pv x1.toInt x2.toInt x3.toInt s) (s * s)), nI s, wr f (fun k => nI (pv x1.toInt x2.toInt x3.toInt s k)) (s * s)))
    (fun n' => by
      show f_F_paint_6 _ _ _ _ _ _ (n' + 1) _ _ _ = _
      rw [f_F_paint_6, if_pos (by rw [nJ_leT (Nat.le_refl _) (by omega)]; exact trivial)])
    (fun n' y hy => by
      show f_F_paint_6 _ _ _ _ _ _ (n' + 1) _ _ _ = f_F_paint_6 _ _ _ _ _ _ n' _ _ _
      rw [f_F_paint_6, if_neg (by rw [nJ_leF hy (by omega)]; exact not_false)]
      dsimp only
      rw [l_F_paint_18 hs hn hf hp hy, Option.bind_some, n1, nJ_add])
    FU 0 (Nat.zero_le _) (fu (by omega))
  rw [Nat.zero_mul, wr0] at key
  have key : f_F_paint_6 x1 x2 x3 (nI s) (nI s) n FU 0 0 f = _ := key
  unfold f_F_paint
  rw [key]
  rfl
theorem l_M_paint (hs : s ≤ 64) (hs0 : 0 < s) (hn : s * s ≤ n) (hf : ∀ k, k < s * s → f k = nI (p k)) (hp : ∀ k, k < s * s → p k ≤ 255) :
    f_M_paint x1 x2 x3 (nI s) n f = some (nI (pcn p (pv x1.toInt x2.toInt x3.toInt s) (s * s)), 0, wr f (fun k => nI (pv x1.toInt x2.toInt x3.toInt s k)) (s * s)) := by
  have hs2 := sq64 hs
  have cz : ¬ nI s = 0 := by rw [n0, nJ_eqF (by omega) (by omega) (by omega)]; exact not_false
  have key := lp_up (L := fun n' (a : Nat × (Nat → Int32)) v => f_M_paint_11 x1 x2 x3 (nI s) n n' (nI a.1) (nI v) a.2)
    (st := fun y => (pcn p (pv x1.toInt x2.toInt x3.toInt s) y, wr f (fun k => nI (pv x1.toInt x2.toInt x3.toInt s k)) y)) (b := s * s) (fin := (nI (pcn p (pv x1.toInt x2.toInt x3.toInt s) (s * s)), nI (s * s), wr f (fun k => nI (pv x1.toInt x2.toInt x3.toInt s k)) (s * s)))
    (fun n' => by
      show f_M_paint_11 _ _ _ _ _ (n' + 1) _ _ _ = _
      rw [f_M_paint_11, nJ_mul, if_pos (by rw [nJ_leT (Nat.le_refl _) (by omega)]; exact trivial)])
    (fun n' i hi => by
      show f_M_paint_11 _ _ _ _ _ (n' + 1) _ _ _ = f_M_paint_11 _ _ _ _ _ n' _ _ _
      have hx := modLt hi
      have hy := divLt hi
      have q1 := x1.le_toInt
      have q2 := x1.toInt_lt
      have q3 := mul_bd x2.le_toInt x2.toInt_lt (show i % s ≤ 64 by omega)
      have q4 := mul_bd x3.le_toInt x3.toInt_lt (show i / s ≤ 64 by omega)
      have br := l_M_brought (a := x1.toInt + x2.toInt * ((i % s : Nat) : Int) + x3.toInt * ((i / s : Nat) : Int)) (lo := 0) (hi := 255) (by omega) (by omega) (by omega) (by omega) (by omega)
      have br : f_M_brought (lI (x1.toInt + x2.toInt * ((i % s : Nat) : Int) + x3.toInt * ((i / s : Nat) : Int))) 0 255 = _ := br
      have e5 := pv_eq (v := x1.toInt) (a := x2.toInt) (b := x3.toInt) (s := s) (k := i)
      have hv := pv_le (v := x1.toInt) (a := x2.toInt) (b := x3.toInt) (s := s) (k := i)
      have hpp := hp _ hi
      have em : i - i / s * s = i % s := modSub i s
      have ml : i / s * s ≤ i := Nat.div_mul_le_self i s
      have e6 : wr f (fun k => nI (pv x1.toInt x2.toInt x3.toInt s k)) i i = nI (p i) := by rw [wr_ge (Nat.le_refl _)]; exact hf _ hi
      have ws := wrS f (fun k => nI (pv x1.toInt x2.toInt x3.toInt s k)) i
      have ii : ¬ (nI i < 0 ∨ n ≤ i) := by rw [n0, nJ_ltF (by omega) (by omega), false_or]; omega
      have cl : (nI i).toNatClampNeg = i := nJ_clamp (by omega)
      have e7 : x2.toInt * ((i % s : Nat) : Int) + x3.toInt * ((i / s : Nat) : Int) + x1.toInt = x1.toInt + x2.toInt * ((i % s : Nat) : Int) + x3.toInt * ((i / s : Nat) : Int) := by omega
      rw [f_M_paint_11, nJ_mul, if_neg (by rw [nJ_leF hi (by omega)]; exact not_false), if_neg cz, if_neg cz]
      dsimp only
      rw [nJ_div (by omega) (by omega), nJ_mul, nJ_sub ml, em, long_of x1, long_of x2, long_of x3, nJ_long (by omega), nJ_long (by omega), lI_mul, lI_mul, lI_add, lI_add, e7, br, Option.bind_some, e5, cl, if_neg ii, if_neg ii, if_neg ii, ws, pcn, n1, n0, nJ_add, nJ_add, nJ_add]
      by_cases c : pv x1.toInt x2.toInt x3.toInt s i = p i
      · rw [if_pos (by rw [e6, c]), if_pos c]
      · rw [if_neg (by rw [e6, nJ_eqF c (by omega) (by omega)]; exact not_false), if_neg c])
    FU 0 (Nat.zero_le _) (fu (by omega))
  rw [wr0] at key
  have key : f_M_paint_11 x1 x2 x3 (nI s) n FU 0 0 f = _ := key
  unfold f_M_paint
  rw [key]
  rfl
end
end
section
/-! one call on both sides -/
def AOk (w d : Nat) (p : Nat → Nat) (D : Nat) (q : Nat → Nat) (e : ES) (N : Nat) : Prop := w = 2 * 2 ^ d ∧ w ≤ 16 ∧ (∀ k, k < 2 * w * (2 * w) → p k ≤ 255) ∧ (D = 0 ∨ D = 2 * w ∨ D = 2 * (w * 2)) ∧ (∀ j, q j ≤ 255) ∧ e.1 ≤ w * w ∧ okF w e.2.1 e.1 ∧ e.2.2.1 ≤ 3 + 26 * (w * w) ∧ N ≤ 2000
/-- what the class's cells and the reference's cells have in common -/
def RX (w d : Nat) (P_side : Int32) (PA_f : Nat → Int32) (N_side : Int32) (NA_f : Nat → Int32) (S_tried K_count : Int32) (KA_f : Nat → Int32) (C_filled : Int32) (CA_f : Nat → Int32) (I_filled : Int32) (IA_f : Nat → Int32) (Xpicture_f : Nat → Int32) (X_many : Int32) (Xblocks_f : Nat → Int32) (X_encodedBits : Int32) (Xencoded_f : Nat → Int32) (X_tried X_decoded : Int32) (Xnews_f : Nat → Int32) (X_fedMany : Int32) (Xfed_f : Nat → Int32) : Prop :=
  ∃ (p : Nat → Nat) (D : Nat) (q : Nat → Nat) (e : ES) (N : Nat) (g : Nat → Nat), AOk w d p D q e N ∧
    (P_side = nI (2 * w) ∧ (∀ k, k < 2 * w * (2 * w) → PA_f k = nI (p k)) ∧ N_side = nI D ∧ (∀ j, j < D * D → NA_f j = nI (q j)) ∧ eRep 0 K_count KA_f C_filled CA_f S_tried e ∧ I_filled = nI (8 * N) ∧ fRep IA_f g N) ∧
    ((∀ k, k < 2 * w * (2 * w) → Xpicture_f k = nI (p k)) ∧ eRep 0 X_many Xblocks_f X_encodedBits Xencoded_f X_tried e ∧ X_decoded = nI D ∧ (∀ j, j < D * D → Xnews_f j = nI (q j)) ∧ X_fedMany = nI N ∧ fRep Xfed_f g N)
theorem sq_eq (w : Nat) : 2 * w * (2 * w) = 4 * (w * w) := by rw [Nat.mul_mul_mul_comm]
theorem ww_le {w : Nat} (h : w ≤ 16) : w * w ≤ 256 := Nat.mul_le_mul h h
theorem byte_case (x : Int32) : (∃ v : Nat, v ≤ 255 ∧ x = nI v ∧ f_M_in x.toInt64 0 255 = some 1 ∧ ¬ x < 0 ∧ x ≤ 255) ∨ (f_M_in x.toInt64 0 255 = some 0 ∧ (x < 0 ∨ ¬ x ≤ 255)) := by
  rcases nJ_case x with h | ⟨n, hn, rfl⟩
  · right
    refine ⟨?_, Or.inl h⟩
    rw [L255]
    exact l_in_F (fun ⟨a, ha, e⟩ => by rw [e, n0, nJ_ltF (by omega) (by omega)] at h; exact h) (by omega)
  · by_cases c : n ≤ 255
    · left
      refine ⟨n, c, rfl, by rw [L255]; exact l_in_T (by omega) (by omega), ?_, ?_⟩
      · rw [n0, nJ_ltF (by omega) (by omega)]; exact not_false
      · rw [n255, nJ_leT c (by omega)]; exact trivial
    · right
      refine ⟨?_, Or.inr ?_⟩
      · rw [L255]
        exact l_in_F (fun ⟨a, ha, e⟩ => by have := nJ_inj e hn (by omega); omega) (by omega)
      · rw [n255, nJ_leF (by omega) hn]; exact not_false
theorem ps_0 {w d : Nat} {P_side : Int32} {PA_f : Nat → Int32} {X_code : Int32} {Xpicture_f : Nat → Int32} {OUT_f : Nat → Int64} {N_side : Int32} {NA_f : Nat → Int32} {S_tried : Int32} {K_count : Int32} {KA_f : Nat → Int32} {C_filled : Int32} {CA_f : Nat → Int32} {I_filled : Int32} {IA_f : Nat → Int32} {X_many : Int32} {Xblocks_f : Nat → Int32} {X_encodedBits : Int32} {Xencoded_f : Nat → Int32} {X_tried : Int32} {X_decoded : Int32} {Xnews_f : Nat → Int32} {X_fedMany : Int32} {Xfed_f : Nat → Int32} (h : RX w d P_side PA_f N_side NA_f S_tried K_count KA_f C_filled CA_f I_filled IA_f Xpicture_f X_many Xblocks_f X_encodedBits Xencoded_f X_tried X_decoded Xnews_f X_fedMany Xfed_f) (a1 a2 a3 : Int32) :
    ∃ r, f_LW_0 a1 a2 a3 P_side (4 * (w * w)) PA_f X_code (nI (2 * w)) 1024 Xpicture_f 1 OUT_f = some r ∧ RX w d P_side r.1 N_side NA_f S_tried K_count KA_f C_filled CA_f I_filled IA_f r.2.2.1 X_many Xblocks_f X_encodedBits Xencoded_f X_tried X_decoded Xnews_f X_fedMany Xfed_f := by
  obtain ⟨p, D, q, e, N, g, hA, ⟨c1, c2, c3, c4, c5, c6, c7⟩, m1, m2, m3, m4, m5, m6⟩ := h
  have hA0 := hA
  obtain ⟨k1, k2, k3, _⟩ := hA
  have hww := ww_le k2
  have hsq := sq_eq w
  subst c1
  by_cases hp : ∃ a b : Nat, a < 2 * w ∧ b < 2 * w ∧ a1 = nI a ∧ a2 = nI b
  · obtain ⟨a, b, ha, hb, rfl, rfl⟩ := hp
    have hi : b * (2 * w) + a < 2 * w * (2 * w) := ix ha hb
    rcases byte_case a3 with ⟨v, hv, rfl, hin, g1, g2⟩ | ⟨hin, g1⟩
    · have hF : f_F_put (nI a) (nI b) (nI v) (nI (2 * w)) (4 * (w * w)) PA_f = some (.inr (PA_f (b * (2 * w) + a), upd PA_f (b * (2 * w) + a) (nI v))) := by
        unfold f_F_put
        rw [l_G_has (by omega) ha hb, Option.bind_some, if_neg (by decide), if_neg g1, if_pos g2, l_G_sample (by omega) ha hb (by omega), Option.bind_some, l_G_set (by omega) ha hb (by omega)]
        rfl
      have hL : f_L_put (nI a) (nI b) (nI v) (nI (2 * w)) (4 * (w * w)) PA_f 1 OUT_f = some (0, upd PA_f (b * (2 * w) + a) (nI v), vp_updL OUT_f (0 : Int32).toNatClampNeg (PA_f (b * (2 * w) + a)).toInt64) := by
        unfold f_L_put
        rw [hF, Option.bind_some, Sum.elim_inr, if_neg io1]
      have ei : nI (2 * w) * nI b + nI a = nI (b * (2 * w) + a) := by rw [nJ_mul, nJ_add, Nat.mul_comm]
      have cl : (nI (b * (2 * w) + a)).toNatClampNeg = b * (2 * w) + a := nJ_clamp (by omega)
      have ii : ¬ (nI (b * (2 * w) + a) < 0 ∨ 1024 ≤ b * (2 * w) + a) := by rw [n0, nJ_ltF (by omega) (by omega), false_or]; omega
      have hM : f_M_put (nI a) (nI b) (nI v) X_code (nI (2 * w)) 1024 Xpicture_f = some (Xpicture_f (b * (2 * w) + a), 0, upd Xpicture_f (b * (2 * w) + a) (nI v)) := by
        unfold f_M_put
        rw [l_isPlace_T (by omega) ha hb, Option.bind_some, if_neg (by decide), hin, Option.bind_some, if_neg (by decide), if_pos (by decide), ei, cl, if_neg ii, if_neg ii]
      refine ⟨(upd PA_f (b * (2 * w) + a) (nI v), 0, upd Xpicture_f (b * (2 * w) + a) (nI v), vp_updL OUT_f (0 : Int32).toNatClampNeg (PA_f (b * (2 * w) + a)).toInt64), ?_, fun k => if k = b * (2 * w) + a then v else p k, D, q, e, N, g, ⟨k1, k2, fun k hk => ?_, hA0.2.2.2⟩, ⟨rfl, fun k hk => ?_, c3, c4, c5, c6, c7⟩, fun k hk => ?_, m2, m3, m4, m5, m6⟩
      · unfold f_LW_0 f_M_thrown
        rw [hL, Option.bind_some, hM, Option.bind_some, Option.bind_some]
        exact law_ok rfl (fun _ => by (try dsimp only); rw [updL0, c2 _ hi, m1 _ hi])
      · dsimp only; split
        · exact hv
        · exact k3 k hk
      · dsimp only; split
        · rename_i h; rw [updT h]
        · rename_i h; rw [updF h]; exact c2 k hk
      · dsimp only; split
        · rename_i h; rw [updT h]
        · rename_i h; rw [updF h]; exact m1 k hk
    · have hF : f_F_put (nI a) (nI b) a3 (nI (2 * w)) (4 * (w * w)) PA_f = some (.inl 2) := by
        unfold f_F_put
        rw [l_G_has (by omega) ha hb, Option.bind_some, if_neg (by decide)]
        by_cases z : a3 < 0
        · rw [if_pos z]
        · rw [if_neg z, if_neg (g1.resolve_left z)]
      have hL : f_L_put (nI a) (nI b) a3 (nI (2 * w)) (4 * (w * w)) PA_f 1 OUT_f = some (2, PA_f, OUT_f) := by
        unfold f_L_put
        rw [hF]; rfl
      have hM : f_M_put (nI a) (nI b) a3 X_code (nI (2 * w)) 1024 Xpicture_f = some (0, 2, Xpicture_f) := by
        unfold f_M_put
        rw [l_isPlace_T (by omega) ha hb, Option.bind_some, if_neg (by decide), hin, Option.bind_some, if_pos rfl, if_neg (by decide)]
      refine ⟨(PA_f, 2, Xpicture_f, OUT_f), ?_, p, D, q, e, N, g, hA0, ⟨rfl, c2, c3, c4, c5, c6, c7⟩, m1, m2, m3, m4, m5, m6⟩
      unfold f_LW_0 f_M_thrown
      rw [hL, Option.bind_some, hM, Option.bind_some, Option.bind_some]
      exact law_ok rfl (fun h => by first | exact absurd h c1_ne | exact absurd h c2_ne)
  · have hF : f_F_put a1 a2 a3 (nI (2 * w)) (4 * (w * w)) PA_f = some (.inl 1) := by
      unfold f_F_put
      rw [l_G_hasnt (by omega) hp, Option.bind_some, if_pos rfl]
    have hL : f_L_put a1 a2 a3 (nI (2 * w)) (4 * (w * w)) PA_f 1 OUT_f = some (1, PA_f, OUT_f) := by
      unfold f_L_put
      rw [hF]; rfl
    have hM : f_M_put a1 a2 a3 X_code (nI (2 * w)) 1024 Xpicture_f = some (0, 1, Xpicture_f) := by
      unfold f_M_put
      rw [l_isPlace_F (by omega) hp, Option.bind_some, if_pos rfl, if_neg (by decide)]
    refine ⟨(PA_f, 1, Xpicture_f, OUT_f), ?_, p, D, q, e, N, g, hA0, ⟨rfl, c2, c3, c4, c5, c6, c7⟩, m1, m2, m3, m4, m5, m6⟩
    unfold f_LW_0 f_M_thrown
    rw [hL, Option.bind_some, hM, Option.bind_some, Option.bind_some]
    exact law_ok rfl (fun h => by first | exact absurd h c1_ne | exact absurd h c2_ne)
theorem ps_1 {w d : Nat} {P_side : Int32} {PA_f : Nat → Int32} {X_code : Int32} {Xpicture_f : Nat → Int32} {N_side : Int32} {NA_f : Nat → Int32} {S_tried : Int32} {K_count : Int32} {KA_f : Nat → Int32} {C_filled : Int32} {CA_f : Nat → Int32} {I_filled : Int32} {IA_f : Nat → Int32} {X_many : Int32} {Xblocks_f : Nat → Int32} {X_encodedBits : Int32} {Xencoded_f : Nat → Int32} {X_tried : Int32} {X_decoded : Int32} {Xnews_f : Nat → Int32} {X_fedMany : Int32} {Xfed_f : Nat → Int32} (h : RX w d P_side PA_f N_side NA_f S_tried K_count KA_f C_filled CA_f I_filled IA_f Xpicture_f X_many Xblocks_f X_encodedBits Xencoded_f X_tried X_decoded Xnews_f X_fedMany Xfed_f) (a1 a2 a3 : Int32) :
    ∃ r, f_LW_1 a1 a2 a3 (nI (2 * w)) P_side (4 * (w * w)) PA_f X_code (nI (2 * w)) 1024 Xpicture_f = some r ∧ RX w d P_side r.1 N_side NA_f S_tried K_count KA_f C_filled CA_f I_filled IA_f r.2.2 X_many Xblocks_f X_encodedBits Xencoded_f X_tried X_decoded Xnews_f X_fedMany Xfed_f := by
  obtain ⟨p, D, q, e, N, g, hA, ⟨c1, c2, c3, c4, c5, c6, c7⟩, m1, m2, m3, m4, m5, m6⟩ := h
  have hA0 := hA
  obtain ⟨k1, k2, k3, _⟩ := hA
  have hww := ww_le k2
  have hsq := sq_eq w
  have t1 := two_pos' d
  subst c1
  have hF := l_F_paint (s := 2 * w) (n := 4 * (w * w)) (x1 := a1) (x2 := a2) (x3 := a3) (by omega) (by omega) c2 k3
  have hM := l_M_paint (s := 2 * w) (n := 1024) (x1 := a1) (x2 := a2) (x3 := a3) (by omega) (by omega) (by omega) m1 k3
  refine ⟨(wr PA_f (fun k => nI (pv a1.toInt a2.toInt a3.toInt (2 * w) k)) (2 * w * (2 * w)), 0, wr Xpicture_f (fun k => nI (pv a1.toInt a2.toInt a3.toInt (2 * w) k)) (2 * w * (2 * w))), ?_, pv a1.toInt a2.toInt a3.toInt (2 * w), D, q, e, N, g, ⟨k1, k2, fun k hk => pv_le, hA0.2.2.2⟩, ⟨rfl, fun k hk => (by dsimp only; exact wr_lt hk), c3, c4, c5, c6, c7⟩, fun k hk => (by dsimp only; exact wr_lt hk), m2, m3, m4, m5, m6⟩
  unfold f_LW_1
  rw [hF, Option.bind_some, hM, Option.bind_some, if_pos rfl]
theorem ps_2 {w d : Nat} {P_side : Int32} {PA_f : Nat → Int32} {H_side : Int32} {HA_f : Nat → Int32} {V_left : Int32} {V_top : Int32} {V_start : Int32} {V_stepAcross : Int32} {V_stepDown : Int32} {S_tried : Int32} {S_size : Int32} {S_count : Int32} {S_wantedSum : Int32} {S_foundSum : Int32} {S_foundSquares : Int32} {W_f : Nat → Int32} {D_f : Nat → Int32} {Q_f : Nat → Int32} {R_f : Nat → Int32} {E_domain : Int32} {E_turn : Int32} {E_contrast : Int32} {E_offset : Int32} {E_error : Int32} {K_count : Int32} {KA_f : Nat → Int32} {C_filled : Int32} {C_taken : Int32} {CA_f : Nat → Int32} {X_code : Int32} {X_many : Int32} {X_found : Int32} {X_encodedBits : Int32} {X_tried : Int32} {X_waiting : Int32} {X_bestError : Int64} {Xpicture_f : Nat → Int32} {Xhalf_f : Nat → Int32} {Xblocks_f : Nat → Int32} {Xencoded_f : Nat → Int32} {Xpile_f : Nat → Int32} {Xds_f : Nat → Int32} {Xrs_f : Nat → Int32} {Xbest_f : Nat → Int32} {OUT_f : Nat → Int64} {N_side : Int32} {NA_f : Nat → Int32} {I_filled : Int32} {IA_f : Nat → Int32} {X_decoded : Int32} {Xnews_f : Nat → Int32} {X_fedMany : Int32} {Xfed_f : Nat → Int32} (h : RX w d P_side PA_f N_side NA_f S_tried K_count KA_f C_filled CA_f I_filled IA_f Xpicture_f X_many Xblocks_f X_encodedBits Xencoded_f X_tried X_decoded Xnews_f X_fedMany Xfed_f) (a1 a2 : Int32) :
    ∃ r, f_LW_2 a1 a2 (nI (2 * w)) P_side (4 * (w * w)) PA_f (nI (2 * w)) H_side (4 * (w * w)) HA_f V_left V_top V_start V_stepAcross V_stepDown S_tried S_size S_count S_wantedSum S_foundSum S_foundSquares (w * w) W_f (w * w) D_f 4 Q_f 8 R_f E_domain E_turn E_contrast E_offset E_error K_count (8 * (w * w)) KA_f C_filled C_taken (4 * (w * w)) CA_f X_code (nI (2 * w)) X_many X_found X_encodedBits X_tried X_waiting X_bestError 1024 Xpicture_f 256 Xhalf_f 4096 Xblocks_f 2000 Xencoded_f 96 Xpile_f 256 Xds_f 256 Xrs_f 4 Xbest_f 1 OUT_f = some r ∧ RX w d P_side PA_f N_side NA_f r.2.2.2.2.2.2.2.1 r.2.2.2.2.2.2.2.2.2.2.2.2.2.2.2.2.2.2.2.2.2.2.1 r.2.2.2.2.2.2.2.2.2.2.2.2.2.2.2.2.2.2.2.2.2.2.2.1 r.2.2.2.2.2.2.2.2.2.2.2.2.2.2.2.2.2.2.2.2.2.2.2.2.1 r.2.2.2.2.2.2.2.2.2.2.2.2.2.2.2.2.2.2.2.2.2.2.2.2.2.2.1 I_filled IA_f Xpicture_f r.2.2.2.2.2.2.2.2.2.2.2.2.2.2.2.2.2.2.2.2.2.2.2.2.2.2.2.2.1 r.2.2.2.2.2.2.2.2.2.2.2.2.2.2.2.2.2.2.2.2.2.2.2.2.2.2.2.2.2.2.2.2.2.2.2.1 r.2.2.2.2.2.2.2.2.2.2.2.2.2.2.2.2.2.2.2.2.2.2.2.2.2.2.2.2.2.2.1 r.2.2.2.2.2.2.2.2.2.2.2.2.2.2.2.2.2.2.2.2.2.2.2.2.2.2.2.2.2.2.2.2.2.2.2.2.1 r.2.2.2.2.2.2.2.2.2.2.2.2.2.2.2.2.2.2.2.2.2.2.2.2.2.2.2.2.2.2.2.1 X_decoded Xnews_f X_fedMany Xfed_f := by
  obtain ⟨p, D, q, e, N, g, hA, ⟨c1, c2, c3, c4, c5, c6, c7⟩, m1, m2, m3, m4, m5, m6⟩ := h
  have hA0 := hA
  obtain ⟨k1, k2, k3, k4, k5, k6, k7, k8, k9⟩ := hA
  have hww := ww_le k2
  have hsq := sq_eq w
  subst c1
  by_cases hb : ∃ j bd : Nat, 1 ≤ j ∧ j ≤ 4 ∧ 2 ^ j ≤ w ∧ bd < 2147483648 ∧ a1 = nI (2 ^ j) ∧ a2 = nI bd
  · obtain ⟨j, bd, j1, j4, jw, hbd, rfl, rfl⟩ := hb
    obtain ⟨r, r1, r2, r3⟩ := l_F_encode_ok (n := 4 * (w * w)) (f := PA_f) (hn := 4 * (w * w)) (hf := HA_f) (wn := w * w) (dn := w * w) (qn := 4) (rn := 8) (kn := 8 * (w * w)) (cn := 4 * (w * w)) (p := p) (w := w) (d := d) (j := j) (bd := bd) (hs := H_side) (a1 := V_left) (a2 := V_top) (a3 := V_start) (a4 := V_stepAcross) (a5 := V_stepDown) (a6 := S_tried) (a7 := S_size) (a8 := S_count) (a9 := S_wantedSum) (a10 := S_foundSum) (a11 := S_foundSquares) (b1 := E_domain) (b2 := E_turn) (b3 := E_contrast) (b4 := E_offset) (b5 := E_error) (kc := K_count) (cf := C_filled) (W := W_f) (Df := D_f) (Q := Q_f) (R := R_f) (K := KA_f) (C := CA_f) k1 k2 j1 j4 jw hbd (by omega) (by omega) (by omega) (by omega) (by omega) (by omega) (by omega) (by omega) (by omega) rfl rfl c2 k3
    obtain ⟨u, u1, u2, u3, u4⟩ := l_M_encode_ok (n := 1024) (f := Xpicture_f) (hn := 256) (hf := Xhalf_f) (kn := 4096) (cn := 2000) (ln := 96) (dn := 256) (rn := 256) (bn := 4) (p := p) (w := w) (d := d) (j := j) (bd := bd) (cd := X_code) (my := X_many) (fo := X_found) (eb := X_encodedBits) (tr := X_tried) (wt := X_waiting) (be := X_bestError) (K := Xblocks_f) (C := Xencoded_f) (P := Xpile_f) (Ds := Xds_f) (Rs := Xrs_f) (bf := Xbest_f) k1 k2 j1 j4 jw hbd (by omega) (by omega) (by omega) (by omega) (by omega) rfl rfl rfl m1 k3
    have le := encOf_le (p := p) (d := d) (j := j) (bd := bd) k2
    have e4 : w * w = 4 * 4 ^ d := by rw [k1]; exact four_two d
    refine ⟨(r.2.1, r.2.2.1, r.2.2.2.1, r.2.2.2.2.1, r.2.2.2.2.2.1, r.2.2.2.2.2.2.1, r.2.2.2.2.2.2.2.1, r.2.2.2.2.2.2.2.2.1, r.2.2.2.2.2.2.2.2.2.1, r.2.2.2.2.2.2.2.2.2.2.1, r.2.2.2.2.2.2.2.2.2.2.2.1, r.2.2.2.2.2.2.2.2.2.2.2.2.1, r.2.2.2.2.2.2.2.2.2.2.2.2.2.1, r.2.2.2.2.2.2.2.2.2.2.2.2.2.2.1, r.2.2.2.2.2.2.2.2.2.2.2.2.2.2.2.1, r.2.2.2.2.2.2.2.2.2.2.2.2.2.2.2.2.1, r.2.2.2.2.2.2.2.2.2.2.2.2.2.2.2.2.2.1, r.2.2.2.2.2.2.2.2.2.2.2.2.2.2.2.2.2.2.1, r.2.2.2.2.2.2.2.2.2.2.2.2.2.2.2.2.2.2.2.1, r.2.2.2.2.2.2.2.2.2.2.2.2.2.2.2.2.2.2.2.2.1, r.2.2.2.2.2.2.2.2.2.2.2.2.2.2.2.2.2.2.2.2.2.1, r.2.2.2.2.2.2.2.2.2.2.2.2.2.2.2.2.2.2.2.2.2.2.1, r.2.2.2.2.2.2.2.2.2.2.2.2.2.2.2.2.2.2.2.2.2.2.2.1, r.2.2.2.2.2.2.2.2.2.2.2.2.2.2.2.2.2.2.2.2.2.2.2.2.1, r.2.2.2.2.2.2.2.2.2.2.2.2.2.2.2.2.2.2.2.2.2.2.2.2.2.1, r.2.2.2.2.2.2.2.2.2.2.2.2.2.2.2.2.2.2.2.2.2.2.2.2.2.2.1, r.2.2.2.2.2.2.2.2.2.2.2.2.2.2.2.2.2.2.2.2.2.2.2.2.2.2.2, u.2.1, u.2.2.1, u.2.2.2.1, u.2.2.2.2.1, u.2.2.2.2.2.1, u.2.2.2.2.2.2.1, u.2.2.2.2.2.2.2.1, u.2.2.2.2.2.2.2.2.1, u.2.2.2.2.2.2.2.2.2.1, u.2.2.2.2.2.2.2.2.2.2.1, u.2.2.2.2.2.2.2.2.2.2.2.1, u.2.2.2.2.2.2.2.2.2.2.2.2.1, u.2.2.2.2.2.2.2.2.2.2.2.2.2.1, u.2.2.2.2.2.2.2.2.2.2.2.2.2.2, vp_updL OUT_f (0 : Int32).toNatClampNeg r.1.toInt64), ?_, p, D, q, encOf p w d j bd, N, g, ⟨k1, k2, k3, k4, k5, by omega, encOf_ok k2 k1 k3, by omega, k9⟩, ⟨rfl, c2, c3, c4, r3, c6, c7⟩, m1, u4, m3, m4, m5, m6⟩
    unfold f_LW_2 f_M_thrown f_L_encode
    rw [r1, Option.bind_some, Sum.elim_inr, if_neg io1, Option.bind_some, u1, Option.bind_some, Option.bind_some]
    exact law_ok u3 (fun _ => by (try dsimp only); rw [updL0, r2, u2])
  · have hF := l_F_encode_bad (n := 4 * (w * w)) (f := PA_f) (hn := 4 * (w * w)) (hf := HA_f) (wn := w * w) (dn := w * w) (qn := 4) (rn := 8) (kn := 8 * (w * w)) (cn := 4 * (w * w)) (hm := nI (2 * w)) (hs := H_side) (a1 := V_left) (a2 := V_top) (a3 := V_start) (a4 := V_stepAcross) (a5 := V_stepDown) (a6 := S_tried) (a7 := S_size) (a8 := S_count) (a9 := S_wantedSum) (a10 := S_foundSum) (a11 := S_foundSquares) (b1 := E_domain) (b2 := E_turn) (b3 := E_contrast) (b4 := E_offset) (b5 := E_error) (kc := K_count) (cf := C_filled) (W := W_f) (Df := D_f) (Q := Q_f) (R := R_f) (K := KA_f) (C := CA_f) k2 hb
    have hM := l_M_encode_bad (n := 1024) (f := Xpicture_f) (hn := 256) (hf := Xhalf_f) (kn := 4096) (cn := 2000) (ln := 96) (dn := 256) (rn := 256) (bn := 4) (cd := X_code) (my := X_many) (fo := X_found) (eb := X_encodedBits) (tr := X_tried) (wt := X_waiting) (be := X_bestError) (K := Xblocks_f) (C := Xencoded_f) (P := Xpile_f) (Ds := Xds_f) (Rs := Xrs_f) (bf := Xbest_f) k2 hb
    refine ⟨(H_side, HA_f, V_left, V_top, V_start, V_stepAcross, V_stepDown, S_tried, S_size, S_count, S_wantedSum, S_foundSum, S_foundSquares, W_f, D_f, Q_f, R_f, E_domain, E_turn, E_contrast, E_offset, E_error, K_count, KA_f, C_filled, C_taken, CA_f, 1, X_many, X_found, X_encodedBits, X_tried, X_waiting, X_bestError, Xhalf_f, Xblocks_f, Xencoded_f, Xpile_f, Xds_f, Xrs_f, Xbest_f, OUT_f), ?_, p, D, q, e, N, g, hA0, ⟨rfl, c2, c3, c4, c5, c6, c7⟩, m1, m2, m3, m4, m5, m6⟩
    unfold f_LW_2 f_M_thrown f_L_encode
    rw [hF, Option.bind_some, Sum.elim_inl, if_pos rfl, Option.bind_some, hM, Option.bind_some, Option.bind_some]
    exact law_ok rfl (fun h => by first | exact absurd h c1_ne | exact absurd h c2_ne)
theorem ps_3 {w d : Nat} {K_count : Int32} {KA_f : Nat → Int32} {X_code : Int32} {X_many : Int32} {Xblocks_f : Nat → Int32} {OUT_f : Nat → Int64} {P_side : Int32} {PA_f : Nat → Int32} {N_side : Int32} {NA_f : Nat → Int32} {S_tried : Int32} {C_filled : Int32} {CA_f : Nat → Int32} {I_filled : Int32} {IA_f : Nat → Int32} {Xpicture_f : Nat → Int32} {X_encodedBits : Int32} {Xencoded_f : Nat → Int32} {X_tried : Int32} {X_decoded : Int32} {Xnews_f : Nat → Int32} {X_fedMany : Int32} {Xfed_f : Nat → Int32} (h : RX w d P_side PA_f N_side NA_f S_tried K_count KA_f C_filled CA_f I_filled IA_f Xpicture_f X_many Xblocks_f X_encodedBits Xencoded_f X_tried X_decoded Xnews_f X_fedMany Xfed_f) (a1 a2 : Int32) :
    ∃ r, f_LW_3 a1 a2 K_count (8 * (w * w)) KA_f X_code X_many 4096 Xblocks_f 1 OUT_f = some r ∧ RX w d P_side PA_f N_side NA_f S_tried K_count KA_f C_filled CA_f I_filled IA_f Xpicture_f X_many Xblocks_f X_encodedBits Xencoded_f X_tried X_decoded Xnews_f X_fedMany Xfed_f := by
  obtain ⟨p, D, q, e, N, g, hA, ⟨c1, c2, c3, c4, c5, c6, c7⟩, m1, m2, m3, m4, m5, m6⟩ := h
  have hA0 := hA
  have h5 := c5
  have h2 := m2
  obtain ⟨k1, k2, k3, k4, k5, k6, k7, k8, k9⟩ := hA
  have hww := ww_le k2
  obtain ⟨q1, q2, _⟩ := h5
  obtain ⟨s1, s2, _⟩ := h2
  have fin : ∀ (c : Int32) (v : Int32) (o : Nat → Int64), f_L_block a1 a2 K_count (8 * (w * w)) KA_f 1 OUT_f = some (c, o) → f_M_block a1 a2 X_code X_many 4096 Xblocks_f = some (v, c) → (c = 0 → o (0 : Int32).toNatClampNeg = v.toInt64) → ∃ r, f_LW_3 a1 a2 K_count (8 * (w * w)) KA_f X_code X_many 4096 Xblocks_f 1 OUT_f = some r := by
    intro c v o h1 h2 h3
    refine ⟨(c, o), ?_⟩
    unfold f_LW_3 f_M_thrown
    rw [h1, Option.bind_some, h2, Option.bind_some, Option.bind_some]
    exact law_ok rfl h3
  have goal : ∃ r, f_LW_3 a1 a2 K_count (8 * (w * w)) KA_f X_code X_many 4096 Xblocks_f 1 OUT_f = some r := by
    rw [q1, s1] at *
    by_cases hk : ∃ a : Nat, a < e.1 ∧ a1 = nI a
    · obtain ⟨a, ha, rfl⟩ := hk
      have i1 := l_in_T ha (show e.1 < 2147483648 by omega)
      by_cases hj : ∃ b : Nat, b < 8 ∧ a2 = nI b
      · obtain ⟨b, hb, rfl⟩ := hj
        have i2 : f_M_in (nI b).toInt64 0 7 = some 1 := by rw [L7]; exact l_in_T hb (by omega)
        have kf := l_K_fact (c := e.1) (k := a) (j := b) (kn := 8 * (w * w)) (K := KA_f) ha hb (by omega) (by omega)
        have ei : 8 * nI a + nI b = nI (8 * a + b) := by rw [n8, nJ_mul, nJ_add]
        have cl : (nI (8 * a + b)).toNatClampNeg = 8 * a + b := nJ_clamp (by omega)
        have ii : ¬ (nI (8 * a + b) < 0 ∨ 4096 ≤ 8 * a + b) := by rw [n0, nJ_ltF (by omega) (by omega), false_or]; omega
        have x1 := q2 (8 * a + b) (by omega)
        have x2 := s2 (8 * a + b) (by omega)
        rw [Nat.zero_add] at x1 x2
        refine fin 0 (Xblocks_f (8 * a + b)) (vp_updL OUT_f (0 : Int32).toNatClampNeg (KA_f (8 * a + b)).toInt64) ?_ ?_ (fun _ => by rw [updL0, x1, x2])
        · unfold f_L_block f_F_block
          rw [if_neg (by rw [n0, nJ_ltF (by omega) (by omega)]; exact not_false), if_pos (by rw [nJ_ltT ha (by omega)]; exact trivial), if_neg (by rw [n0, nJ_ltF (by omega) (by omega)]; exact not_false), if_pos (by rw [n8, nJ_ltT hb (by omega)]; exact trivial), kf, Option.bind_some, Option.bind_some, Sum.elim_inr, if_neg io1]
        · unfold f_M_block
          rw [i1, Option.bind_some, if_neg (by decide), i2, Option.bind_some, if_neg (by decide), if_pos (by decide), ei, cl, if_neg ii]
      · have i2 : f_M_in a2.toInt64 0 7 = some 0 := by rw [L7]; exact l_in_F hj (by omega)
        refine fin 2 0 OUT_f ?_ ?_ (fun h => absurd h (by decide))
        · have hF : f_F_block (nI a) a2 (nI e.1) (8 * (w * w)) KA_f = some (.inl 2) := by
            unfold f_F_block
            rw [if_neg (by rw [n0, nJ_ltF (by omega) (by omega)]; exact not_false), if_pos (by rw [nJ_ltT ha (by omega)]; exact trivial)]
            rcases nJ_case a2 with z | ⟨n, hn, rfl⟩
            · rw [if_pos z]
            · have : ¬ n < 8 := fun z => hj ⟨n, z, rfl⟩
              rw [if_neg (by rw [n0, nJ_ltF (by omega) (by omega)]; exact not_false), if_neg (by rw [n8, nJ_ltF (by omega) hn]; exact not_false)]
          unfold f_L_block
          rw [hF]; rfl
        · unfold f_M_block
          rw [i1, Option.bind_some, if_neg (by decide), i2, Option.bind_some, if_pos rfl, if_neg (by decide)]
    · have i1 := l_in_F hk (show e.1 < 2147483648 by omega)
      refine fin 1 0 OUT_f ?_ ?_ (fun h => absurd h (by decide))
      · have hF : f_F_block a1 a2 (nI e.1) (8 * (w * w)) KA_f = some (.inl 1) := by
          unfold f_F_block
          rcases nJ_case a1 with z | ⟨n, hn, rfl⟩
          · rw [if_pos z]
          · have : ¬ n < e.1 := fun z => hk ⟨n, z, rfl⟩
            rw [if_neg (by rw [n0, nJ_ltF (by omega) (by omega)]; exact not_false), if_neg (by rw [nJ_ltF (by omega) hn]; exact not_false)]
        unfold f_L_block
        rw [hF]; rfl
      · unfold f_M_block
        rw [i1, Option.bind_some, if_pos rfl, if_neg (by decide)]
  obtain ⟨r, hr⟩ := goal
  exact ⟨r, hr, p, D, q, e, N, g, hA0, ⟨c1, c2, c3, c4, c5, c6, c7⟩, m1, m2, m3, m4, m5, m6⟩
theorem ps_4 {w d : Nat} {C_filled : Int32} {CA_f : Nat → Int32} {X_code : Int32} {X_encodedBits : Int32} {Xencoded_f : Nat → Int32} {OUT_f : Nat → Int64} {P_side : Int32} {PA_f : Nat → Int32} {N_side : Int32} {NA_f : Nat → Int32} {S_tried : Int32} {K_count : Int32} {KA_f : Nat → Int32} {I_filled : Int32} {IA_f : Nat → Int32} {Xpicture_f : Nat → Int32} {X_many : Int32} {Xblocks_f : Nat → Int32} {X_tried : Int32} {X_decoded : Int32} {Xnews_f : Nat → Int32} {X_fedMany : Int32} {Xfed_f : Nat → Int32} (h : RX w d P_side PA_f N_side NA_f S_tried K_count KA_f C_filled CA_f I_filled IA_f Xpicture_f X_many Xblocks_f X_encodedBits Xencoded_f X_tried X_decoded Xnews_f X_fedMany Xfed_f) (a1 : Int32) :
    ∃ r, f_LW_4 a1 C_filled (4 * (w * w)) CA_f X_code X_encodedBits 2000 Xencoded_f 1 OUT_f = some r ∧ RX w d P_side PA_f N_side NA_f S_tried K_count KA_f C_filled CA_f I_filled IA_f Xpicture_f X_many Xblocks_f X_encodedBits Xencoded_f X_tried X_decoded Xnews_f X_fedMany Xfed_f := by
  obtain ⟨p, D, q, e, N, g, hA, ⟨c1, c2, c3, c4, c5, c6, c7⟩, m1, m2, m3, m4, m5, m6⟩ := h
  have hA0 := hA
  have h5 := c5
  have h2 := m2
  obtain ⟨k1, k2, k3, k4, k5, k6, k7, k8, k9⟩ := hA
  have hww := ww_le k2
  obtain ⟨_, _, q1, q2, _⟩ := h5
  obtain ⟨_, _, s1, s2, _⟩ := h2
  have goal : ∃ r, f_LW_4 a1 C_filled (4 * (w * w)) CA_f X_code X_encodedBits 2000 Xencoded_f 1 OUT_f = some r := by
    have b1 := l_B_bytes (m := e.2.2.1) (by omega)
    have b2 := l_M_bytes (m := e.2.2.1) (by omega)
    unfold f_LW_4 f_M_thrown f_L_byteAt f_F_byteAt f_M_byteAt
    rw [q1, s1, b1, b2, Option.bind_some, Option.bind_some]
    have hm : (e.2.2.1 + 7) / 8 ≤ 835 := by omega
    have hm2 : (e.2.2.1 + 7) / 8 ≤ 4 * (w * w) := by
      have t1 := two_pos' d
      have : 2 * 2 ≤ w * w := Nat.mul_le_mul (by omega) (by omega)
      omega
    by_cases hk : ∃ a : Nat, a < (e.2.2.1 + 7) / 8 ∧ a1 = nI a
    · obtain ⟨a, ha, rfl⟩ := hk
      have i1 := l_in_T ha (show (e.2.2.1 + 7) / 8 < 2147483648 by omega)
      have cl : (nI a).toNatClampNeg = a := nJ_clamp (by omega)
      have ii : ¬ (nI a < 0 ∨ 2000 ≤ a) := by rw [n0, nJ_ltF (by omega) (by omega), false_or]; omega
      have bo := l_B_byteOf (n := 4 * (w * w)) (i := a) (f := CA_f) (by omega) (by omega)
      rw [if_neg (show ¬ nI a < 0 by rw [n0, nJ_ltF (by omega) (by omega)]; exact not_false), if_pos (show nI a < nI ((e.2.2.1 + 7) / 8) by rw [nJ_ltT ha (by omega)]; exact trivial), bo, Option.bind_some, Option.bind_some, Sum.elim_inr, if_neg io1, Option.bind_some, i1, Option.bind_some, if_neg (show ¬ (1 : Int32) = 0 by decide), if_pos (show (0 : Int32) ≤ 0 by decide), cl, if_neg ii, Option.bind_some, Option.bind_some]
      exact ⟨_, law_ok rfl (fun _ => by (try dsimp only); rw [updL0, q2 a ha, s2 a ha])⟩
    · have i1 := l_in_F hk (show (e.2.2.1 + 7) / 8 < 2147483648 by omega)
      rw [i1, Option.bind_some, if_pos (show (0 : Int32) = 0 from rfl), if_neg (show ¬ (1 : Int32) ≤ 0 by decide)]
      rcases nJ_case a1 with z | ⟨n, hn, rfl⟩
      · rw [if_pos z, Option.bind_some, Sum.elim_inl, if_pos rfl, Option.bind_some, Option.bind_some, Option.bind_some]
        exact ⟨_, law_ok rfl (fun h => by first | exact absurd h c1_ne | exact absurd h c2_ne)⟩
      · have : ¬ n < (e.2.2.1 + 7) / 8 := fun z => hk ⟨n, z, rfl⟩
        rw [if_neg (show ¬ nI n < 0 by rw [n0, nJ_ltF (by omega) (by omega)]; exact not_false), if_neg (show ¬ nI n < nI ((e.2.2.1 + 7) / 8) by rw [nJ_ltF (by omega) hn]; exact not_false), Option.bind_some, Sum.elim_inl, if_pos rfl, Option.bind_some, Option.bind_some, Option.bind_some]
        exact ⟨_, law_ok rfl (fun h => by first | exact absurd h c1_ne | exact absurd h c2_ne)⟩
  obtain ⟨r, hr⟩ := goal
  exact ⟨r, hr, p, D, q, e, N, g, hA0, ⟨c1, c2, c3, c4, c5, c6, c7⟩, m1, m2, m3, m4, m5, m6⟩
end
section
theorem ps_5 {w d : Nat} {I_filled : Int32} {IA_f : Nat → Int32} {X_code : Int32} {X_fedMany : Int32} {Xfed_f : Nat → Int32} {OUT_f : Nat → Int64} {P_side : Int32} {PA_f : Nat → Int32} {N_side : Int32} {NA_f : Nat → Int32} {S_tried : Int32} {K_count : Int32} {KA_f : Nat → Int32} {C_filled : Int32} {CA_f : Nat → Int32} {Xpicture_f : Nat → Int32} {X_many : Int32} {Xblocks_f : Nat → Int32} {X_encodedBits : Int32} {Xencoded_f : Nat → Int32} {X_tried : Int32} {X_decoded : Int32} {Xnews_f : Nat → Int32} (h : RX w d P_side PA_f N_side NA_f S_tried K_count KA_f C_filled CA_f I_filled IA_f Xpicture_f X_many Xblocks_f X_encodedBits Xencoded_f X_tried X_decoded Xnews_f X_fedMany Xfed_f) (a1 : Int32) :
    ∃ r, f_LW_5 a1 I_filled 2000 IA_f X_code X_fedMany 2000 Xfed_f 1 OUT_f = some r ∧ RX w d P_side PA_f N_side NA_f S_tried K_count KA_f C_filled CA_f r.1 r.2.1 Xpicture_f X_many Xblocks_f X_encodedBits Xencoded_f X_tried X_decoded Xnews_f r.2.2.2.1 r.2.2.2.2.1 := by
  obtain ⟨p, D, q, e, N, g, hA, ⟨c1, c2, c3, c4, c5, c6, c7⟩, m1, m2, m3, m4, m5, m6⟩ := h
  have hA0 := hA
  obtain ⟨k1, k2, k3, k4, k5, k6, k7, k8, k9⟩ := hA
  subst c6; subst m5
  have b1 : f_B_bytes (nI (8 * N)) = some (nI N) := by rw [l_B_bytes (by omega)]; congr 2; omega
  rcases byte_case a1 with ⟨v, hv, rfl, hin, g1, g2⟩ | ⟨hin, g1⟩
  · by_cases hN : N = 2000
    · subst hN
      refine ⟨(nI (8 * 2000), IA_f, 2, nI 2000, Xfed_f, OUT_f), ?_, p, D, q, e, 2000, g, hA0, ⟨c1, c2, c3, c4, c5, rfl, c7⟩, m1, m2, m3, m4, rfl, m6⟩
      unfold f_LW_5 f_M_thrown f_L_feed f_F_feed f_M_feed
      rw [if_neg g1, if_pos g2, b1, Option.bind_some, if_neg (show ¬ nI 2000 < 2000 by decide), Option.bind_some, Sum.elim_inl, if_neg (by decide), if_pos rfl, Option.bind_some, hin, Option.bind_some, if_neg (by decide), if_pos (show nI 2000 = 2000 from rfl), if_neg (by decide), Option.bind_some, Option.bind_some]
      exact law_ok rfl (fun h => by first | exact absurd h c1_ne | exact absurd h c2_ne)
    · obtain ⟨f', a1, a2⟩ := l_append8 (n := 2000) c7 hv (by omega) (by omega)
      have b2 : f_B_bytes (nI (8 * (N + 1))) = some (nI (N + 1)) := by rw [l_B_bytes (by omega)]; congr 2; omega
      have cl : (nI N).toNatClampNeg = N := nJ_clamp (by omega)
      have ii : ¬ (nI N < 0 ∨ 2000 ≤ N) := by rw [n0, nJ_ltF (by omega) (by omega), false_or]; omega
      refine ⟨(nI (8 * (N + 1)), f', 0, nI (N + 1), upd Xfed_f N (nI v), vp_updL OUT_f (0 : Int32).toNatClampNeg (nI (N + 1)).toInt64), ?_, p, D, q, e, N + 1, fun i => if i = N then v else g i, ⟨k1, k2, k3, k4, k5, k6, k7, k8, by omega⟩, ⟨c1, c2, c3, c4, c5, rfl, a2⟩, m1, m2, m3, m4, rfl, fRep_upd m6 hv⟩
      unfold f_LW_5 f_M_thrown f_L_feed f_F_feed f_M_feed
      rw [if_neg g1, if_pos g2, b1, Option.bind_some, if_pos (show nI N < 2000 by rw [n2000, nJ_ltT (by omega) (by omega)]; exact trivial), a1, Option.bind_some, b2, Option.bind_some, Option.bind_some, Sum.elim_inr, if_neg io1, Option.bind_some, hin, Option.bind_some, if_neg (show ¬ (1 : Int32) = 0 by decide), if_neg (show ¬ nI N = 2000 by rw [n2000, nJ_eqF hN (by omega) (by omega)]; exact not_false), if_pos (show (0 : Int32) ≤ 0 by decide), cl, if_neg ii, n1, nJ_add, Option.bind_some, Option.bind_some]
      exact law_ok rfl (fun _ => by (try dsimp only); rw [updL0])
  · refine ⟨(nI (8 * N), IA_f, 1, nI N, Xfed_f, OUT_f), ?_, p, D, q, e, N, g, hA0, ⟨c1, c2, c3, c4, c5, rfl, c7⟩, m1, m2, m3, m4, rfl, m6⟩
    have hF : f_F_feed a1 (nI (8 * N)) 2000 IA_f = some (.inl 2) := by
      unfold f_F_feed
      by_cases z : a1 < 0
      · rw [if_pos z]
      · rw [if_neg z, if_neg (g1.resolve_left z)]
    unfold f_LW_5 f_M_thrown f_L_feed f_M_feed
    rw [hF, Option.bind_some, Sum.elim_inl, if_pos rfl, Option.bind_some, hin, Option.bind_some, if_pos rfl, if_neg (by decide), Option.bind_some, Option.bind_some]
    exact law_ok rfl (fun h => by first | exact absurd h c1_ne | exact absurd h c2_ne)
/-- bytes appended one by one -/
def psG (b g : Nat → Nat) (N : Nat) : Nat → (Nat → Nat)
  | 0 => g
  | k + 1 => fun i => if i = N + k then b k else psG b g N k i
theorem ps_6 {w d : Nat} {C_filled : Int32} {CA_f : Nat → Int32} {I_filled : Int32} {IA_f : Nat → Int32} {X_code : Int32} {X_encodedBits : Int32} {X_fedMany : Int32} {Xencoded_f : Nat → Int32} {Xfed_f : Nat → Int32} {OUT_f : Nat → Int64} {P_side : Int32} {PA_f : Nat → Int32} {N_side : Int32} {NA_f : Nat → Int32} {S_tried : Int32} {K_count : Int32} {KA_f : Nat → Int32} {Xpicture_f : Nat → Int32} {X_many : Int32} {Xblocks_f : Nat → Int32} {X_tried : Int32} {X_decoded : Int32} {Xnews_f : Nat → Int32} (h : RX w d P_side PA_f N_side NA_f S_tried K_count KA_f C_filled CA_f I_filled IA_f Xpicture_f X_many Xblocks_f X_encodedBits Xencoded_f X_tried X_decoded Xnews_f X_fedMany Xfed_f) :
    ∃ r, f_LW_6 C_filled (4 * (w * w)) CA_f I_filled 2000 IA_f X_code X_encodedBits X_fedMany 2000 Xencoded_f 2000 Xfed_f 1 OUT_f = some r ∧ RX w d P_side PA_f N_side NA_f S_tried K_count KA_f C_filled CA_f r.1 r.2.1 Xpicture_f X_many Xblocks_f X_encodedBits Xencoded_f X_tried X_decoded Xnews_f r.2.2.2.1 r.2.2.2.2.1 := by
  obtain ⟨p, D, q, e, N, g, hA, ⟨c1, c2, c3, c4, c5, c6, c7⟩, m1, m2, m3, m4, m5, m6⟩ := h
  have hA0 := hA
  have h5 := c5
  have h2 := m2
  obtain ⟨k1, k2, k3, k4, k5, k6, k7, k8, k9⟩ := hA
  have hww := ww_le k2
  obtain ⟨_, _, q1, q2, q3, _⟩ := h5
  obtain ⟨_, _, s1, s2, _⟩ := h2
  rw [c6, m5, q1, s1]
  have b1 : f_B_bytes (nI (8 * N)) = some (nI N) := by rw [l_B_bytes (by omega)]; congr 2; omega
  have b2 := l_B_bytes (m := e.2.2.1) (by omega)
  have b3 := l_M_bytes (m := e.2.2.1) (by omega)
  have hm : (e.2.2.1 + 7) / 8 ≤ 835 := by omega
  have hm2 : (e.2.2.1 + 7) / 8 ≤ 4 * (w * w) := by
    have t1 := two_pos' d
    have : 2 * 2 ≤ w * w := Nat.mul_le_mul (by omega) (by omega)
    omega
  have hq3 := q3.1
  generalize hM : (e.2.2.1 + 7) / 8 = M at b2 b3 hm hm2 hq3 q2 s2
  have q2' : ∀ i, i < M → CA_f i = nI (e.2.2.2.1 i) := fun i hi => q2 i (by omega)
  have s2' : ∀ i, i < M → Xencoded_f i = nI (e.2.2.2.1 i) := fun i hi => s2 i (by omega)
  by_cases hN : N + M ≤ 2000
  · have keyC := lp_inv (L := fun n' (a : Int32 × (Nat → Int32)) v => f_F_pass_35 (nI M) (4 * (w * w)) CA_f 2000 n' (nI v) a.1 a.2)
      (I := fun v a => a.1 = nI (8 * (N + v)) ∧ fRep a.2 (psG e.2.2.2.1 g N v) (N + v)) (F := fun r => r.2.1 = nI (8 * (N + M)) ∧ fRep r.2.2 (psG e.2.2.2.1 g N M) (N + M)) (b := M)
      (fun n' a ha => by
        refine ⟨(nI M, a.1, a.2), ?_, ha⟩
        show f_F_pass_35 _ _ _ _ (n' + 1) _ _ _ = _
        rw [f_F_pass_35, if_pos (by rw [nJ_leT (Nat.le_refl _) (by omega)]; exact trivial)])
      (fun n' a v hv ha => by
        obtain ⟨f', x1, x2⟩ := l_append8 (n := 2000) (v := e.2.2.2.1 v) ha.2 (hq3 v hv) (by omega) (by omega)
        refine ⟨(nI (8 * (N + v + 1)), f'), ?_, rfl, x2⟩
        show f_F_pass_35 _ _ _ _ (n' + 1) _ _ _ = f_F_pass_35 _ _ _ _ n' _ _ _
        rw [f_F_pass_35, if_neg (by rw [nJ_leF hv (by omega)]; exact not_false), l_B_byteOf (by omega) (by omega), Option.bind_some, q2' v hv, ha.1, x1, Option.bind_some, n1, nJ_add])
      FU 0 (nI (8 * N), IA_f) (Nat.zero_le _) (fu (by omega)) ⟨rfl, c7⟩
    have keyM := lp_inv (L := fun n' (a : Int32 × (Nat → Int32)) v => f_M_pass_26 0 (nI e.2.2.1) 2000 Xencoded_f 2000 n' (nI v) a.1 a.2)
      (I := fun v a => a.1 = nI (N + v) ∧ fRep a.2 (psG e.2.2.2.1 g N v) (N + v)) (F := fun r => r.2.1 = nI (N + M) ∧ fRep r.2.2 (psG e.2.2.2.1 g N M) (N + M)) (b := M)
      (fun n' a ha => by
        refine ⟨(nI M, a.1, a.2), ?_, ha⟩
        show f_M_pass_26 _ _ _ _ _ (n' + 1) _ _ _ = _
        rw [f_M_pass_26, b3, Option.bind_some, if_pos (by rw [nJ_leT (Nat.le_refl _) (by omega)]; exact trivial)])
      (fun n' a v hv ha => by
        refine ⟨(nI (N + v + 1), upd a.2 (N + v) (nI (e.2.2.2.1 v))), ?_, rfl, fRep_upd ha.2 (hq3 v hv)⟩
        have cl : (nI v).toNatClampNeg = v := nJ_clamp (by omega)
        have cl2 : (nI (N + v)).toNatClampNeg = N + v := nJ_clamp (by omega)
        show f_M_pass_26 _ _ _ _ _ (n' + 1) _ _ _ = f_M_pass_26 _ _ _ _ _ n' _ _ _
        rw [f_M_pass_26, b3, Option.bind_some, if_neg (by rw [nJ_leF hv (by omega)]; exact not_false), if_pos rfl, cl, if_neg (by rw [n0, nJ_ltF (by omega) (by omega), false_or]; omega), ha.1, cl2, if_neg (by rw [n0, nJ_ltF (by omega) (by omega), false_or]; omega), s2' v hv, n1, nJ_add, nJ_add])
      FU 0 (nI N, Xfed_f) (Nat.zero_le _) (fu (by omega)) ⟨rfl, m6⟩
    obtain ⟨r, x1, x2, x3⟩ := keyC
    obtain ⟨u, y1, y2, y3⟩ := keyM
    have x1 : f_F_pass_35 (nI M) (4 * (w * w)) CA_f 2000 FU 0 (nI (8 * N)) IA_f = some r := x1
    have y1 : f_M_pass_26 0 (nI e.2.2.1) 2000 Xencoded_f 2000 FU 0 (nI N) Xfed_f = some u := y1
    have b4 : f_B_bytes (nI (8 * (N + M))) = some (nI (N + M)) := by rw [l_B_bytes (by omega)]; congr 2; omega
    refine ⟨(r.2.1, r.2.2, 0, u.2.1, u.2.2, vp_updL OUT_f (0 : Int32).toNatClampNeg (nI (N + M)).toInt64), ?_, p, D, q, e, N + M, psG e.2.2.2.1 g N M, ⟨k1, k2, k3, k4, k5, k6, k7, k8, by omega⟩, ⟨c1, c2, c3, c4, q1 ▸ c5, x2, x3⟩, m1, s1 ▸ m2, m3, m4, y2, y3⟩
    unfold f_LW_6 f_M_thrown f_L_pass f_F_pass f_M_pass
    rw [b2, Option.bind_some, b1, Option.bind_some, nJ_add, if_pos (show nI (N + M) ≤ 2000 by rw [n2000, nJ_leT hN (by omega)]; exact trivial), x1, Option.bind_some, x2, b4, Option.bind_some, Option.bind_some, Sum.elim_inr, if_neg io1, Option.bind_some, b3, Option.bind_some, nJ_add, if_pos (show nI (N + M) ≤ 2000 by rw [n2000, nJ_leT hN (by omega)]; exact trivial), y1, Option.bind_some, if_pos (show (0 : Int32) ≤ 0 by decide), Option.bind_some, Option.bind_some]
    exact law_ok rfl (fun _ => by (try dsimp only); rw [updL0, y2])
  · have y1 : f_M_pass_26 1 (nI e.2.2.1) 2000 Xencoded_f 2000 FU 0 (nI N) Xfed_f = some (0, nI N, Xfed_f) := by
      rw [show FU = 1048575 + 1 from rfl, f_M_pass_26, b3, Option.bind_some]
      by_cases z : nI M ≤ 0
      · rw [if_pos z]
      · rw [if_neg z, if_neg (by decide)]
    refine ⟨(nI (8 * N), IA_f, 1, nI N, Xfed_f, OUT_f), ?_, p, D, q, e, N, g, hA0, ⟨c1, c2, c3, c4, q1 ▸ c5, rfl, c7⟩, m1, s1 ▸ m2, m3, m4, rfl, m6⟩
    have ng : ¬ nI (N + M) ≤ 2000 := by rw [n2000, nJ_leF (by omega) (by omega)]; exact not_false
    unfold f_LW_6 f_M_thrown f_L_pass f_F_pass f_M_pass
    rw [b2, Option.bind_some, b1, Option.bind_some, nJ_add, if_neg ng, Option.bind_some, Sum.elim_inl, if_pos rfl, Option.bind_some, b3, Option.bind_some, nJ_add, if_neg ng, y1, Option.bind_some, if_neg (show ¬ (1 : Int32) ≤ 0 by decide), Option.bind_some, Option.bind_some]
    exact law_ok rfl (fun h => by first | exact absurd h c1_ne | exact absurd h c2_ne)
theorem ps_7 {w d : Nat} {K_count : Int32} {KA_f : Nat → Int32} {T_domain : Int32} {T_turn : Int32} {T_contrast : Int32} {T_offset : Int32} {T_error : Int32} {I_filled : Int32} {I_taken : Int32} {IA_f : Nat → Int32} {X_code : Int32} {X_many : Int32} {X_found : Int32} {X_fedMany : Int32} {X_readAt : Int32} {X_why : Int32} {X_waiting : Int32} {Xblocks_f : Nat → Int32} {Xfed_f : Nat → Int32} {Xpile_f : Nat → Int32} {Xbest_f : Nat → Int32} {P_side : Int32} {PA_f : Nat → Int32} {N_side : Int32} {NA_f : Nat → Int32} {S_tried : Int32} {C_filled : Int32} {CA_f : Nat → Int32} {Xpicture_f : Nat → Int32} {X_encodedBits : Int32} {Xencoded_f : Nat → Int32} {X_tried : Int32} {X_decoded : Int32} {Xnews_f : Nat → Int32} (h : RX w d P_side PA_f N_side NA_f S_tried K_count KA_f C_filled CA_f I_filled IA_f Xpicture_f X_many Xblocks_f X_encodedBits Xencoded_f X_tried X_decoded Xnews_f X_fedMany Xfed_f) :
    ∃ r, f_LW_7 (nI (2 * w)) K_count (8 * (w * w)) KA_f T_domain T_turn T_contrast T_offset T_error I_filled I_taken 2000 IA_f X_code (nI (2 * w)) X_many X_found X_fedMany X_readAt X_why X_waiting 4096 Xblocks_f 2000 Xfed_f 96 Xpile_f 4 Xbest_f = some r ∧ RX w d P_side PA_f N_side NA_f S_tried r.1 r.2.1 C_filled CA_f r.2.2.2.2.2.2.2.1 IA_f Xpicture_f r.2.2.2.2.2.2.2.2.2.2.1 r.2.2.2.2.2.2.2.2.2.2.2.2.2.2.2.2.1 X_encodedBits Xencoded_f X_tried X_decoded Xnews_f r.2.2.2.2.2.2.2.2.2.2.2.2.1 Xfed_f := by
  obtain ⟨p, D, q, e, N, g, hA, ⟨c1, c2, c3, c4, c5, c6, c7⟩, m1, m2, m3, m4, m5, m6⟩ := h
  have hA0 := hA
  obtain ⟨k1, k2, k3, k4, k5, k6, k7, k8, k9⟩ := hA
  have hww := ww_le k2
  obtain ⟨r, r1, r2, r3, r4⟩ := l_F_read (w := w) (d := d) (N := N) (n := 2000) (f := IA_f) (g := g) (kn := 8 * (w * w)) (k0 := K_count) (K0 := KA_f) (a1 := T_domain) (a2 := T_turn) (a3 := T_contrast) (a4 := T_offset) (a5 := T_error) (tk0 := I_taken) k1 k2 k9 (by omega) c7 rfl
  obtain ⟨u, u1, u2, u3, u4⟩ := l_M_read (w := w) (d := d) (N := N) (n := 2000) (f := Xfed_f) (g := g) (kn := 4096) (ln := 96) (bn := 4) (my := X_many) (fo := X_found) (ra := X_readAt) (wy := X_why) (wt := X_waiting) (K := Xblocks_f) (P := Xpile_f) (bf := Xbest_f) k1 k2 k9 (by omega) m6 rfl (by omega) rfl
  rw [← c6] at r1
  rw [← m5] at u1
  have fr : ∀ (hh : r.1 = u.1), f_LW_7 (nI (2 * w)) K_count (8 * (w * w)) KA_f T_domain T_turn T_contrast T_offset T_error I_filled I_taken 2000 IA_f X_code (nI (2 * w)) X_many X_found X_fedMany X_readAt X_why X_waiting 4096 Xblocks_f 2000 Xfed_f 96 Xpile_f 4 Xbest_f = some (r.2.1, r.2.2.1, r.2.2.2.1, r.2.2.2.2.1, r.2.2.2.2.2.1, r.2.2.2.2.2.2.1, r.2.2.2.2.2.2.2.1, r.2.2.2.2.2.2.2.2.1, r.2.2.2.2.2.2.2.2.2, u.2.1, u.2.2.1, u.2.2.2.1, u.2.2.2.2.1, u.2.2.2.2.2.1, u.2.2.2.2.2.2.1, u.2.2.2.2.2.2.2.1, u.2.2.2.2.2.2.2.2.1, u.2.2.2.2.2.2.2.2.2.1, u.2.2.2.2.2.2.2.2.2.2) := by
    intro hh
    unfold f_LW_7
    rw [r1, Option.bind_some, u1, Option.bind_some, if_pos hh]
  have f0 : ∀ f : Nat → Int32, fRep f g 0 := fun f k hk => absurd hk (Nat.not_lt_zero k)
  have hall := fun q0 => rAll_ok (g := g) (N := N) (w := w) (d := d) (q := q0) k1
  unfold rAns at r2
  cases hr : rAll g N w d with
  | inl e0 =>
    rw [hr] at r2 r4 u4
    obtain ⟨v1, v2⟩ := r4
    obtain ⟨w1, w2, w3⟩ := u4
    obtain ⟨x1, x2, x3, x4, x5, x6⟩ := m2
    refine ⟨_, fr (r2.trans w1.symm), p, D, q, e, 0, g, ⟨k1, k2, k3, k4, k5, k6, k7, k8, by omega⟩, ⟨c1, c2, c3, c4, by dsimp only; rw [v1, v2]; exact c5, r3, f0 _⟩, m1, ⟨w2.trans x1, fun k hk => ?_, x3, x4, x5, x6⟩, m3, m4, u3, f0 _⟩
    dsimp only
    rw [w3 _ (by omega)]
    exact x2 k hk
  | inr q0 =>
    rw [hr] at r2 r4 u4
    obtain ⟨v1, v2⟩ := r4
    obtain ⟨w1, w2, w3⟩ := u4
    obtain ⟨y1, y2⟩ := hall q0 hr
    obtain ⟨_, _, x3, x4, x5, x6⟩ := m2
    obtain ⟨_, _, z3, z4, z5, z6⟩ := c5
    exact ⟨_, fr (r2.trans w1.symm), p, D, q, (q0.1, q0.2, e.2.2), 0, g, ⟨k1, k2, k3, k4, k5, y2, y1, k8, by omega⟩, ⟨c1, c2, c3, c4, ⟨v1, v2, z3, z4, z5, z6⟩, r3, f0 _⟩, m1, ⟨w2, w3, x3, x4, x5, x6⟩, m3, m4, u3, f0 _⟩
theorem ps_8 {w d : Nat} {N_side : Int32} {NA_f : Nat → Int32} {H_side : Int32} {HA_f : Nat → Int32} {V_left : Int32} {V_top : Int32} {V_start : Int32} {V_stepAcross : Int32} {V_stepDown : Int32} {K_count : Int32} {KA_f : Nat → Int32} {X_code : Int32} {X_many : Int32} {X_decoded : Int32} {Xblocks_f : Nat → Int32} {Xnews_f : Nat → Int32} {Xolds_f : Nat → Int32} {Xhalves_f : Nat → Int32} {OUT_f : Nat → Int64} {P_side : Int32} {PA_f : Nat → Int32} {S_tried : Int32} {C_filled : Int32} {CA_f : Nat → Int32} {I_filled : Int32} {IA_f : Nat → Int32} {Xpicture_f : Nat → Int32} {X_encodedBits : Int32} {Xencoded_f : Nat → Int32} {X_tried : Int32} {X_fedMany : Int32} {Xfed_f : Nat → Int32} (h : RX w d P_side PA_f N_side NA_f S_tried K_count KA_f C_filled CA_f I_filled IA_f Xpicture_f X_many Xblocks_f X_encodedBits Xencoded_f X_tried X_decoded Xnews_f X_fedMany Xfed_f) (a1 a2 : Int32) :
    ∃ r, f_LW_8 a1 a2 (nI (2 * w)) (nI (4 * w)) N_side (16 * (w * w)) NA_f (nI (2 * w)) H_side (4 * (w * w)) HA_f V_left V_top V_start V_stepAcross V_stepDown K_count (8 * (w * w)) KA_f X_code (nI (2 * w)) X_many X_decoded 4096 Xblocks_f 4096 Xnews_f 4096 Xolds_f 1024 Xhalves_f 1 OUT_f = some r ∧ RX w d P_side PA_f r.1 r.2.1 S_tried K_count KA_f C_filled CA_f I_filled IA_f Xpicture_f X_many Xblocks_f X_encodedBits Xencoded_f X_tried r.2.2.2.2.2.2.2.2.2.2.1 r.2.2.2.2.2.2.2.2.2.2.2.1 X_fedMany Xfed_f := by
  obtain ⟨p, D, q, e, N, g, hA, ⟨c1, c2, c3, c4, c5, c6, c7⟩, m1, m2, m3, m4, m5, m6⟩ := h
  have hA0 := hA
  have h5 := c5
  have h2 := m2
  obtain ⟨k1, k2, k3, k4, k5, k6, k7, k8, k9⟩ := hA
  have hww := ww_le k2
  obtain ⟨q1, q2, _⟩ := h5
  obtain ⟨s1, s2, _⟩ := h2
  by_cases hb : decBad a1 a2
  · have hF := l_F_decode_bad (kn := 8 * (w * w)) (nn := 16 * (w * w)) (hn := 4 * (w * w)) (K := KA_f) (f := NA_f) (HA := HA_f) (S := nI (2 * w)) (nm := nI (4 * w)) (ns := N_side) (hm := nI (2 * w)) (hs := H_side) (a1 := V_left) (a2 := V_top) (a3 := V_start) (a4 := V_stepAcross) (a5 := V_stepDown) (kc := K_count) hb
    have hM := l_M_decode_bad (kn := 4096) (nn := 4096) (on := 4096) (hn := 1024) (K := Xblocks_f) (f := Xnews_f) (ol := Xolds_f) (HA := Xhalves_f) (cd := X_code) (S := nI (2 * w)) (my := X_many) (dd := X_decoded) hb
    refine ⟨(N_side, NA_f, H_side, HA_f, V_left, V_top, V_start, V_stepAcross, V_stepDown, 1, X_decoded, Xnews_f, Xolds_f, Xhalves_f, OUT_f), ?_, p, D, q, e, N, g, hA0, ⟨c1, c2, c3, c4, c5, c6, c7⟩, m1, m2, m3, m4, m5, m6⟩
    unfold f_LW_8 f_M_thrown f_L_decode
    rw [hF, Option.bind_some, Sum.elim_inl, if_pos rfl, Option.bind_some, hM, Option.bind_some, Option.bind_some]
    exact law_ok rfl (fun h => by first | exact absurd h c1_ne | exact absurd h c2_ne)
  · obtain ⟨R, sc, R1, R2, hsc, rfl, rfl⟩ := decOk hb
    by_cases h0 : e.1 = 0
    · have hF := l_F_decode_none (kn := 8 * (w * w)) (nn := 16 * (w * w)) (hn := 4 * (w * w)) (K := KA_f) (f := NA_f) (HA := HA_f) (S := nI (2 * w)) (nm := nI (4 * w)) (ns := N_side) (hm := nI (2 * w)) (hs := H_side) (a1 := V_left) (a2 := V_top) (a3 := V_start) (a4 := V_stepAcross) (a5 := V_stepDown) R1 R2 hsc
      have hM := l_M_decode_none (kn := 4096) (nn := 4096) (on := 4096) (hn := 1024) (K := Xblocks_f) (f := Xnews_f) (ol := Xolds_f) (HA := Xhalves_f) (cd := X_code) (S := nI (2 * w)) (dd := X_decoded) R1 R2 hsc
      have q1' : K_count = nI 0 := by rw [q1, h0]
      have s1' : X_many = nI 0 := by rw [s1, h0]
      refine ⟨(N_side, NA_f, H_side, HA_f, V_left, V_top, V_start, V_stepAcross, V_stepDown, 2, X_decoded, Xnews_f, Xolds_f, Xhalves_f, OUT_f), ?_, p, D, q, e, N, g, hA0, ⟨c1, c2, c3, c4, c5, c6, c7⟩, m1, m2, m3, m4, m5, m6⟩
      unfold f_LW_8 f_M_thrown f_L_decode
      rw [q1', s1', hF, Option.bind_some, Sum.elim_inl, if_neg (by decide), if_pos rfl, Option.bind_some, hM, Option.bind_some, Option.bind_some]
      exact law_ok rfl (fun h => by first | exact absurd h c1_ne | exact absurd h c2_ne)
    · have hs2 : w * (sc + 1) * (w * (sc + 1)) ≤ 4 * (w * w) := by
        have z : sc = 0 ∨ sc = 1 := by omega
        rcases z with rfl | rfl
        · rw [Nat.zero_add, Nat.mul_one]; omega
        · rw [Nat.mul_mul_mul_comm]; omega
      have hs3 : 2 * (w * (sc + 1)) * (2 * (w * (sc + 1))) = 4 * (w * (sc + 1) * (w * (sc + 1))) := Nat.mul_mul_mul_comm _ _ _ _
      obtain ⟨r, r1, r2, r3, r4⟩ := l_F_decode_ok (w := w) (m := sc + 1) (c := e.1) (F := e.2.1) (R := R) (sc := sc) (kn := 8 * (w * w)) (nn := 16 * (w * w)) (hn := 4 * (w * w)) (K := KA_f) (f := NA_f) (HA := HA_f) (ns := N_side) (hs := H_side) (a1 := V_left) (a2 := V_top) (a3 := V_start) (a4 := V_stepAcross) (a5 := V_stepDown) k2 hsc rfl R1 R2 k7 q2 h0 (by omega) (by omega) (by omega) (by omega) (by omega) (by omega)
      obtain ⟨u, u1, u2, u3, u4, u5⟩ := l_M_decode_ok (w := w) (m := sc + 1) (c := e.1) (F := e.2.1) (R := R) (sc := sc) (kn := 4096) (nn := 4096) (on := 4096) (hn := 1024) (K := Xblocks_f) (f := Xnews_f) (ol := Xolds_f) (HA := Xhalves_f) (cd := X_code) (dd := X_decoded) k2 hsc rfl R1 R2 k7 s2 h0 (by omega) rfl (by omega) (by omega) (by omega)
      have hD : 2 * (w * (sc + 1)) = 0 ∨ 2 * (w * (sc + 1)) = 2 * w ∨ 2 * (w * (sc + 1)) = 2 * (w * 2) := by
        have z : sc = 0 ∨ sc = 1 := by omega
        rcases z with rfl | rfl
        · right; left; rw [Nat.zero_add, Nat.mul_one]
        · right; right; rfl
      refine ⟨(r.2.1, r.2.2.1, r.2.2.2.1, r.2.2.2.2.1, r.2.2.2.2.2.1, r.2.2.2.2.2.2.1, r.2.2.2.2.2.2.2.1, r.2.2.2.2.2.2.2.2.1, r.2.2.2.2.2.2.2.2.2, u.2.1, u.2.2.1, u.2.2.2.1, u.2.2.2.2.1, u.2.2.2.2.2, vp_updL OUT_f (0 : Int32).toNatClampNeg r.1.toInt64), ?_, p, 2 * (w * (sc + 1)), (dec w (sc + 1) e.2.1 e.1 R).1, e, N, g, ⟨k1, k2, k3, hD, dec_le R, k6, k7, k8, k9⟩, ⟨c1, c2, r3, r4, c5, c6, c7⟩, m1, m2, u4, u5, m5, m6⟩
      unfold f_LW_8 f_M_thrown f_L_decode
      rw [q1, s1, r1, Option.bind_some, Sum.elim_inr, if_neg io1, Option.bind_some, u1, Option.bind_some, Option.bind_some]
      exact law_ok u3 (fun _ => by (try dsimp only); rw [updL0, r2, u2])
theorem ps_9 {w d : Nat} {N_side : Int32} {NA_f : Nat → Int32} {X_code : Int32} {X_decoded : Int32} {Xnews_f : Nat → Int32} {OUT_f : Nat → Int64} {P_side : Int32} {PA_f : Nat → Int32} {S_tried : Int32} {K_count : Int32} {KA_f : Nat → Int32} {C_filled : Int32} {CA_f : Nat → Int32} {I_filled : Int32} {IA_f : Nat → Int32} {Xpicture_f : Nat → Int32} {X_many : Int32} {Xblocks_f : Nat → Int32} {X_encodedBits : Int32} {Xencoded_f : Nat → Int32} {X_tried : Int32} {X_fedMany : Int32} {Xfed_f : Nat → Int32} (h : RX w d P_side PA_f N_side NA_f S_tried K_count KA_f C_filled CA_f I_filled IA_f Xpicture_f X_many Xblocks_f X_encodedBits Xencoded_f X_tried X_decoded Xnews_f X_fedMany Xfed_f) (a1 a2 : Int32) :
    ∃ r, f_LW_9 a1 a2 N_side (16 * (w * w)) NA_f X_code X_decoded 4096 Xnews_f 1 OUT_f = some r ∧ RX w d P_side PA_f N_side NA_f S_tried K_count KA_f C_filled CA_f I_filled IA_f Xpicture_f X_many Xblocks_f X_encodedBits Xencoded_f X_tried X_decoded Xnews_f X_fedMany Xfed_f := by
  obtain ⟨p, D, q, e, N, g, hA, ⟨c1, c2, c3, c4, c5, c6, c7⟩, m1, m2, m3, m4, m5, m6⟩ := h
  have hA0 := hA
  obtain ⟨k1, k2, k3, k4, k5, k6, k7, k8, k9⟩ := hA
  have hww := ww_le k2
  have hD : D ≤ 64 := by omega
  have hsq : D * D ≤ 16 * (w * w) ∧ D * D ≤ 4096 := by
    refine ⟨?_, sq64 hD⟩
    have : D * D ≤ 4 * w * (4 * w) := Nat.mul_le_mul (by omega) (by omega)
    rw [Nat.mul_mul_mul_comm] at this
    exact this
  have goal : ∃ r, f_LW_9 a1 a2 N_side (16 * (w * w)) NA_f X_code X_decoded 4096 Xnews_f 1 OUT_f = some r := by
    rw [c3, m3]
    by_cases hp : ∃ a b : Nat, a < D ∧ b < D ∧ a1 = nI a ∧ a2 = nI b
    · obtain ⟨a, b, ha, hb, rfl, rfl⟩ := hp
      have hi : b * D + a < D * D := ix ha hb
      have i1 := l_in_T ha (show D < 2147483648 by omega)
      have i2 := l_in_T hb (show D < 2147483648 by omega)
      have ei : nI D * nI b + nI a = nI (b * D + a) := by rw [nJ_mul, nJ_add, Nat.mul_comm]
      have cl : (nI (b * D + a)).toNatClampNeg = b * D + a := nJ_clamp (by omega)
      have ii : ¬ (nI (b * D + a) < 0 ∨ 4096 ≤ b * D + a) := by rw [n0, nJ_ltF (by omega) (by omega), false_or]; omega
      unfold f_LW_9 f_M_thrown f_L_at f_F_at f_M_at
      rw [l_G_has hD ha hb, Option.bind_some, if_neg (show ¬ (1 : Int32) = 0 by decide), l_G_sample hD ha hb hsq.1, Option.bind_some, Option.bind_some, Sum.elim_inr, if_neg io1, Option.bind_some, i1, Option.bind_some, if_neg (show ¬ (1 : Int32) = 0 by decide), i2, Option.bind_some, if_neg (show ¬ (1 : Int32) = 0 by decide), if_pos (show (0 : Int32) ≤ 0 by decide), ei, cl, if_neg ii, Option.bind_some, Option.bind_some]
      exact ⟨_, law_ok rfl (fun _ => by (try dsimp only); rw [updL0, c4 _ hi, m4 _ hi])⟩
    · have hF : f_F_at a1 a2 (nI D) (16 * (w * w)) NA_f = some (.inl 1) := by
        unfold f_F_at
        rw [l_G_hasnt hD hp, Option.bind_some, if_pos rfl]
      have hM : f_M_at a1 a2 X_code (nI D) 4096 Xnews_f = some (0, 1) := by
        unfold f_M_at
        by_cases c : ∃ a : Nat, a < D ∧ a1 = nI a
        · obtain ⟨a, ha, rfl⟩ := c
          have h2 : ¬ ∃ b : Nat, b < D ∧ a2 = nI b := fun ⟨b, hb, e⟩ => hp ⟨a, b, ha, hb, rfl, e⟩
          rw [l_in_T ha (by omega), Option.bind_some, if_neg (by decide), l_in_F h2 (by omega), Option.bind_some, if_pos rfl, if_neg (by decide)]
        · rw [l_in_F c (by omega), Option.bind_some, if_pos rfl, if_neg (by decide)]
      unfold f_LW_9 f_M_thrown f_L_at
      rw [hF, Option.bind_some, Sum.elim_inl, if_pos rfl, Option.bind_some, hM, Option.bind_some, Option.bind_some]
      exact ⟨_, law_ok rfl (fun h => by first | exact absurd h c1_ne | exact absurd h c2_ne)⟩
  obtain ⟨r, hr⟩ := goal
  exact ⟨r, hr, p, D, q, e, N, g, hA0, ⟨c1, c2, c3, c4, c5, c6, c7⟩, m1, m2, m3, m4, m5, m6⟩
theorem ps_13 {w d : Nat} {S_tried : Int32} {X_code : Int32} {X_tried : Int32} {P_side : Int32} {PA_f : Nat → Int32} {N_side : Int32} {NA_f : Nat → Int32} {K_count : Int32} {KA_f : Nat → Int32} {C_filled : Int32} {CA_f : Nat → Int32} {I_filled : Int32} {IA_f : Nat → Int32} {Xpicture_f : Nat → Int32} {X_many : Int32} {Xblocks_f : Nat → Int32} {X_encodedBits : Int32} {Xencoded_f : Nat → Int32} {X_decoded : Int32} {Xnews_f : Nat → Int32} {X_fedMany : Int32} {Xfed_f : Nat → Int32} (h : RX w d P_side PA_f N_side NA_f S_tried K_count KA_f C_filled CA_f I_filled IA_f Xpicture_f X_many Xblocks_f X_encodedBits Xencoded_f X_tried X_decoded Xnews_f X_fedMany Xfed_f) :
    ∃ r, f_LW_13 S_tried X_code X_tried = some r ∧ RX w d P_side PA_f N_side NA_f S_tried K_count KA_f C_filled CA_f I_filled IA_f Xpicture_f X_many Xblocks_f X_encodedBits Xencoded_f X_tried X_decoded Xnews_f X_fedMany Xfed_f := by
  obtain ⟨p, D, q, e, N, g, hA, ⟨c1, c2, c3, c4, c5, c6, c7⟩, m1, m2, m3, m4, m5, m6⟩ := h
  have h5 := c5.2.2.2.2.2
  have h2 := m2.2.2.2.2.2
  refine ⟨0, ?_, p, D, q, e, N, g, hA, ⟨c1, c2, c3, c4, c5, c6, c7⟩, m1, m2, m3, m4, m5, m6⟩
  unfold f_LW_13 f_F_tried f_M_tried
  rw [Option.bind_some, Option.bind_some, if_pos (h5.trans h2.symm)]
theorem ps_14 {w d : Nat} {N_side : Int32} {K_count : Int32} {C_filled : Int32} {I_filled : Int32} {X_code : Int32} {X_many : Int32} {X_encodedBits : Int32} {X_fedMany : Int32} {X_decoded : Int32} {P_side : Int32} {PA_f : Nat → Int32} {NA_f : Nat → Int32} {S_tried : Int32} {KA_f : Nat → Int32} {CA_f : Nat → Int32} {IA_f : Nat → Int32} {Xpicture_f : Nat → Int32} {Xblocks_f : Nat → Int32} {Xencoded_f : Nat → Int32} {X_tried : Int32} {Xnews_f : Nat → Int32} {Xfed_f : Nat → Int32} (h : RX w d P_side PA_f N_side NA_f S_tried K_count KA_f C_filled CA_f I_filled IA_f Xpicture_f X_many Xblocks_f X_encodedBits Xencoded_f X_tried X_decoded Xnews_f X_fedMany Xfed_f) (a1 : Int32) :
    ∃ r, f_LW_14 a1 (nI (2 * w)) N_side K_count C_filled I_filled X_code (nI (2 * w)) X_many X_encodedBits X_fedMany X_decoded = some r ∧ RX w d P_side PA_f N_side NA_f S_tried K_count KA_f C_filled CA_f I_filled IA_f Xpicture_f X_many Xblocks_f X_encodedBits Xencoded_f X_tried X_decoded Xnews_f X_fedMany Xfed_f := by
  obtain ⟨p, D, q, e, N, g, hA, ⟨c1, c2, c3, c4, c5, c6, c7⟩, m1, m2, m3, m4, m5, m6⟩ := h
  have hA0 := hA
  obtain ⟨k1, k2, k3, k4, k5, k6, k7, k8, k9⟩ := hA
  have hww := ww_le k2
  have q1 := c5.1
  have q3 := c5.2.2.1
  have s1 := m2.1
  have s3 := m2.2.2.1
  refine ⟨0, ?_, p, D, q, e, N, g, hA0, ⟨c1, c2, c3, c4, c5, c6, c7⟩, m1, m2, m3, m4, m5, m6⟩
  have b1 : f_B_bytes (nI (8 * N)) = some (nI N) := by rw [l_B_bytes (by omega)]; congr 2; omega
  have b2 := l_B_bytes (m := e.2.2.1) (by omega)
  have b3 := l_M_bytes (m := e.2.2.1) (by omega)
  unfold f_LW_14 f_F_told f_M_told
  rw [c3, m3, c6, m5, q1, s1, q3, s3, b1, b2, b3]
  by_cases h0 : a1 = 0
  · rw [if_pos h0, if_pos h0, Option.bind_some, Option.bind_some, if_pos rfl]
  · rw [if_neg h0, if_neg h0]
    by_cases h1 : a1 = 1
    · rw [if_pos h1, if_pos h1, Option.bind_some, Option.bind_some, if_pos rfl]
    · rw [if_neg h1, if_neg h1]
      by_cases h2 : a1 = 2
      · rw [if_pos h2, if_pos h2, Option.bind_some, Option.bind_some, Option.bind_some, Option.bind_some, if_pos rfl]
      · rw [if_neg h2, if_neg h2]
        by_cases h3 : a1 = 3
        · rw [if_pos h3, if_pos h3, Option.bind_some, Option.bind_some, Option.bind_some, if_pos rfl]
        · rw [if_neg h3, if_neg h3]
          by_cases h4 : a1 = 4
          · rw [if_pos h4, if_pos h4, Option.bind_some, Option.bind_some, if_pos rfl]
          · rw [if_neg h4, if_neg h4, Option.bind_some, Option.bind_some, if_pos rfl]
theorem ps_15 {w d : Nat} {P_side : Int32} {PA_f : Nat → Int32} {N_side : Int32} {NA_f : Nat → Int32} {S_tried : Int32} {K_count : Int32} {C_filled : Int32} {C_taken : Int32} {I_filled : Int32} {I_taken : Int32} {X_code : Int32} {X_many : Int32} {X_encodedBits : Int32} {X_fedMany : Int32} {X_tried : Int32} {X_decoded : Int32} {Xpicture_f : Nat → Int32} {KA_f : Nat → Int32} {CA_f : Nat → Int32} {IA_f : Nat → Int32} {Xblocks_f : Nat → Int32} {Xencoded_f : Nat → Int32} {Xnews_f : Nat → Int32} {Xfed_f : Nat → Int32} (h : RX w d P_side PA_f N_side NA_f S_tried K_count KA_f C_filled CA_f I_filled IA_f Xpicture_f X_many Xblocks_f X_encodedBits Xencoded_f X_tried X_decoded Xnews_f X_fedMany Xfed_f) :
    ∃ r, f_LW_15 (nI (2 * w)) (nI (2 * w)) P_side (4 * (w * w)) PA_f (nI (4 * w)) N_side (16 * (w * w)) NA_f S_tried K_count C_filled C_taken I_filled I_taken X_code X_many X_encodedBits X_fedMany X_tried X_decoded 1024 Xpicture_f = some r ∧ RX w d r.1 r.2.1 r.2.2.1 r.2.2.2.1 r.2.2.2.2.1 r.2.2.2.2.2.1 KA_f r.2.2.2.2.2.2.1 CA_f r.2.2.2.2.2.2.2.2.1 IA_f r.2.2.2.2.2.2.2.2.2.2.2.2.2.2.2.2 r.2.2.2.2.2.2.2.2.2.2.2.1 Xblocks_f r.2.2.2.2.2.2.2.2.2.2.2.2.1 Xencoded_f r.2.2.2.2.2.2.2.2.2.2.2.2.2.2.1 r.2.2.2.2.2.2.2.2.2.2.2.2.2.2.2.1 Xnews_f r.2.2.2.2.2.2.2.2.2.2.2.2.2.1 Xfed_f := by
  obtain ⟨p, D, q, e, N, g, hA, ⟨c1, c2, c3, c4, c5, c6, c7⟩, m1, m2, m3, m4, m5, m6⟩ := h
  obtain ⟨k1, k2, k3, k4, k5, k6, k7, k8, k9⟩ := hA
  have hww := ww_le k2
  have hsq := sq_eq w
  have g1 := l_G_become (nn := 4 * (w * w)) (s := 2 * w) (q := 2 * w) (x := 0) (f := PA_f) (by omega) (by omega) (by omega)
  have g2 := l_G_become (nn := 16 * (w * w)) (s := 0) (q := 4 * w) (x := 0) (f := NA_f) (by omega) (by omega) (by omega)
  have g2 : f_G_become 0 0 (nI (4 * w)) (16 * (w * w)) NA_f = _ := g2
  have key := lp_up (L := fun n' (a : Nat → Int32) v => f_M_clear_7 1024 n' (nI v) a) (st := fun v => wr Xpicture_f (fun _ => 0) v) (b := 1024) (fin := (nI 1024, wr Xpicture_f (fun _ => 0) 1024))
    (fun n' => by
      show f_M_clear_7 _ (n' + 1) _ _ = _
      rw [f_M_clear_7, if_pos (by decide)])
    (fun n' v hv => by
      show f_M_clear_7 _ (n' + 1) _ _ = f_M_clear_7 _ n' _ _
      have hw1 := wrS Xpicture_f (fun _ => (0 : Int32)) v
      rw [f_M_clear_7, if_neg (by rw [n1024, nJ_leF hv (by omega)]; exact not_false), nJ_clamp (by omega), if_neg (by rw [n0, nJ_ltF (by omega) (by omega), false_or]; omega), n1, nJ_add, hw1])
    FU 0 (Nat.zero_le _) (fu (by omega))
  rw [wr0] at key
  have key : f_M_clear_7 1024 FU 0 Xpicture_f = _ := key
  refine ⟨(nI (2 * w), wr PA_f (fun _ => 0) (4 * (w * w)), nI 0, wr NA_f (fun _ => 0) (16 * (w * w)), 0, 0, 0, 0, 0, 0, 0, 0, 0, 0, 0, 0, wr Xpicture_f (fun _ => 0) 1024), ?_, fun _ => 0, 0, fun _ => 0, (0, fun _ => 0, 0, fun _ => 0, 0), 0, fun _ => 0, ⟨k1, k2, fun _ _ => Nat.zero_le _, Or.inl rfl, fun _ => Nat.zero_le _, Nat.zero_le _, ⟨fun i hi => absurd hi (Nat.not_lt_zero i), fun i j _ hj => absurd hj (Nat.not_lt_zero j)⟩, Nat.zero_le _, Nat.zero_le _⟩,
    ⟨rfl, fun k hk => ?_, rfl, fun j hj => absurd hj (Nat.not_lt_zero j), ⟨rfl, fun k hk => absurd hk (Nat.not_lt_zero k), rfl, bRep0 _ _, bGood0 _, rfl⟩, rfl, fun k hk => absurd hk (Nat.not_lt_zero k)⟩, fun k hk => ?_, ⟨rfl, fun k hk => absurd hk (Nat.not_lt_zero k), rfl, bRep0 _ _, bGood0 _, rfl⟩, rfl, fun j hj => absurd hj (Nat.not_lt_zero j), rfl, fun k hk => absurd hk (Nat.not_lt_zero k)⟩
  · unfold f_LW_15 f_F_clear f_M_clear f_K_wipe f_B_wipe
    rw [g1, Option.bind_some, g2, Option.bind_some, key]
    rfl
  · dsimp only; rw [wr_lt (by omega)]; rfl
  · dsimp only; rw [wr_lt (by omega)]; rfl
end
section
/-! what was missed -/
def msq (p q : Nat → Nat) (k : Nat) : Int := ((p k : Int) - (q k : Int)) * ((p k : Int) - (q k : Int))
theorem dif_long {a b : Nat} (ha : a ≤ 255) (hb : b ≤ 255) : (nI a - nI b).toInt64 = lI ((a : Int) - (b : Int)) := by
  rw [nJ_iI, nJ_iI, iI_sub, iI_long (by omega) (by omega)]
section
variable {s n nn : Nat} {f f2 : Nat → Int32} {p q : Nat → Nat}
theorem l_F_missed_39 {y : Nat} (hs : s ≤ 64) (hn : s * s ≤ n) (hnn : s * s ≤ nn) (hf : ∀ k, k < s * s → f k = nI (p k)) (hp : ∀ k, k < s * s → p k ≤ 255) (hf2 : ∀ k, k < s * s → f2 k = nI (q k)) (hq : ∀ k, q k ≤ 255) (hy : y < s) :
    f_F_missed_39 (nI y) (nI s) (nI s) n f (nI s) nn f2 FU (lI (sI (msq p q) (y * s))) 0 = some (lI (sI (msq p q) ((y + 1) * s)), nI s) := by
  have key := lp_up (L := fun n' (a : Int) v => f_F_missed_39 (nI y) (nI s) (nI s) n f (nI s) nn f2 n' (lI a) (nI v)) (st := fun x => sI (msq p q) (y * s + x)) (b := s) (fin := (lI (sI (msq p q) (y * s + s)), nI s))
    (fun n' => by
      show f_F_missed_39 _ _ _ _ _ _ _ _ (n' + 1) _ _ = _
      rw [f_F_missed_39, if_pos (by rw [nJ_leT (Nat.le_refl _) (by omega)]; exact trivial)])
    (fun n' x hx => by
      show f_F_missed_39 _ _ _ _ _ _ _ _ (n' + 1) _ _ = f_F_missed_39 _ _ _ _ _ _ _ _ n' _ _
      have hi : y * s + x < s * s := ix hx hy
      rw [f_F_missed_39, if_neg (by rw [nJ_leF hx (by omega)]; exact not_false), l_G_sample hs hx hy hn, Option.bind_some, l_G_sample hs hx hy hnn, Option.bind_some, hf _ hi, hf2 _ hi, dif_long (hp _ hi) (hq _), lI_mul, lI_add, n1, nJ_add]
      rw [show y * s + (x + 1) = y * s + x + 1 by omega, sI]
      rfl)
    FU 0 (Nat.zero_le _) (fu (by omega))
  have e : (y + 1) * s = y * s + s := by rw [Nat.add_mul, Nat.one_mul]
  rw [e]
  exact key
theorem l_F_missed (hs : s ≤ 64) (hn : s * s ≤ n) (hnn : s * s ≤ nn) (hf : ∀ k, k < s * s → f k = nI (p k)) (hp : ∀ k, k < s * s → p k ≤ 255) (hf2 : ∀ k, k < s * s → f2 k = nI (q k)) (hq : ∀ k, q k ≤ 255) :
    f_F_missed (nI s) (nI s) n f (nI s) nn f2 = some (.inr (lI (sI (msq p q) (s * s)))) := by
  have key := lp_up (L := fun n' (a : Int) v => f_F_missed_28 (nI s) (nI s) n f (nI s) nn f2 n' (lI a) (nI v)) (st := fun y => sI (msq p q) (y * s)) (b := s) (fin := (lI (sI (msq p q) (s * s)), nI s))
    (fun n' => by
      show f_F_missed_28 _ _ _ _ _ _ _ (n' + 1) _ _ = _
      rw [f_F_missed_28, if_pos (by rw [nJ_leT (Nat.le_refl _) (by omega)]; exact trivial)])
    (fun n' y hy => by
      show f_F_missed_28 _ _ _ _ _ _ _ (n' + 1) _ _ = f_F_missed_28 _ _ _ _ _ _ _ n' _ _
      rw [f_F_missed_28, if_neg (by rw [nJ_leF hy (by omega)]; exact not_false), l_F_missed_39 hs hn hnn hf hp hf2 hq hy, Option.bind_some, n1, nJ_add])
    FU 0 (Nat.zero_le _) (fu (by omega))
  rw [Nat.zero_mul] at key
  have key : f_F_missed_28 (nI s) (nI s) n f (nI s) nn f2 FU 0 0 = _ := key
  unfold f_F_missed
  rw [if_pos rfl, key]
  rfl
theorem l_M_missed {cd : Int32} (hs : s ≤ 64) (hn : s * s ≤ n) (hnn : s * s ≤ nn) (hf : ∀ k, k < s * s → f k = nI (p k)) (hp : ∀ k, k < s * s → p k ≤ 255) (hf2 : ∀ k, k < s * s → f2 k = nI (q k)) (hq : ∀ k, q k ≤ 255) :
    f_M_missed cd (nI s) (nI s) n f nn f2 = some (lI (sI (msq p q) (s * s)), 0) := by
  have hs2 := sq64 hs
  have key := lp_up (L := fun n' (a : Int) v => f_M_missed_24 0 (nI s) n f nn f2 n' (lI a) (nI v)) (st := fun y => sI (msq p q) y) (b := s * s) (fin := (lI (sI (msq p q) (s * s)), nI (s * s)))
    (fun n' => by
      show f_M_missed_24 _ _ _ _ _ _ (n' + 1) _ _ = _
      rw [f_M_missed_24, nJ_mul, if_pos (by rw [nJ_leT (Nat.le_refl _) (by omega)]; exact trivial)])
    (fun n' i hi => by
      show f_M_missed_24 _ _ _ _ _ _ (n' + 1) _ _ = f_M_missed_24 _ _ _ _ _ _ n' _ _
      have cl : (nI i).toNatClampNeg = i := nJ_clamp (by omega)
      rw [f_M_missed_24, nJ_mul, if_neg (by rw [nJ_leF hi (by omega)]; exact not_false), if_pos rfl, cl, if_neg (by rw [n0, nJ_ltF (by omega) (by omega), false_or]; omega), if_neg (by rw [n0, nJ_ltF (by omega) (by omega), false_or]; omega), hf _ hi, hf2 _ hi, dif_long (hp _ hi) (hq _), lI_mul, lI_add, n1, nJ_add, sI]
      rfl)
    FU 0 (Nat.zero_le _) (fu (by omega))
  have key : f_M_missed_24 0 (nI s) n f nn f2 FU 0 0 = _ := key
  unfold f_M_missed
  rw [if_pos rfl, key]
  rfl
end
theorem ps_10 {w d : Nat} {P_side : Int32} {PA_f : Nat → Int32} {N_side : Int32} {NA_f : Nat → Int32} {X_code : Int32} {X_decoded : Int32} {Xpicture_f : Nat → Int32} {Xnews_f : Nat → Int32} {OUT_f : Nat → Int64} {S_tried : Int32} {K_count : Int32} {KA_f : Nat → Int32} {C_filled : Int32} {CA_f : Nat → Int32} {I_filled : Int32} {IA_f : Nat → Int32} {X_many : Int32} {Xblocks_f : Nat → Int32} {X_encodedBits : Int32} {Xencoded_f : Nat → Int32} {X_tried : Int32} {X_fedMany : Int32} {Xfed_f : Nat → Int32} (h : RX w d P_side PA_f N_side NA_f S_tried K_count KA_f C_filled CA_f I_filled IA_f Xpicture_f X_many Xblocks_f X_encodedBits Xencoded_f X_tried X_decoded Xnews_f X_fedMany Xfed_f) :
    ∃ r, f_LW_10 (nI (2 * w)) P_side (4 * (w * w)) PA_f N_side (16 * (w * w)) NA_f X_code (nI (2 * w)) X_decoded 1024 Xpicture_f 4096 Xnews_f 1 OUT_f = some r ∧ RX w d P_side PA_f N_side NA_f S_tried K_count KA_f C_filled CA_f I_filled IA_f Xpicture_f X_many Xblocks_f X_encodedBits Xencoded_f X_tried X_decoded Xnews_f X_fedMany Xfed_f := by
  obtain ⟨p, D, q, e, N, g, hA, ⟨c1, c2, c3, c4, c5, c6, c7⟩, m1, m2, m3, m4, m5, m6⟩ := h
  have hA0 := hA
  obtain ⟨k1, k2, k3, k4, k5, k6, k7, k8, k9⟩ := hA
  have hww := ww_le k2
  have hsq := sq_eq w
  have t1 := two_pos' d
  have goal : ∃ r, f_LW_10 (nI (2 * w)) P_side (4 * (w * w)) PA_f N_side (16 * (w * w)) NA_f X_code (nI (2 * w)) X_decoded 1024 Xpicture_f 4096 Xnews_f 1 OUT_f = some r := by
    rw [c1, c3, m3]
    by_cases hD : D = 2 * w
    · subst hD
      have hF := l_F_missed (s := 2 * w) (n := 4 * (w * w)) (nn := 16 * (w * w)) (f := PA_f) (f2 := NA_f) (by omega) (by omega) (by omega) c2 k3 c4 k5
      have hM := l_M_missed (s := 2 * w) (n := 1024) (nn := 4096) (f := Xpicture_f) (f2 := Xnews_f) (cd := X_code) (by omega) (by omega) (by omega) m1 k3 m4 k5
      unfold f_LW_10 f_M_thrown f_L_missed
      rw [hF, Option.bind_some, Sum.elim_inr, if_neg io1, Option.bind_some, hM, Option.bind_some, Option.bind_some]
      exact ⟨_, law_ok rfl (fun _ => by (try dsimp only); rw [updL0])⟩
    · have hF : f_F_missed (nI (2 * w)) (nI (2 * w)) (4 * (w * w)) PA_f (nI D) (16 * (w * w)) NA_f = some (.inl 3) := by
        unfold f_F_missed
        rw [if_neg (by rw [nJ_eqF hD (by omega) (by omega)]; exact not_false)]
      have hM : ∃ v, f_M_missed X_code (nI (2 * w)) (nI D) 1024 Xpicture_f 4096 Xnews_f = some (v, 1) := by
        unfold f_M_missed
        rw [if_neg (by rw [nJ_eqF hD (by omega) (by omega)]; exact not_false), show FU = 1048575 + 1 from rfl, f_M_missed_24]
        by_cases z : nI (2 * w) * nI (2 * w) ≤ 0
        · rw [if_pos z]; exact ⟨_, rfl⟩
        · rw [if_neg z, if_neg (by decide)]; exact ⟨_, rfl⟩
      obtain ⟨v, hM⟩ := hM
      unfold f_LW_10 f_M_thrown f_L_missed
      rw [hF, Option.bind_some, Sum.elim_inl, if_pos rfl, Option.bind_some, hM, Option.bind_some, Option.bind_some]
      exact ⟨_, law_ok rfl (fun h => by first | exact absurd h c1_ne | exact absurd h c2_ne)⟩
  obtain ⟨r, hr⟩ := goal
  exact ⟨r, hr, p, D, q, e, N, g, hA0, ⟨c1, c2, c3, c4, c5, c6, c7⟩, m1, m2, m3, m4, m5, m6⟩
theorem nat_below {x : Int32} {m : Nat} (h : ¬ ∃ a : Nat, a < m ∧ x = nI a) (hm : m < 2147483648) : x < 0 ∨ (¬ x < 0 ∧ ¬ x < nI m ∧ nI m ≤ x) := by
  rcases nJ_case x with z | ⟨n, hn, rfl⟩
  · exact Or.inl z
  · have : ¬ n < m := fun z => h ⟨n, z, rfl⟩
    right
    refine ⟨?_, ?_, ?_⟩
    · rw [n0, nJ_ltF (by omega) (by omega)]; exact not_false
    · rw [nJ_ltF (by omega) hn]; exact not_false
    · rw [nJ_leT (by omega) hn]; exact trivial
theorem ps_12 {w d : Nat} {P_side : Int32} {PA_f : Nat → Int32} {X_code : Int32} {Xpicture_f : Nat → Int32} {Xrs_f : Nat → Int32} {OUT_f : Nat → Int64} {N_side : Int32} {NA_f : Nat → Int32} {S_tried : Int32} {K_count : Int32} {KA_f : Nat → Int32} {C_filled : Int32} {CA_f : Nat → Int32} {I_filled : Int32} {IA_f : Nat → Int32} {X_many : Int32} {Xblocks_f : Nat → Int32} {X_encodedBits : Int32} {Xencoded_f : Nat → Int32} {X_tried : Int32} {X_decoded : Int32} {Xnews_f : Nat → Int32} {X_fedMany : Int32} {Xfed_f : Nat → Int32} (h : RX w d P_side PA_f N_side NA_f S_tried K_count KA_f C_filled CA_f I_filled IA_f Xpicture_f X_many Xblocks_f X_encodedBits Xencoded_f X_tried X_decoded Xnews_f X_fedMany Xfed_f) (a1 a2 a3 : Int32) :
    ∃ r, f_LW_12 a1 a2 a3 (nI (2 * w)) P_side (4 * (w * w)) PA_f X_code (nI (2 * w)) 1024 Xpicture_f 256 Xrs_f 1 OUT_f = some r ∧ RX w d P_side PA_f N_side NA_f S_tried K_count KA_f C_filled CA_f I_filled IA_f Xpicture_f X_many Xblocks_f X_encodedBits Xencoded_f X_tried X_decoded Xnews_f X_fedMany Xfed_f := by
  obtain ⟨p, D, q, e, N, g, hA, ⟨c1, c2, c3, c4, c5, c6, c7⟩, m1, m2, m3, m4, m5, m6⟩ := h
  have hA0 := hA
  obtain ⟨k1, k2, k3, k4, k5, k6, k7, k8, k9⟩ := hA
  have hww := ww_le k2
  have hsq := sq_eq w
  have fin : ∀ (c : Int32) (v : Int32) (o : Nat → Int64) (rs : Nat → Int32), f_L_kind a1 a2 a3 (nI (2 * w)) P_side (4 * (w * w)) PA_f 1 OUT_f = some (c, o) → f_M_kind a1 a2 a3 X_code (nI (2 * w)) 1024 Xpicture_f 256 Xrs_f = some (v, c, rs) → (c = 0 → o (0 : Int32).toNatClampNeg = v.toInt64) → ∃ r, f_LW_12 a1 a2 a3 (nI (2 * w)) P_side (4 * (w * w)) PA_f X_code (nI (2 * w)) 1024 Xpicture_f 256 Xrs_f 1 OUT_f = some r := by
    intro c v o rs h1 h2 h3
    refine ⟨(c, rs, o), ?_⟩
    unfold f_LW_12 f_M_thrown
    rw [h1, Option.bind_some, h2, Option.bind_some, Option.bind_some]
    exact law_ok rfl h3
  have goal : ∃ r, f_LW_12 a1 a2 a3 (nI (2 * w)) P_side (4 * (w * w)) PA_f X_code (nI (2 * w)) 1024 Xpicture_f 256 Xrs_f 1 OUT_f = some r := by
    rw [c1] at fin ⊢
    rcases isSize_cases a3 with ⟨h1, h2, _⟩ | ⟨j, j1, j4, rfl, h1, h2⟩
    · refine fin 1 0 OUT_f Xrs_f ?_ ?_ (fun h => absurd h (by decide))
      · have hF : f_F_kind a1 a2 a3 (nI (2 * w)) (nI (2 * w)) (4 * (w * w)) PA_f = some (.inl 2) := by
          unfold f_F_kind
          rw [h1, Option.bind_some, if_pos rfl]
        unfold f_L_kind
        rw [hF]; rfl
      · unfold f_M_kind
        rw [h2, Option.bind_some, if_pos rfl, if_neg (by decide)]
    · have hs4 := size_le j4
      have hs2 := size_ge j1
      obtain ⟨h, hh⟩ : ∃ h, 2 ^ j = 2 * h := ⟨2 ^ (j - 1), by rw [← two_succ]; congr 1; omega⟩
      have bad : (f_F_kind a1 a2 (nI (2 ^ j)) (nI (2 * w)) (nI (2 * w)) (4 * (w * w)) PA_f = some (.inl 1)) → f_M_kind a1 a2 (nI (2 ^ j)) X_code (nI (2 * w)) 1024 Xpicture_f 256 Xrs_f = some (0, 2, Xrs_f) → ∃ r, f_LW_12 a1 a2 (nI (2 ^ j)) (nI (2 * w)) (nI (2 * w)) (4 * (w * w)) PA_f X_code (nI (2 * w)) 1024 Xpicture_f 256 Xrs_f 1 OUT_f = some r := by
        intro hF hM
        refine fin 2 0 OUT_f Xrs_f ?_ hM (fun h => absurd h (by decide))
        unfold f_L_kind
        rw [hF]; rfl
      by_cases hjw : 2 ^ j ≤ 2 * w
      · have ed : nI (2 * w) - nI (2 ^ j) = nI (2 * w - 2 ^ j) := nJ_sub hjw
        have em : nI (2 * w - 2 ^ j) = nI (2 * w - 2 ^ j + 1) - 1 := by rw [n1, nJ_sub (by omega)]; rfl
        by_cases hx : ∃ a : Nat, a < 2 * w - 2 ^ j + 1 ∧ a1 = nI a
        · obtain ⟨x, hx, rfl⟩ := hx
          have i1 := l_in_T hx (show 2 * w - 2 ^ j + 1 < 2147483648 by omega)
          rw [← em] at i1
          have x0 : ¬ nI x < 0 := by rw [n0, nJ_ltF (by omega) (by omega)]; exact not_false
          have x1 : ¬ nI (2 * w - 2 ^ j) < nI x := by rw [nJ_ltF (by omega) (by omega)]; exact not_false
          by_cases hy : ∃ a : Nat, a < 2 * w - 2 ^ j + 1 ∧ a2 = nI a
          · obtain ⟨y, hy, rfl⟩ := hy
            have i2 := l_in_T hy (show 2 * w - 2 ^ j + 1 < 2147483648 by omega)
            rw [← em] at i2
            have y0 : ¬ nI y < 0 := by rw [n0, nJ_ltF (by omega) (by omega)]; exact not_false
            have y1 : nI y ≤ nI (2 * w - 2 ^ j) := by rw [nJ_leT (by omega) (by omega)]; exact trivial
            have br := l_G_brightest (s := 2 * w) (x := x) (y := y) (h := h) (n := 4 * (w * w)) (f := PA_f) (p := p) (by omega) (by omega) (by omega) (by omega) c2 k3
            obtain ⟨g', l1, l2, _⟩ := l_kind (s := 2 * w) (x := x) (y := y) (h := h) (n := 1024) (m := 256) (f := Xpicture_f) (fm := Xpicture_f) (g := Xrs_f) (p := p) (by omega) (by omega) (by omega) (by omega) (by omega) m1 k3 (by omega)
            rw [← hh] at br l1 l2
            refine fin 0 (nI (am (qS p (2 * w) x y h))) (vp_updL OUT_f (0 : Int32).toNatClampNeg (nI (am (qS p (2 * w) x y h))).toInt64) g' ?_ ?_ (fun _ => updL0)
            · have hF : f_F_kind (nI x) (nI y) (nI (2 ^ j)) (nI (2 * w)) (nI (2 * w)) (4 * (w * w)) PA_f = some (.inr (nI (am (qS p (2 * w) x y h)))) := by
                unfold f_F_kind
                rw [h1, Option.bind_some, if_neg (by decide), if_neg x0, ed, if_neg x1, if_neg y0, if_pos y1, br]
                rfl
              unfold f_L_kind
              rw [hF, Option.bind_some, Sum.elim_inr, if_neg io1]
            · unfold f_M_kind
              rw [h2, Option.bind_some, if_neg (by decide), ed, i1, Option.bind_some, if_neg (by decide), i2, Option.bind_some, if_neg (by decide), if_pos (by decide), l1, Option.bind_some, l2]
              rfl
          · have i2 := l_in_F hy (show 2 * w - 2 ^ j + 1 < 2147483648 by omega)
            rw [← em] at i2
            apply bad
            · unfold f_F_kind
              rw [h1, Option.bind_some, if_neg (by decide), if_neg x0, ed, if_neg x1]
              rcases nJ_case a2 with z | ⟨n, hn, rfl⟩
              · rw [if_pos z]
              · have : ¬ n < 2 * w - 2 ^ j + 1 := fun z => hy ⟨n, z, rfl⟩
                rw [if_neg (by rw [n0, nJ_ltF (by omega) (by omega)]; exact not_false), if_neg (by rw [nJ_leF (by omega) hn]; exact not_false)]
            · unfold f_M_kind
              rw [h2, Option.bind_some, if_neg (by decide), ed, i1, Option.bind_some, if_neg (by decide), i2, Option.bind_some, if_pos rfl, if_neg (by decide)]
        · have i1 := l_in_F hx (show 2 * w - 2 ^ j + 1 < 2147483648 by omega)
          rw [← em] at i1
          apply bad
          · unfold f_F_kind
            rw [h1, Option.bind_some, if_neg (by decide), ed]
            rcases nJ_case a1 with z | ⟨n, hn, rfl⟩
            · rw [if_pos z]
            · have : ¬ n < 2 * w - 2 ^ j + 1 := fun z => hx ⟨n, z, rfl⟩
              rw [if_neg (by rw [n0, nJ_ltF (by omega) (by omega)]; exact not_false), if_pos (by rw [nJ_ltT (by omega) hn]; exact trivial)]
          · unfold f_M_kind
            rw [h2, Option.bind_some, if_neg (by decide), ed, i1, Option.bind_some, if_pos rfl, if_neg (by decide)]
      · have ed : nI (2 * w) - nI (2 ^ j) = iI ((2 * w : Nat) - (2 ^ j : Nat) : Int) := by rw [nJ_iI, nJ_iI, iI_sub]
        have hneg : ((2 * w : Nat) : Int) - ((2 ^ j : Nat) : Int) < 0 := by omega
        have hlo : -16 ≤ ((2 * w : Nat) : Int) - ((2 ^ j : Nat) : Int) := by omega
        have tz : (iI (((2 * w : Nat) : Int) - ((2 ^ j : Nat) : Int))).toInt64 = lI (((2 * w : Nat) : Int) - ((2 ^ j : Nat) : Int)) := iI_long (by omega) (by omega)
        have i1 := l_in (x := a1) (a := 0) (b := ((2 * w : Nat) : Int) - ((2 ^ j : Nat) : Int)) (by omega) (by omega) (by omega) (by omega)
        rw [if_neg (by omega)] at i1
        have i1 : f_M_in a1.toInt64 0 (lI (((2 * w : Nat) : Int) - ((2 ^ j : Nat) : Int))) = some 0 := i1
        apply bad
        · unfold f_F_kind
          rw [h1, Option.bind_some, if_neg (by decide)]
          rcases nJ_case a1 with z | ⟨n, hn, rfl⟩
          · rw [if_pos z]
          · rw [if_neg (by rw [n0, nJ_ltF (by omega) (by omega)]; exact not_false), ed, nJ_iI n, if_pos (by rw [iI_ltT (by omega) (by omega) (by omega)]; exact trivial)]
        · unfold f_M_kind
          rw [h2, Option.bind_some, if_neg (by decide), ed, tz, i1, Option.bind_some, if_pos rfl, if_neg (by decide)]
  obtain ⟨r, hr⟩ := goal
  exact ⟨r, hr, p, D, q, e, N, g, hA0, ⟨c1, c2, c3, c4, c5, c6, c7⟩, m1, m2, m3, m4, m5, m6⟩
theorem ps_11 {w d : Nat} {P_side : Int32} {PA_f : Nat → Int32} {H_side : Int32} {HA_f : Nat → Int32} {V_left : Int32} {V_top : Int32} {V_start : Int32} {V_stepAcross : Int32} {V_stepDown : Int32} {X_code : Int32} {Xpicture_f : Nat → Int32} {Xhalf_f : Nat → Int32} {Xds_f : Nat → Int32} {OUT_f : Nat → Int64} {N_side : Int32} {NA_f : Nat → Int32} {S_tried : Int32} {K_count : Int32} {KA_f : Nat → Int32} {C_filled : Int32} {CA_f : Nat → Int32} {I_filled : Int32} {IA_f : Nat → Int32} {X_many : Int32} {Xblocks_f : Nat → Int32} {X_encodedBits : Int32} {Xencoded_f : Nat → Int32} {X_tried : Int32} {X_decoded : Int32} {Xnews_f : Nat → Int32} {X_fedMany : Int32} {Xfed_f : Nat → Int32} (h : RX w d P_side PA_f N_side NA_f S_tried K_count KA_f C_filled CA_f I_filled IA_f Xpicture_f X_many Xblocks_f X_encodedBits Xencoded_f X_tried X_decoded Xnews_f X_fedMany Xfed_f) (a1 a2 a3 a4 a5 : Int32) :
    ∃ r, f_LW_11 a1 a2 a3 a4 a5 (nI (2 * w)) P_side (4 * (w * w)) PA_f (nI (2 * w)) H_side (4 * (w * w)) HA_f V_left V_top V_start V_stepAcross V_stepDown X_code (nI (2 * w)) 1024 Xpicture_f 256 Xhalf_f 256 Xds_f 1 OUT_f = some r ∧ RX w d P_side PA_f N_side NA_f S_tried K_count KA_f C_filled CA_f I_filled IA_f Xpicture_f X_many Xblocks_f X_encodedBits Xencoded_f X_tried X_decoded Xnews_f X_fedMany Xfed_f := by
  obtain ⟨p, D, q, e, N, g, hA, ⟨c1, c2, c3, c4, c5, c6, c7⟩, m1, m2, m3, m4, m5, m6⟩ := h
  have hA0 := hA
  obtain ⟨k1, k2, k3, k4, k5, k6, k7, k8, k9⟩ := hA
  have hww := ww_le k2
  have hsq := sq_eq w
  have hv : nI (2 * w) / 2 = nI w := by rw [n2, nJ_div (by omega) (by omega)]; congr 1; omega
  have goal : ∃ r, f_LW_11 a1 a2 a3 a4 a5 (nI (2 * w)) P_side (4 * (w * w)) PA_f (nI (2 * w)) H_side (4 * (w * w)) HA_f V_left V_top V_start V_stepAcross V_stepDown X_code (nI (2 * w)) 1024 Xpicture_f 256 Xhalf_f 256 Xds_f 1 OUT_f = some r := by
    rw [c1]
    have finB : ∀ (kx : Nat) (c : Int32), (kx = 2 ∧ c = 1 ∨ kx = 1 ∧ c = 2) → f_F_domain a1 a2 a3 a4 a5 (nI (2 * w)) (nI (2 * w)) (4 * (w * w)) PA_f (nI (2 * w)) H_side (4 * (w * w)) HA_f V_left V_top V_start V_stepAcross V_stepDown = some (.inl kx) → f_M_domain a1 a2 a3 a4 a5 X_code (nI (2 * w)) 1024 Xpicture_f 256 Xhalf_f 256 Xds_f = some (0, c, Xhalf_f, Xds_f) → ∃ r, f_LW_11 a1 a2 a3 a4 a5 (nI (2 * w)) (nI (2 * w)) (4 * (w * w)) PA_f (nI (2 * w)) H_side (4 * (w * w)) HA_f V_left V_top V_start V_stepAcross V_stepDown X_code (nI (2 * w)) 1024 Xpicture_f 256 Xhalf_f 256 Xds_f 1 OUT_f = some r := by
      intro kx c hk hF hM
      unfold f_LW_11 f_M_thrown f_L_domain
      rcases hk with ⟨rfl, rfl⟩ | ⟨rfl, rfl⟩
      · rw [hF, Option.bind_some, Sum.elim_inl, if_neg (by decide), if_pos rfl, Option.bind_some, hM, Option.bind_some, Option.bind_some]
        exact ⟨_, law_ok rfl (fun h => by first | exact absurd h c1_ne | exact absurd h c2_ne)⟩
      · rw [hF, Option.bind_some, Sum.elim_inl, if_pos rfl, Option.bind_some, hM, Option.bind_some, Option.bind_some]
        exact ⟨_, law_ok rfl (fun h => by first | exact absurd h c1_ne | exact absurd h c2_ne)⟩
    have J1 : ∀ b1 b2 b3 b4 b5 : Int32, f_M_domain_J35 b1 b2 b3 b4 b5 X_code (nI (2 * w)) 1024 Xpicture_f 256 Xhalf_f 256 Xds_f 1 = some (0, 1, Xhalf_f, Xds_f) := fun b1 b2 b3 b4 b5 => by
      unfold f_M_domain_J35 f_M_domain_J109
      rw [if_neg (by decide), if_neg (by decide)]
    have J2 : ∀ b1 b2 b3 b4 b5 b6 b7 : Int32, f_M_domain_J106 b1 b2 b3 b4 b5 b6 b7 (nI (2 * w)) 1024 Xpicture_f 256 Xhalf_f 256 Xds_f 2 = some (0, 2, Xhalf_f, Xds_f) := fun b1 b2 b3 b4 b5 b6 b7 => by
      unfold f_M_domain_J106
      rw [if_neg (by decide)]
    rcases isSize_cases a1 with ⟨h1, h2, _⟩ | ⟨j, j1, j4, rfl, h1, h2⟩
    · refine finB 2 1 (Or.inl ⟨rfl, rfl⟩) ?_ ?_
      · unfold f_F_domain
        rw [h1, Option.bind_some, if_pos rfl]
      · unfold f_M_domain
        rw [h2, Option.bind_some, if_pos rfl]
        exact J1 _ _ _ _ _
    · have hs4 := size_le j4
      have hs2 := size_ge j1
      obtain ⟨h, hh⟩ : ∃ h, 2 ^ j = 2 * h := ⟨2 ^ (j - 1), by rw [← two_succ]; congr 1; omega⟩
      by_cases hjw : 2 ^ j ≤ w
      · have g1 : nI (2 ^ j) ≤ nI w := by rw [nJ_leT hjw (by omega)]; exact trivial
        have g2 : ¬ nI (2 * w) < 2 * nI (2 ^ j) := by rw [n2, nJ_mul, nJ_ltF (by omega) (by omega)]; exact not_false
        by_cases ht : ∃ t : Nat, t < 8 ∧ a3 = nI t
        · obtain ⟨t, ht, rfl⟩ := ht
          have i3 : f_M_in (nI t).toInt64 0 7 = some 1 := by rw [L7]; exact l_in_T ht (by omega)
          have t0 : ¬ nI t < 0 := by rw [n0, nJ_ltF (by omega) (by omega)]; exact not_false
          have t8 : nI t < 8 := by rw [n8, nJ_ltT ht (by omega)]; exact trivial
          have hdF := l_F_domains (w := w) (h := h) (by omega) (by omega) (by omega)
          have hdM := l_M_domains (w := w) (h := h) (by omega) (by omega) (by omega)
          have hdl := dac_le (h := h) k2
          rw [← hh] at hdF hdM
          have J0 : f_M_domain_J35 (nI (2 ^ j)) a2 (nI t) a4 a5 X_code (nI (2 * w)) 1024 Xpicture_f 256 Xhalf_f 256 Xds_f 0 = (f_M_in a2.toInt64 0 ((nI (dac w h * dac w h)) - 1).toInt64).bind (fun q862 => if q862 = 0 then (f_M_domain_J106 (nI (2 ^ j)) a2 (nI t) a4 a5 (nI (dac w h * dac w h)) 0 (nI (2 * w)) 1024 Xpicture_f 256 Xhalf_f 256 Xds_f (2 : Int32)) else ((f_M_in a4.toInt64 (0 : Int64) ((nI (2 ^ j) - (1 : Int32)).toInt64)).bind (fun q866 => if q866 = 0 then (f_M_domain_J106 (nI (2 ^ j)) a2 (nI t) a4 a5 (nI (dac w h * dac w h)) 0 (nI (2 * w)) 1024 Xpicture_f 256 Xhalf_f 256 Xds_f (2 : Int32)) else ((f_M_in a5.toInt64 (0 : Int64) ((nI (2 ^ j) - (1 : Int32)).toInt64)).bind (fun q868 => if q868 = 0 then (f_M_domain_J106 (nI (2 ^ j)) a2 (nI t) a4 a5 (nI (dac w h * dac w h)) 0 (nI (2 * w)) 1024 Xpicture_f 256 Xhalf_f 256 Xds_f (2 : Int32)) else (f_M_domain_J106 (nI (2 ^ j)) a2 (nI t) a4 a5 (nI (dac w h * dac w h)) 0 (nI (2 * w)) 1024 Xpicture_f 256 Xhalf_f 256 Xds_f (0 : Int32))))))) := by
            unfold f_M_domain_J35
            rw [if_pos rfl, hdM, Option.bind_some, Option.bind_some, nJ_mul]
          have M0 : ∀ z, f_M_domain_J35 (nI (2 ^ j)) a2 (nI t) a4 a5 X_code (nI (2 * w)) 1024 Xpicture_f 256 Xhalf_f 256 Xds_f 0 = z → f_M_domain (nI (2 ^ j)) a2 (nI t) a4 a5 X_code (nI (2 * w)) 1024 Xpicture_f 256 Xhalf_f 256 Xds_f = z := fun z hz => by
            unfold f_M_domain
            rw [h2, Option.bind_some, if_neg (by decide), if_neg g2, i3, Option.bind_some, if_neg (by decide)]
            exact hz
          by_cases hd : ∃ m : Nat, m < dac w h * dac w h ∧ a2 = nI m
          · obtain ⟨m, hm, rfl⟩ := hd
            have i2 := l_in_T hm (show dac w h * dac w h < 2147483648 by omega)
            have d0 : ¬ nI m < 0 := by rw [n0, nJ_ltF (by omega) (by omega)]; exact not_false
            have d1 : nI m < nI (dac w h * dac w h) := by rw [nJ_ltT hm (by omega)]; exact trivial
            by_cases hx : ∃ x : Nat, x < 2 ^ j ∧ a4 = nI x
            · obtain ⟨x, hx, rfl⟩ := hx
              have i4 := l_in_T hx (show 2 ^ j < 2147483648 by omega)
              have x0 : ¬ nI x < 0 := by rw [n0, nJ_ltF (by omega) (by omega)]; exact not_false
              have x1 : ¬ nI (2 ^ j) ≤ nI x := by rw [nJ_leF hx (by omega)]; exact not_false
              by_cases hy : ∃ y : Nat, y < 2 ^ j ∧ a5 = nI y
              · obtain ⟨y, hy, rfl⟩ := hy
                have i5 := l_in_T hy (show 2 ^ j < 2147483648 by omega)
                have y0 : ¬ nI y < 0 := by rw [n0, nJ_ltF (by omega) (by omega)]; exact not_false
                have y1 : nI y < nI (2 ^ j) := by rw [nJ_ltT hy (by omega)]; exact trivial
                have hhF := l_G_half (s := 2 * w) (w := w) (m := 4 * (w * w)) (n := 4 * (w * w)) (q := 2 * w) (f := PA_f) (g := HA_f) (p := p) (G := H_side) (by omega) (by omega) (by omega) (by omega) (by omega) (by omega) c2 k3
                have hhM := l_M_halve (s := 2 * w) (w := w) (m := 256) (n := 1024) (f := Xpicture_f) (g := Xhalf_f) (p := p) (by omega) (by omega) (by omega) (by omega) m1 k3
                obtain ⟨dl, dt⟩ := dom_in (w := w) (h := h) (d := m) (by omega) (by omega) hm
                have aim := l_V_aim (w := w) (h := h) (d := m) (turn := t) (a := V_left) (b := V_top) (c := V_start) (by omega) (by omega) (by omega) hm ht
                have sam := l_V_sample (w := w) (left := domL w h m) (top := domT w h m) (size := 2 * h) (turn := t) (x := x) (y := y) (n := 4 * (w * w)) (f := wr HA_f (fun k => nI (hlf p (2 * w) k)) (w * w)) (by omega) (by omega) ht (by omega) (by omega) dl dt (by omega) (by omega)
                have lay := l_M_layDomain (w := w) (h := h) (d := m) (turn := t) (m := 256) (n := 256) (f := wr Xhalf_f (fun k => nI (hlf p (2 * w) k)) (w * w)) (g := Xds_f) (q := hlf p (2 * w)) (by omega) (by omega) (by omega) hm ht (by omega) (n_le (by omega)) (fun k hk => wr_lt hk)
                have cell := dcell_lt (w := w) (left := domL w h m) (top := domT w h m) (m := 2 * h - 1) (turn := t) (x := x) (y := y) ht (by omega) (by omega) (by omega) (by omega)
                have hn4 : 2 * h * (2 * h) ≤ 256 := n_le (by omega)
                have hyx : y * (2 * h) + x < 2 * h * (2 * h) := ix (by omega) (by omega)
                obtain ⟨ri1, ri2⟩ := rowIdx (y := y) (x := x) (z := 2 * h) (by omega)
                have ei : nI (2 ^ j) * nI y + nI x = nI (y * (2 * h) + x) := by rw [nJ_mul, nJ_add, hh, Nat.mul_comm]
                have cl : (nI (y * (2 * h) + x)).toNatClampNeg = y * (2 * h) + x := nJ_clamp (by omega)
                have ii : ¬ (nI (y * (2 * h) + x) < 0 ∨ 256 ≤ y * (2 * h) + x) := by rw [n0, nJ_ltF (by omega) (by omega), false_or]; omega
                have hF : ∃ r, f_F_domain (nI (2 ^ j)) (nI m) (nI t) (nI x) (nI y) (nI (2 * w)) (nI (2 * w)) (4 * (w * w)) PA_f (nI (2 * w)) H_side (4 * (w * w)) HA_f V_left V_top V_start V_stepAcross V_stepDown = some (.inr r) ∧ r.1 = nI (hlf p (2 * w) (dcell w (domL w h m) (domT w h m) (2 * h - 1) t x y)) := by
                  unfold f_F_domain
                  rw [h1, Option.bind_some, if_neg (by decide), hv, if_pos g1, if_neg t0, if_pos t8, if_neg d0, hdF, Option.bind_some, if_pos d1, if_neg x0, if_neg x1, if_neg y0, if_pos y1, hhF, Option.bind_some, hh]
                  dsimp only
                  rw [aim, Option.bind_some]
                  dsimp only
                  rw [sam, Option.bind_some]
                  exact ⟨_, rfl, (by dsimp only; exact wr_lt cell)⟩
                have hM : ∃ u, f_M_domain (nI (2 ^ j)) (nI m) (nI t) (nI x) (nI y) X_code (nI (2 * w)) 1024 Xpicture_f 256 Xhalf_f 256 Xds_f = some u ∧ u.1 = nI (hlf p (2 * w) (dcell w (domL w h m) (domT w h m) (2 * h - 1) t x y)) ∧ u.2.1 = 0 := by
                  refine ⟨(wr Xds_f (fun k => nI (dmn (hlf p (2 * w)) w h m t k)) (2 * h * (2 * h)) (y * (2 * h) + x), 0, wr Xhalf_f (fun k => nI (hlf p (2 * w) k)) (w * w), wr Xds_f (fun k => nI (dmn (hlf p (2 * w)) w h m t k)) (2 * h * (2 * h))), M0 _ ?_, ?_, rfl⟩
                  · rw [J0, i2, Option.bind_some, if_neg (by decide), i4, Option.bind_some, if_neg (by decide), i5, Option.bind_some, if_neg (by decide)]
                    unfold f_M_domain_J106
                    rw [if_pos (by decide), hhM, Option.bind_some, ei, cl, hh, lay, Option.bind_some, if_neg ii]
                  · dsimp only
                    rw [wr_lt hyx]
                    unfold dmn
                    rw [ri1, ri2]
                obtain ⟨r, r1, r2⟩ := hF
                obtain ⟨u, u1, u2, u3⟩ := hM
                unfold f_LW_11 f_M_thrown f_L_domain
                rw [r1, Option.bind_some, Sum.elim_inr, if_neg io1, Option.bind_some, u1, Option.bind_some, Option.bind_some]
                exact ⟨_, law_ok u3 (fun _ => by (try dsimp only); rw [updL0, r2, u2])⟩
              · have i5 := l_in_F hy (show 2 ^ j < 2147483648 by omega)
                refine finB 1 2 (Or.inr ⟨rfl, rfl⟩) ?_ (M0 _ ?_)
                · unfold f_F_domain
                  rw [h1, Option.bind_some, if_neg (by decide), hv, if_pos g1, if_neg t0, if_pos t8, if_neg d0, hdF, Option.bind_some, if_pos d1, if_neg x0, if_neg x1]
                  rcases nat_below hy (by omega) with z | ⟨z1, z2, _⟩
                  · rw [if_pos z]
                  · rw [if_neg z1, if_neg z2]
                · rw [J0, i2, Option.bind_some, if_neg (by decide), i4, Option.bind_some, if_neg (by decide), i5, Option.bind_some, if_pos rfl]
                  exact J2 _ _ _ _ _ _ _
            · have i4 := l_in_F hx (show 2 ^ j < 2147483648 by omega)
              refine finB 1 2 (Or.inr ⟨rfl, rfl⟩) ?_ (M0 _ ?_)
              · unfold f_F_domain
                rw [h1, Option.bind_some, if_neg (by decide), hv, if_pos g1, if_neg t0, if_pos t8, if_neg d0, hdF, Option.bind_some, if_pos d1]
                rcases nat_below hx (by omega) with z | ⟨z1, _, z3⟩
                · rw [if_pos z]
                · rw [if_neg z1, if_pos z3]
              · rw [J0, i2, Option.bind_some, if_neg (by decide), i4, Option.bind_some, if_pos rfl]
                exact J2 _ _ _ _ _ _ _
          · have i2 := l_in_F hd (show dac w h * dac w h < 2147483648 by omega)
            refine finB 1 2 (Or.inr ⟨rfl, rfl⟩) ?_ (M0 _ ?_)
            · unfold f_F_domain
              rw [h1, Option.bind_some, if_neg (by decide), hv, if_pos g1, if_neg t0, if_pos t8]
              rcases nat_below hd (by omega) with z | ⟨z1, z2, _⟩
              · rw [if_pos z]
              · rw [if_neg z1, hdF, Option.bind_some, if_neg z2]
            · rw [J0, i2, Option.bind_some, if_pos rfl]
              exact J2 _ _ _ _ _ _ _
        · have i3 : f_M_in a3.toInt64 0 7 = some 0 := by rw [L7]; exact l_in_F ht (by omega)
          refine finB 2 1 (Or.inl ⟨rfl, rfl⟩) ?_ ?_
          · unfold f_F_domain
            rw [h1, Option.bind_some, if_neg (by decide), hv, if_pos g1]
            rcases nat_below ht (by omega) with z | ⟨z1, z2, _⟩
            · rw [if_pos z]
            · rw [if_neg z1, n8, if_neg z2]
          · unfold f_M_domain
            rw [h2, Option.bind_some, if_neg (by decide), if_neg g2, i3, Option.bind_some, if_pos rfl]
            exact J1 _ _ _ _ _
      · have g1 : ¬ nI (2 ^ j) ≤ nI w := by rw [nJ_leF (by omega) (by omega)]; exact not_false
        have g2 : nI (2 * w) < 2 * nI (2 ^ j) := by rw [n2, nJ_mul, nJ_ltT (by omega) (by omega)]; exact trivial
        refine finB 2 1 (Or.inl ⟨rfl, rfl⟩) ?_ ?_
        · unfold f_F_domain
          rw [h1, Option.bind_some, if_neg (by decide), hv, if_neg g1]
        · unfold f_M_domain
          rw [h2, Option.bind_some, if_neg (by decide), if_pos g2]
          exact J1 _ _ _ _ _
  obtain ⟨r, hr⟩ := goal
  exact ⟨r, hr, p, D, q, e, N, g, hA0, ⟨c1, c2, c3, c4, c5, c6, c7⟩, m1, m2, m3, m4, m5, m6⟩
end
section
/-! the beginning -/
theorem RX_init {w d : Nat} (hwd : w = 2 * 2 ^ d) (hw : w ≤ 16) : RX w d (nI (2 * w)) (fun _ => 0) (nI 0) (fun _ => 0) 0 0 (fun _ => 0) 0 (fun _ => 0) 0 (fun _ => 0) (fun _ => 0) 0 (fun _ => 0) 0 (fun _ => 0) 0 0 (fun _ => 0) 0 (fun _ => 0) :=
  ⟨fun _ => 0, 0, fun _ => 0, (0, fun _ => 0, 0, fun _ => 0, 0), 0, fun _ => 0, ⟨hwd, hw, fun _ _ => Nat.zero_le _, Or.inl rfl, fun _ => Nat.zero_le _, Nat.zero_le _, ⟨fun i hi => absurd hi (Nat.not_lt_zero i), fun i j _ hj => absurd hj (Nat.not_lt_zero j)⟩, Nat.zero_le _, Nat.zero_le _⟩,
    ⟨rfl, fun _ _ => rfl, rfl, fun j hj => absurd hj (Nat.not_lt_zero j), ⟨rfl, fun k hk => absurd hk (Nat.not_lt_zero k), rfl, bRep0 _ _, bGood0 _, rfl⟩, rfl, fun k hk => absurd hk (Nat.not_lt_zero k)⟩, fun _ _ => rfl, ⟨rfl, fun k hk => absurd hk (Nat.not_lt_zero k), rfl, bRep0 _ _, bGood0 _, rfl⟩, rfl, fun j hj => absurd hj (Nat.not_lt_zero j), rfl, fun k hk => absurd hk (Nat.not_lt_zero k)⟩
/-- the side that a number tells -/
theorem side_cases (x : Int32) : ∃ d : Nat, d ≤ 3 ∧ ((4 : Int32) <<< ((if (0 : Int32) < (if (3 : Int32) < x then (3 : Int32) else x) then (if (3 : Int32) < x then (3 : Int32) else x) else (0 : Int32)) &&& 31)) = nI (2 * (2 * 2 ^ d)) ∧ (x < 0 → (4 : Int32) <<< ((0 : Int32) &&& 31) = nI (2 * (2 * 2 ^ d))) ∧ ((3 : Int32) < x → (4 : Int32) <<< ((3 : Int32) &&& 31) = nI (2 * (2 * 2 ^ d))) ∧ (0 ≤ x → x ≤ (3 : Int32) → (4 : Int32) <<< (x &&& 31) = nI (2 * (2 * 2 ^ d))) := by
  rcases nJ_case x with h | ⟨n, hn, rfl⟩
  · have h3 : ¬ (3 : Int32) < x := fun q => absurd (Int32.lt_trans q h) (by decide)
    have h0 : ¬ (0 : Int32) < x := fun q => absurd (Int32.lt_trans q h) (by decide)
    refine ⟨0, by omega, ?_, fun _ => by decide, fun q => absurd q h3, fun q => absurd h (Int32.not_lt.mpr q)⟩
    rw [if_neg h3, if_neg h0]
    decide
  · by_cases c : 3 < n
    · have h3 : (3 : Int32) < nI n := by rw [n3, nJ_ltT c hn]; exact trivial
      refine ⟨3, by omega, ?_, fun q => ?_, fun _ => by decide, fun _ q => absurd h3 (Int32.not_lt.mpr q)⟩
      · rw [if_pos h3]
        decide
      · rw [n0, nJ_ltF (by omega) (by omega)] at q
        exact q.elim
    · have : n = 0 ∨ n = 1 ∨ n = 2 ∨ n = 3 := by omega
      rcases this with rfl | rfl | rfl | rfl
      · exact ⟨0, by omega, by decide, by decide, by decide, by decide⟩
      · exact ⟨1, by omega, by decide, by decide, by decide, by decide⟩
      · exact ⟨2, by omega, by decide, by decide, by decide, by decide⟩
      · exact ⟨3, by omega, by decide, by decide, by decide, by decide⟩
end
