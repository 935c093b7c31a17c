def f_M_encode_J230 (lk : Int32 → Int32 → Int32 → Int32 → Int64 → (Nat → Int32) → (Nat → Int32) → (Nat → Int32) → (Nat → Int32) → (Nat → Int32) → (Nat → Int32) → Option (Int32 × Int32 × Int32 × Int32 × Int64 × (Nat → Int32) × (Nat → Int32) × (Nat → Int32) × (Nat → Int32) × (Nat → Int32) × (Nat → Int32))) (p1 : Int32) (p2 : Int32) (p3 : Int32) (p4 : Int32) (p5 : Int32) (p6 : Int32) (X_side : Int32) (X_found : Int32) (X_encodedBits : Int32) (X_tried : Int32) (X_waiting : Int32) (X_bestError : Int64) (Xblocks_n : Nat) (Xblocks_f : Nat → Int32) (Xencoded_n : Nat) (Xencoded_f : Nat → Int32) (Xpile_n : Nat) (Xpile_f : Nat → Int32) (Xds_f : Nat → Int32) (Xrs_f : Nat → Int32) (Xbest_n : Nat) (Xbest_f : Nat → Int32) : Option (Int32 × Int32 × Int32 × Int32 × Int64 × (Nat → Int32) × (Nat → Int32) × (Nat → Int32) × (Nat → Int32) × (Nat → Int32) × (Nat → Int32)) := if p6 = 0 then ((f_M_note p3 p4 p5 X_bestError.toInt32 X_found Xblocks_n Xblocks_f Xbest_n Xbest_f).bind (fun q1046 => if (0 : Int32) < 0 ∨ Xbest_n ≤ (0 : Int32).toNatClampNeg then none else ((f_M_bitsFor p5 X_side).bind (fun q1047 => (f_M_tell (Xbest_f (0 : Int32).toNatClampNeg) q1047 X_encodedBits Xencoded_n Xencoded_f).bind (fun q1049 => if (1 : Int32) < 0 ∨ Xbest_n ≤ (1 : Int32).toNatClampNeg then none else ((f_M_tell (Xbest_f (1 : Int32).toNatClampNeg) (3 : Int32) q1049.1 Xencoded_n q1049.2).bind (fun q1050 => if (2 : Int32) < 0 ∨ Xbest_n ≤ (2 : Int32).toNatClampNeg then none else ((f_M_tell ((Xbest_f (2 : Int32).toNatClampNeg) + (7 : Int32)) (4 : Int32) q1050.1 Xencoded_n q1050.2).bind (fun q1051 => if (3 : Int32) < 0 ∨ Xbest_n ≤ (3 : Int32).toNatClampNeg then none else ((f_M_tell ((Xbest_f (3 : Int32).toNatClampNeg) + (256 : Int32)) (10 : Int32) q1051.1 Xencoded_n q1051.2).bind (fun q1052 => lk q1046.1 q1052.1 X_tried X_waiting X_bestError q1046.2 q1052.2 Xpile_f Xds_f Xrs_f Xbest_f))))))))))) else ((f_M_pileQuarters p3 p4 p5 X_waiting Xpile_n Xpile_f).bind (fun q1053 => lk X_found X_encodedBits X_tried q1053.1 X_bestError Xblocks_f Xencoded_f q1053.2 Xds_f Xrs_f Xbest_f))
def f_M_encode_J226 (lk : Int32 → Int32 → Int32 → Int32 → Int64 → (Nat → Int32) → (Nat → Int32) → (Nat → Int32) → (Nat → Int32) → (Nat → Int32) → (Nat → Int32) → Option (Int32 × Int32 × Int32 × Int32 × Int64 × (Nat → Int32) × (Nat → Int32) × (Nat → Int32) × (Nat → Int32) × (Nat → Int32) × (Nat → Int32))) (p1 : Int32) (p2 : Int32) (p3 : Int32) (p4 : Int32) (p5 : Int32) (p6 : Int32) (X_side : Int32) (X_found : Int32) (X_encodedBits : Int32) (X_tried : Int32) (X_waiting : Int32) (X_bestError : Int64) (Xblocks_n : Nat) (Xblocks_f : Nat → Int32) (Xencoded_n : Nat) (Xencoded_f : Nat → Int32) (Xpile_n : Nat) (Xpile_f : Nat → Int32) (Xds_f : Nat → Int32) (Xrs_f : Nat → Int32) (Xbest_n : Nat) (Xbest_f : Nat → Int32) (s0 : Int32) : Option (Int32 × Int32 × Int32 × Int32 × Int64 × (Nat → Int32) × (Nat → Int32) × (Nat → Int32) × (Nat → Int32) × (Nat → Int32) × (Nat → Int32)) := (f_M_tell s0 (1 : Int32) X_encodedBits Xencoded_n Xencoded_f).bind (fun q1054 => if p6 = 0 then ((f_M_note p3 p4 p5 X_bestError.toInt32 X_found Xblocks_n Xblocks_f Xbest_n Xbest_f).bind (fun q1055 => if (0 : Int32) < 0 ∨ Xbest_n ≤ (0 : Int32).toNatClampNeg then none else ((f_M_bitsFor p5 X_side).bind (fun q1056 => (f_M_tell (Xbest_f (0 : Int32).toNatClampNeg) q1056 q1054.1 Xencoded_n q1054.2).bind (fun q1058 => if (1 : Int32) < 0 ∨ Xbest_n ≤ (1 : Int32).toNatClampNeg then none else ((f_M_tell (Xbest_f (1 : Int32).toNatClampNeg) (3 : Int32) q1058.1 Xencoded_n q1058.2).bind (fun q1059 => if (2 : Int32) < 0 ∨ Xbest_n ≤ (2 : Int32).toNatClampNeg then none else ((f_M_tell ((Xbest_f (2 : Int32).toNatClampNeg) + (7 : Int32)) (4 : Int32) q1059.1 Xencoded_n q1059.2).bind (fun q1060 => if (3 : Int32) < 0 ∨ Xbest_n ≤ (3 : Int32).toNatClampNeg then none else ((f_M_tell ((Xbest_f (3 : Int32).toNatClampNeg) + (256 : Int32)) (10 : Int32) q1060.1 Xencoded_n q1060.2).bind (fun q1061 => lk q1055.1 q1061.1 X_tried X_waiting X_bestError q1055.2 q1061.2 Xpile_f Xds_f Xrs_f Xbest_f))))))))))) else ((f_M_pileQuarters p3 p4 p5 X_waiting Xpile_n Xpile_f).bind (fun q1062 => lk X_found q1054.1 X_tried q1062.1 X_bestError Xblocks_f q1054.2 q1062.2 Xds_f Xrs_f Xbest_f)))
def f_M_encode_J207 (lk : Int32 → Int32 → Int32 → Int32 → Int64 → (Nat → Int32) → (Nat → Int32) → (Nat → Int32) → (Nat → Int32) → (Nat → Int32) → (Nat → Int32) → Option (Int32 × Int32 × Int32 × Int32 × Int64 × (Nat → Int32) × (Nat → Int32) × (Nat → Int32) × (Nat → Int32) × (Nat → Int32) × (Nat → Int32))) (p1 : Int32) (p2 : Int32) (p3 : Int32) (p4 : Int32) (p5 : Int32) (X_side : Int32) (X_found : Int32) (X_encodedBits : Int32) (X_tried : Int32) (X_waiting : Int32) (X_bestError : Int64) (Xblocks_n : Nat) (Xblocks_f : Nat → Int32) (Xencoded_n : Nat) (Xencoded_f : Nat → Int32) (Xpile_n : Nat) (Xpile_f : Nat → Int32) (Xds_f : Nat → Int32) (Xrs_f : Nat → Int32) (Xbest_n : Nat) (Xbest_f : Nat → Int32) (s0 : Int32) : Option (Int32 × Int32 × Int32 × Int32 × Int64 × (Nat → Int32) × (Nat → Int32) × (Nat → Int32) × (Nat → Int32) × (Nat → Int32) × (Nat → Int32)) := if p5 ≤ p1 then (f_M_encode_J230 lk p1 p2 p3 p4 p5 s0 X_side X_found X_encodedBits X_tried X_waiting X_bestError Xblocks_n Xblocks_f Xencoded_n Xencoded_f Xpile_n Xpile_f Xds_f Xrs_f Xbest_n Xbest_f) else (if s0 = 0 then (f_M_encode_J226 lk p1 p2 p3 p4 p5 s0 X_side X_found X_encodedBits X_tried X_waiting X_bestError Xblocks_n Xblocks_f Xencoded_n Xencoded_f Xpile_n Xpile_f Xds_f Xrs_f Xbest_n Xbest_f (0 : Int32)) else (f_M_encode_J226 lk p1 p2 p3 p4 p5 s0 X_side X_found X_encodedBits X_tried X_waiting X_bestError Xblocks_n Xblocks_f Xencoded_n Xencoded_f Xpile_n Xpile_f Xds_f Xrs_f Xbest_n Xbest_f (1 : Int32)))
def f_M_encode_118 (p1 : Int32) (p2 : Int32) (X_side : Int32) (Xpicture_n : Nat) (Xpicture_f : Nat → Int32) (Xhalf_n : Nat) (Xhalf_f : Nat → Int32) (Xblocks_n : Nat) (Xencoded_n : Nat) (Xpile_n : Nat) (Xds_n : Nat) (Xrs_n : Nat) (Xbest_n : Nat) : Nat → Int32 → Int32 → Int32 → Int32 → Int64 → (Nat → Int32) → (Nat → Int32) → (Nat → Int32) → (Nat → Int32) → (Nat → Int32) → (Nat → Int32) → Option (Int32 × Int32 × Int32 × Int32 × Int64 × (Nat → Int32) × (Nat → Int32) × (Nat → Int32) × (Nat → Int32) × (Nat → Int32) × (Nat → Int32))
  | 0, _, _, _, _, _, _, _, _, _, _, _ => none
  | n + 1, X_found, X_encodedBits, X_tried, X_waiting, X_bestError, Xblocks_f, Xencoded_f, Xpile_f, Xds_f, Xrs_f, Xbest_f => if X_waiting ≤ 0 then (some (X_found, X_encodedBits, X_tried, X_waiting, X_bestError, Xblocks_f, Xencoded_f, Xpile_f, Xds_f, Xrs_f, Xbest_f)) else (if ((3 : Int32) * (X_waiting - (1 : Int32))) < 0 ∨ Xpile_n ≤ ((3 : Int32) * (X_waiting - (1 : Int32))).toNatClampNeg then none else (if (((3 : Int32) * (X_waiting - (1 : Int32))) + (1 : Int32)) < 0 ∨ Xpile_n ≤ (((3 : Int32) * (X_waiting - (1 : Int32))) + (1 : Int32)).toNatClampNeg then none else (if (((3 : Int32) * (X_waiting - (1 : Int32))) + (2 : Int32)) < 0 ∨ Xpile_n ≤ (((3 : Int32) * (X_waiting - (1 : Int32))) + (2 : Int32)).toNatClampNeg then none else ((f_M_search (Xpile_f ((3 : Int32) * (X_waiting - (1 : Int32))).toNatClampNeg) (Xpile_f (((3 : Int32) * (X_waiting - (1 : Int32))) + (1 : Int32)).toNatClampNeg) (Xpile_f (((3 : Int32) * (X_waiting - (1 : Int32))) + (2 : Int32)).toNatClampNeg) X_side X_tried X_bestError Xpicture_n Xpicture_f Xhalf_n Xhalf_f Xds_n Xds_f Xrs_n Xrs_f Xbest_n Xbest_f).bind (fun q1045 => if (Xpile_f (((3 : Int32) * (X_waiting - (1 : Int32))) + (2 : Int32)).toNatClampNeg) ≤ p1 then (f_M_encode_J207 (fun (a0 : Int32) (a1 : Int32) (a2 : Int32) (a3 : Int32) (a4 : Int64) (a5 : Nat → Int32) (a6 : Nat → Int32) (a7 : Nat → Int32) (a8 : Nat → Int32) (a9 : Nat → Int32) (a10 : Nat → Int32) => f_M_encode_118 p1 p2 X_side Xpicture_n Xpicture_f Xhalf_n Xhalf_f Xblocks_n Xencoded_n Xpile_n Xds_n Xrs_n Xbest_n n a0 a1 a2 a3 a4 a5 a6 a7 a8 a9 a10) p1 p2 (Xpile_f ((3 : Int32) * (X_waiting - (1 : Int32))).toNatClampNeg) (Xpile_f (((3 : Int32) * (X_waiting - (1 : Int32))) + (1 : Int32)).toNatClampNeg) (Xpile_f (((3 : Int32) * (X_waiting - (1 : Int32))) + (2 : Int32)).toNatClampNeg) X_side X_found X_encodedBits q1045.1 (X_waiting - (1 : Int32)) q1045.2.1 Xblocks_n Xblocks_f Xencoded_n Xencoded_f Xpile_n Xpile_f q1045.2.2.1 q1045.2.2.2.1 Xbest_n q1045.2.2.2.2 (0 : Int32)) else (if (lg_cmp q1045.2.1 p2.toInt64) ≤ 0 then (f_M_encode_J207 (fun (a0 : Int32) (a1 : Int32) (a2 : Int32) (a3 : Int32) (a4 : Int64) (a5 : Nat → Int32) (a6 : Nat → Int32) (a7 : Nat → Int32) (a8 : Nat → Int32) (a9 : Nat → Int32) (a10 : Nat → Int32) => f_M_encode_118 p1 p2 X_side Xpicture_n Xpicture_f Xhalf_n Xhalf_f Xblocks_n Xencoded_n Xpile_n Xds_n Xrs_n Xbest_n n a0 a1 a2 a3 a4 a5 a6 a7 a8 a9 a10) p1 p2 (Xpile_f ((3 : Int32) * (X_waiting - (1 : Int32))).toNatClampNeg) (Xpile_f (((3 : Int32) * (X_waiting - (1 : Int32))) + (1 : Int32)).toNatClampNeg) (Xpile_f (((3 : Int32) * (X_waiting - (1 : Int32))) + (2 : Int32)).toNatClampNeg) X_side X_found X_encodedBits q1045.1 (X_waiting - (1 : Int32)) q1045.2.1 Xblocks_n Xblocks_f Xencoded_n Xencoded_f Xpile_n Xpile_f q1045.2.2.1 q1045.2.2.2.1 Xbest_n q1045.2.2.2.2 (0 : Int32)) else (f_M_encode_J207 (fun (a0 : Int32) (a1 : Int32) (a2 : Int32) (a3 : Int32) (a4 : Int64) (a5 : Nat → Int32) (a6 : Nat → Int32) (a7 : Nat → Int32) (a8 : Nat → Int32) (a9 : Nat → Int32) (a10 : Nat → Int32) => f_M_encode_118 p1 p2 X_side Xpicture_n Xpicture_f Xhalf_n Xhalf_f Xblocks_n Xencoded_n Xpile_n Xds_n Xrs_n Xbest_n n a0 a1 a2 a3 a4 a5 a6 a7 a8 a9 a10) p1 p2 (Xpile_f ((3 : Int32) * (X_waiting - (1 : Int32))).toNatClampNeg) (Xpile_f (((3 : Int32) * (X_waiting - (1 : Int32))) + (1 : Int32)).toNatClampNeg) (Xpile_f (((3 : Int32) * (X_waiting - (1 : Int32))) + (2 : Int32)).toNatClampNeg) X_side X_found X_encodedBits q1045.1 (X_waiting - (1 : Int32)) q1045.2.1 Xblocks_n Xblocks_f Xencoded_n Xencoded_f Xpile_n Xpile_f q1045.2.2.1 q1045.2.2.2.1 Xbest_n q1045.2.2.2.2 (1 : Int32))))))))
def f_M_encode_J104 (p1 : Int32) (p2 : Int32) (X_code : Int32) (X_side : Int32) (X_many : Int32) (X_found : Int32) (X_encodedBits : Int32) (X_tried : Int32) (X_waiting : Int32) (X_bestError : Int64) (Xpicture_n : Nat) (Xpicture_f : Nat → Int32) (Xhalf_n : Nat) (Xhalf_f : Nat → Int32) (Xblocks_n : Nat) (Xblocks_f : Nat → Int32) (Xencoded_n : Nat) (Xencoded_f : Nat → Int32) (Xpile_n : Nat) (Xpile_f : Nat → Int32) (Xds_n : Nat) (Xds_f : Nat → Int32) (Xrs_n : Nat) (Xrs_f : Nat → Int32) (Xbest_n : Nat) (Xbest_f : Nat → Int32) (s0 : Int32) : Option (Int32 × Int32 × Int32 × Int32 × Int32 × Int32 × Int32 × Int64 × (Nat → Int32) × (Nat → Int32) × (Nat → Int32) × (Nat → Int32) × (Nat → Int32) × (Nat → Int32) × (Nat → Int32)) := (f_M_tell s0 (3 : Int32) X_encodedBits Xencoded_n Xencoded_f).bind (fun q1043 => (f_M_pileQuarters (0 : Int32) (0 : Int32) X_side X_waiting Xpile_n Xpile_f).bind (fun q1044 => (f_M_encode_118 p1 p2 X_side Xpicture_n Xpicture_f Xhalf_n Xhalf_f Xblocks_n Xencoded_n Xpile_n Xds_n Xrs_n Xbest_n FU X_found q1043.1 X_tried q1044.1 X_bestError Xblocks_f q1043.2 q1044.2 Xds_f Xrs_f Xbest_f).bind (fun q1063 => (f_M_takeFound q1063.1 Xblocks_n q1063.2.2.2.2.2.1).bind (fun q1075 => some (q1075.1, X_code, q1075.1, q1063.1, q1063.2.1, q1063.2.2.1, q1063.2.2.2.1, q1063.2.2.2.2.1, Xhalf_f, q1075.2, q1063.2.2.2.2.2.2.1, q1063.2.2.2.2.2.2.2.1, q1063.2.2.2.2.2.2.2.2.1, q1063.2.2.2.2.2.2.2.2.2.1, q1063.2.2.2.2.2.2.2.2.2.2)))))
def f_M_encode_J27 (p1 : Int32) (p2 : Int32) (X_code : Int32) (X_side : Int32) (X_many : Int32) (X_found : Int32) (X_encodedBits : Int32) (X_tried : Int32) (X_waiting : Int32) (X_bestError : Int64) (Xpicture_n : Nat) (Xpicture_f : Nat → Int32) (Xhalf_n : Nat) (Xhalf_f : Nat → Int32) (Xblocks_n : Nat) (Xblocks_f : Nat → Int32) (Xencoded_n : Nat) (Xencoded_f : Nat → Int32) (Xpile_n : Nat) (Xpile_f : Nat → Int32) (Xds_n : Nat) (Xds_f : Nat → Int32) (Xrs_n : Nat) (Xrs_f : Nat → Int32) (Xbest_n : Nat) (Xbest_f : Nat → Int32) (s0 : Int32) : Option (Int32 × Int32 × Int32 × Int32 × Int32 × Int32 × Int32 × Int64 × (Nat → Int32) × (Nat → Int32) × (Nat → Int32) × (Nat → Int32) × (Nat → Int32) × (Nat → Int32) × (Nat → Int32)) := if s0 ≤ 0 then ((f_M_halve X_side Xpicture_n Xpicture_f Xhalf_n Xhalf_f).bind (fun q1042 => if p1 = (2 : Int32) then (f_M_encode_J104 p1 p2 s0 X_side X_many (0 : Int32) (0 : Int32) (0 : Int32) (0 : Int32) X_bestError Xpicture_n Xpicture_f Xhalf_n q1042 Xblocks_n Xblocks_f Xencoded_n Xencoded_f Xpile_n Xpile_f Xds_n Xds_f Xrs_n Xrs_f Xbest_n Xbest_f (1 : Int32)) else (if p1 = (4 : Int32) then (f_M_encode_J104 p1 p2 s0 X_side X_many (0 : Int32) (0 : Int32) (0 : Int32) (0 : Int32) X_bestError Xpicture_n Xpicture_f Xhalf_n q1042 Xblocks_n Xblocks_f Xencoded_n Xencoded_f Xpile_n Xpile_f Xds_n Xds_f Xrs_n Xrs_f Xbest_n Xbest_f (2 : Int32)) else (if p1 = (8 : Int32) then (f_M_encode_J104 p1 p2 s0 X_side X_many (0 : Int32) (0 : Int32) (0 : Int32) (0 : Int32) X_bestError Xpicture_n Xpicture_f Xhalf_n q1042 Xblocks_n Xblocks_f Xencoded_n Xencoded_f Xpile_n Xpile_f Xds_n Xds_f Xrs_n Xrs_f Xbest_n Xbest_f (3 : Int32)) else (f_M_encode_J104 p1 p2 s0 X_side X_many (0 : Int32) (0 : Int32) (0 : Int32) (0 : Int32) X_bestError Xpicture_n Xpicture_f Xhalf_n q1042 Xblocks_n Xblocks_f Xencoded_n Xencoded_f Xpile_n Xpile_f Xds_n Xds_f Xrs_n Xrs_f Xbest_n Xbest_f (4 : Int32)))))) else (some ((0 : Int32), s0, X_many, X_found, X_encodedBits, X_tried, X_waiting, X_bestError, Xhalf_f, Xblocks_f, Xencoded_f, Xpile_f, Xds_f, Xrs_f, Xbest_f))
def f_M_encode (x1 : Int32) (x2 : Int32) (X_code : Int32) (X_side : Int32) (X_many : Int32) (X_found : Int32) (X_encodedBits : Int32) (X_tried : Int32) (X_waiting : Int32) (X_bestError : Int64) (Xpicture_n : Nat) (Xpicture_f : Nat → Int32) (Xhalf_n : Nat) (Xhalf_f : Nat → Int32) (Xblocks_n : Nat) (Xblocks_f : Nat → Int32) (Xencoded_n : Nat) (Xencoded_f : Nat → Int32) (Xpile_n : Nat) (Xpile_f : Nat → Int32) (Xds_n : Nat) (Xds_f : Nat → Int32) (Xrs_n : Nat) (Xrs_f : Nat → Int32) (Xbest_n : Nat) (Xbest_f : Nat → Int32) : Option (Int32 × Int32 × Int32 × Int32 × Int32 × Int32 × Int32 × Int64 × (Nat → Int32) × (Nat → Int32) × (Nat → Int32) × (Nat → Int32) × (Nat → Int32) × (Nat → Int32) × (Nat → Int32)) := (f_M_isSize x1).bind (fun q1040 => if q1040 = 0 then (f_M_encode_J27 x1 x2 X_code X_side X_many X_found X_encodedBits X_tried X_waiting X_bestError Xpicture_n Xpicture_f Xhalf_n Xhalf_f Xblocks_n Xblocks_f Xencoded_n Xencoded_f Xpile_n Xpile_f Xds_n Xds_f Xrs_n Xrs_f Xbest_n Xbest_f (1 : Int32)) else (if X_side < ((2 : Int32) * x1) then (f_M_encode_J27 x1 x2 X_code X_side X_many X_found X_encodedBits X_tried X_waiting X_bestError Xpicture_n Xpicture_f Xhalf_n Xhalf_f Xblocks_n Xblocks_f Xencoded_n Xencoded_f Xpile_n Xpile_f Xds_n Xds_f Xrs_n Xrs_f Xbest_n Xbest_f (1 : Int32)) else (if x2 < 0 then (f_M_encode_J27 x1 x2 X_code X_side X_many X_found X_encodedBits X_tried X_waiting X_bestError Xpicture_n Xpicture_f Xhalf_n Xhalf_f Xblocks_n Xblocks_f Xencoded_n Xencoded_f Xpile_n Xpile_f Xds_n Xds_f Xrs_n Xrs_f Xbest_n Xbest_f (1 : Int32)) else (f_M_encode_J27 x1 x2 X_code X_side X_many X_found X_encodedBits X_tried X_waiting X_bestError Xpicture_n Xpicture_f Xhalf_n Xhalf_f Xblocks_n Xblocks_f Xencoded_n Xencoded_f Xpile_n Xpile_f Xds_n Xds_f Xrs_n Xrs_f Xbest_n Xbest_f (0 : Int32)))))
set_option maxHeartbeats 4000000 in
set_option maxRecDepth 100000 in
theorem c_M_encode (l : Launch) (dC : Nat → ClassId) (dI : Nat → Nat → Nat) (cI cL : ClassId) {ws0 : va_W} (sz : Nat) {aX aXpicture aXhalf aXblocks aXencoded aXfed aXpile aXnews aXolds aXhalves aXds aXrs aXbest : Nat} {X_code X_side X_many X_found X_encodedBits X_fedMany X_readAt X_why X_tried X_waiting X_decoded : Int32} {X_bestError : Int64} {Xpicture_n Xhalf_n Xblocks_n Xencoded_n Xpile_n Xds_n Xrs_n Xbest_n : Nat} {Xpicture_f Xhalf_f Xblocks_f Xencoded_f Xpile_f Xds_f Xrs_f Xbest_f : Nat → Int32} (x1 : Int32) (x2 : Int32) (hN_X : zA ws0 21 (aX, .inr (7, [.int X_code, .int X_side, .ref aXpicture, .ref aXhalf, .int X_many, .ref aXblocks, .int X_found, .int X_encodedBits, .ref aXencoded, .int X_fedMany, .ref aXfed, .int X_readAt, .int X_why, .int X_tried, .int X_waiting, .ref aXpile, .int X_decoded, .ref aXnews, .ref aXolds, .ref aXhalves, .ref aXds, .ref aXrs, .ref aXbest, .long X_bestError]))) (hN_Xpicture : zA ws0 22 (aXpicture, .inl (cI, Xpicture_n, .inl Xpicture_f))) (hN_Xhalf : zA ws0 23 (aXhalf, .inl (cI, Xhalf_n, .inl Xhalf_f))) (hN_Xblocks : zA ws0 24 (aXblocks, .inl (cI, Xblocks_n, .inl Xblocks_f))) (hN_Xencoded : zA ws0 25 (aXencoded, .inl (cI, Xencoded_n, .inl Xencoded_f))) (hN_Xpile : zA ws0 27 (aXpile, .inl (cI, Xpile_n, .inl Xpile_f))) (hN_Xds : zA ws0 31 (aXds, .inl (cI, Xds_n, .inl Xds_f))) (hN_Xrs : zA ws0 32 (aXrs, .inl (cI, Xrs_n, .inl Xrs_f))) (hN_Xbest : zA ws0 33 (aXbest, .inl (cI, Xbest_n, .inl Xbest_f))) (r : Int32 × Int32 × Int32 × Int32 × Int32 × Int32 × Int32 × Int64 × (Nat → Int32) × (Nat → Int32) × (Nat → Int32) × (Nat → Int32) × (Nat → Int32) × (Nat → Int32) × (Nat → Int32)) (hf : f_M_encode x1 x2 X_code X_side X_many X_found X_encodedBits X_tried X_waiting X_bestError Xpicture_n Xpicture_f Xhalf_n Xhalf_f Xblocks_n Xblocks_f Xencoded_n Xencoded_f Xpile_n Xpile_f Xds_n Xds_f Xrs_n Xrs_f Xbest_n Xbest_f = some r) : Met l y_M_encode w_M_encode rm_M_encode (va_Pc [.ref aX, .int x1, .int x2] (zM dC dI cI cL ws0 sz)) (va_Qi (fun (v : Int32) (ws' : va_W) => v = r.1 ∧ zA ws' 21 (aX, .inr (7, [.int r.2.1, .int X_side, .ref aXpicture, .ref aXhalf, .int r.2.2.1, .ref aXblocks, .int r.2.2.2.1, .int r.2.2.2.2.1, .ref aXencoded, .int X_fedMany, .ref aXfed, .int X_readAt, .int X_why, .int r.2.2.2.2.2.1, .int r.2.2.2.2.2.2.1, .ref aXpile, .int X_decoded, .ref aXnews, .ref aXolds, .ref aXhalves, .ref aXds, .ref aXrs, .ref aXbest, .long r.2.2.2.2.2.2.2.1])) ∧ zA ws' 23 (aXhalf, .inl (cI, Xhalf_n, .inl r.2.2.2.2.2.2.2.2.1)) ∧ zA ws' 24 (aXblocks, .inl (cI, Xblocks_n, .inl r.2.2.2.2.2.2.2.2.2.1)) ∧ zA ws' 25 (aXencoded, .inl (cI, Xencoded_n, .inl r.2.2.2.2.2.2.2.2.2.2.1)) ∧ zA ws' 27 (aXpile, .inl (cI, Xpile_n, .inl r.2.2.2.2.2.2.2.2.2.2.2.1)) ∧ zA ws' 31 (aXds, .inl (cI, Xds_n, .inl r.2.2.2.2.2.2.2.2.2.2.2.2.1)) ∧ zA ws' 32 (aXrs, .inl (cI, Xrs_n, .inl r.2.2.2.2.2.2.2.2.2.2.2.2.2.1)) ∧ zA ws' 33 (aXbest, .inl (cI, Xbest_n, .inl r.2.2.2.2.2.2.2.2.2.2.2.2.2.2)) ∧ ∀ (j : Nat), j ∉ ([21, 23, 24, 25, 27, 31, 32, 33] : List Nat) → ws'[j]? = ws0[j]?) (zQ dC dI cI cL (va_A ws0 sz)) (va_A ws0 sz)) 0 0 (va_A ws0 sz) := by
  refine Met.ofW (cc := b_M_encode) (maxL := 7) (ret := some .int) (by decide) rfl ?_
  intro p e s m args below meth c s₁ B hml hv
  obtain ⟨rfl, hsz, hP, hK, hZ, hD0⟩ := hv
  have hx := B.exec
  have hb := B.bytes
  have hr := B.returns
  have hlocks := B.notSynchronized
  have hts : ∀ w ∈ BIG, w.before ([.ref aX, .int x1, .int x2] : List Value).toArray s = true := fun w h => atoms_spec (ws := w_M_encode) B.pre w (List.mem_cons_of_mem _ h)
  have hown : s.vm.findClass "FractalMapsModel" = some m.cls := findClass_of_methodNamed B.named
  subst hsz
  have hD := hD0.self (sz := s.heap.size)
  generalize hAe : va_A ws0 s.heap.size = A at hD ⊢
  have hA : ∀ q : Nat, s.heap.size ≤ q → A q := fun q h => by rw [← hAe]; exact Or.inr h
  have hS : va_S A s.heap s.heap [] := va_S.rf
  have hw : ∀ (j : Nat), j ∉ ([21, 23, 24, 25, 27, 31, 32, 33] : List Nat) → ws0[j]? = ws0[j]? := fun _ _ => rfl
  have hl := lv_entry ([.ref aX, .int x1, .int x2]) (n := 7) (Nat.le_of_ble_eq_true rfl)
  rw [lg_entry_eq]
  generalize (lg_sl ([.ref aX, .int x1, .int x2]) ++ List.replicate (7 - (lg_sl ([.ref aX, .int x1, .int x2])).length) Slot.unset).toArray = ls at hl ⊢
  have hl : lv_has ls 7 [(0, .ref aX), (1, .int x1), (2, .int x2)] := hl
  unfold f_M_encode at hf
  refine lv_aload_n hx hb d_M_encode_0 rfl (lv_at hl 0 rfl) ?_
  refine lv_iload_n hx hb d_M_encode_1 rfl (lv_at hl 1 rfl) ?_
  obtain ⟨q1040, hc, hf⟩ := z_b hf
  refine vp_callSi (z_cr (va_runS (As := [.int x1]) (rest := [.ref aX]) ⟨hx, hb, hml, hown, hts⟩ (c_M_isSize l x1 q1040 hc) (cw_M_129 hts ⟨Nat.le_of_ble_eq_true rfl, Nat.le_of_ble_eq_true rfl⟩) ⟨zb0, zp0⟩ rfl rfl hl.1 rfl (lv_room (Nat.le_of_ble_eq_true rfl)) d_M_encode_2 ⟨Nat.zero_le _, Nat.zero_le _⟩)) (fun r1041 hv => ?_)
  have hv := hv.symm
  subst hv
  have jp27_1077 : ∀ (s0_1076 : Int32) (ls : Array Slot) (hf : f_M_encode_J27 x1 x2 X_code X_side X_many X_found X_encodedBits X_tried X_waiting X_bestError Xpicture_n Xpicture_f Xhalf_n Xhalf_f Xblocks_n Xblocks_f Xencoded_n Xencoded_f Xpile_n Xpile_f Xds_n Xds_f Xrs_n Xrs_f Xbest_n Xbest_f s0_1076 = some r) (hl : lv_has ls 7 [(0, .ref aX), (1, .int x1), (2, .int x2)]), W p l e (headSpec w_M_encode rm_M_encode).room s m ([.ref aX, .int x1, .int x2] : List Value).toArray below meth c s.heap [] 0 0 (MQ below (va_Qi (fun (v : Int32) (ws' : va_W) => v = r.1 ∧ zA ws' 21 (aX, .inr (7, [.int r.2.1, .int X_side, .ref aXpicture, .ref aXhalf, .int r.2.2.1, .ref aXblocks, .int r.2.2.2.1, .int r.2.2.2.2.1, .ref aXencoded, .int X_fedMany, .ref aXfed, .int X_readAt, .int X_why, .int r.2.2.2.2.2.1, .int r.2.2.2.2.2.2.1, .ref aXpile, .int X_decoded, .ref aXnews, .ref aXolds, .ref aXhalves, .ref aXds, .ref aXrs, .ref aXbest, .long r.2.2.2.2.2.2.2.1])) ∧ zA ws' 23 (aXhalf, .inl (cI, Xhalf_n, .inl r.2.2.2.2.2.2.2.2.1)) ∧ zA ws' 24 (aXblocks, .inl (cI, Xblocks_n, .inl r.2.2.2.2.2.2.2.2.2.1)) ∧ zA ws' 25 (aXencoded, .inl (cI, Xencoded_n, .inl r.2.2.2.2.2.2.2.2.2.2.1)) ∧ zA ws' 27 (aXpile, .inl (cI, Xpile_n, .inl r.2.2.2.2.2.2.2.2.2.2.2.1)) ∧ zA ws' 31 (aXds, .inl (cI, Xds_n, .inl r.2.2.2.2.2.2.2.2.2.2.2.2.1)) ∧ zA ws' 32 (aXrs, .inl (cI, Xrs_n, .inl r.2.2.2.2.2.2.2.2.2.2.2.2.2.1)) ∧ zA ws' 33 (aXbest, .inl (cI, Xbest_n, .inl r.2.2.2.2.2.2.2.2.2.2.2.2.2.2)) ∧ ∀ (j : Nat), j ∉ ([21, 23, 24, 25, 27, 31, 32, 33] : List Nat) → ws'[j]? = ws0[j]?) (zQ dC dI cI cL A) A) ([.ref aX, .int x1, .int x2] : List Value).toArray s 0 0 A) (F0 m 27 ls [.int s0_1076, .ref aX]) := by
    intro s0_1076 ls hf hl
    unfold f_M_encode_J27 at hf
    refine pf_M_50 (v := .int s0_1076) hx hb hts hown hK hP hD hS hN_X rfl rfl (Nat.le_of_ble_eq_true rfl) d_M_encode_27 (fun ws H locs hP hD hS hN_X hfr => ?_)
    have hN_X : zA ws 21 (aX, .inr (7, [.int s0_1076, .int X_side, .ref aXpicture, .ref aXhalf, .int X_many, .ref aXblocks, .int X_found, .int X_encodedBits, .ref aXencoded, .int X_fedMany, .ref aXfed, .int X_readAt, .int X_why, .int X_tried, .int X_waiting, .ref aXpile, .int X_decoded, .ref aXnews, .ref aXolds, .ref aXhalves, .ref aXds, .ref aXrs, .ref aXbest, .long X_bestError])) := hN_X
    have hN_Xpicture := (hfr _ (by decide)).trans hN_Xpicture
    have hN_Xhalf := (hfr _ (by decide)).trans hN_Xhalf
    have hN_Xblocks := (hfr _ (by decide)).trans hN_Xblocks
    have hN_Xencoded := (hfr _ (by decide)).trans hN_Xencoded
    have hN_Xpile := (hfr _ (by decide)).trans hN_Xpile
    have hN_Xds := (hfr _ (by decide)).trans hN_Xds
    have hN_Xrs := (hfr _ (by decide)).trans hN_Xrs
    have hN_Xbest := (hfr _ (by decide)).trans hN_Xbest
    have hw := z_fr (by decide) hw hfr
    refine lv_aload_n hx hb d_M_encode_30 rfl (lv_at hl 0 rfl) ?_
    refine gf_M_50 (v := .int s0_1076) hx hb hts hown hK hP hN_X rfl d_M_encode_31 ?_
    refine lv_if_le (tgt := 39) hx hb d_M_encode_34 (by decide) (fun hc => ?_) (fun hc => ?_)
    · have hf := z_t hc hf
      refine lv_aload_n hx hb d_M_encode_39 rfl (lv_at hl 0 rfl) ?_
      refine gf_M_7 (v := .ref aXpicture) hx hb hts hown hK hP hN_X rfl d_M_encode_40 ?_
      refine lv_aload_n hx hb d_M_encode_43 rfl (lv_at hl 0 rfl) ?_
      refine gf_M_46 (v := .int X_side) hx hb hts hown hK hP hN_X rfl d_M_encode_44 ?_
      refine lv_aload_n hx hb d_M_encode_47 rfl (lv_at hl 0 rfl) ?_
      refine gf_M_13 (v := .ref aXhalf) hx hb hts hown hK hP hN_X rfl d_M_encode_48 ?_
      obtain ⟨q1078, hc, hf⟩ := z_b hf
      have hFc := z_free hD hS hA
      refine va_callv (va_runS (As := [.ref aXpicture, .int X_side, .ref aXhalf]) (rest := []) ⟨hx, hb, hml, hown, hts⟩ (c_M_halve l dC dI cI cL _ X_side hN_Xpicture hN_Xhalf (by decide) q1078 hc) (cw_M_133 hts ⟨Nat.le_of_ble_eq_true rfl, Nat.le_of_ble_eq_true rfl⟩) ⟨zbM, (zpM hP hK hZ hD)⟩ rfl rfl hl.1 rfl (lv_room (Nat.le_of_ble_eq_true rfl)) d_M_encode_51 ⟨Nat.zero_le _, Nat.zero_le _⟩) hS (fun q _ h => hFc q h) hFc (fun ws t H locs ht hvm hu hB hz1 hk1 hS => ?_)
      obtain ⟨hN_Xhalf, hfr⟩ := hu
      obtain ⟨hP, -, hD1⟩ := hB
      rw [ht] at hP
      have hD := hD1.weaken (fun _ _ _ h => hFc _ h)
      have hN_Xhalf : zA ws 23 (aXhalf, .inl (cI, Xhalf_n, .inl q1078)) := hN_Xhalf
      have hN_X := (hfr _ (by decide)).trans hN_X
      have hN_Xpicture := (hfr _ (by decide)).trans hN_Xpicture
      have hN_Xblocks := (hfr _ (by decide)).trans hN_Xblocks
      have hN_Xencoded := (hfr _ (by decide)).trans hN_Xencoded
      have hN_Xpile := (hfr _ (by decide)).trans hN_Xpile
      have hN_Xds := (hfr _ (by decide)).trans hN_Xds
      have hN_Xrs := (hfr _ (by decide)).trans hN_Xrs
      have hN_Xbest := (hfr _ (by decide)).trans hN_Xbest
      have hw := z_frC (by decide) hw hfr
      refine lv_aload_n hx hb d_M_encode_54 rfl (lv_at hl 0 rfl) ?_
      refine lv_iconst (v := 0) hx hb d_M_encode_55 (by decide) ?_
      refine pf_M_108 (v := .int (0 : Int32)) hx hb hts hown hK hP hD hS hN_X rfl rfl (Nat.le_of_ble_eq_true rfl) d_M_encode_56 (fun ws H locs hP hD hS hN_X hfr => ?_)
      have hN_X : zA ws 21 (aX, .inr (7, [.int s0_1076, .int X_side, .ref aXpicture, .ref aXhalf, .int X_many, .ref aXblocks, .int X_found, .int X_encodedBits, .ref aXencoded, .int X_fedMany, .ref aXfed, .int X_readAt, .int X_why, .int (0 : Int32), .int X_waiting, .ref aXpile, .int X_decoded, .ref aXnews, .ref aXolds, .ref aXhalves, .ref aXds, .ref aXrs, .ref aXbest, .long X_bestError])) := hN_X
      have hN_Xpicture := (hfr _ (by decide)).trans hN_Xpicture
      have hN_Xhalf := (hfr _ (by decide)).trans hN_Xhalf
      have hN_Xblocks := (hfr _ (by decide)).trans hN_Xblocks
      have hN_Xencoded := (hfr _ (by decide)).trans hN_Xencoded
      have hN_Xpile := (hfr _ (by decide)).trans hN_Xpile
      have hN_Xds := (hfr _ (by decide)).trans hN_Xds
      have hN_Xrs := (hfr _ (by decide)).trans hN_Xrs
      have hN_Xbest := (hfr _ (by decide)).trans hN_Xbest
      have hw := z_fr (by decide) hw hfr
      refine lv_aload_n hx hb d_M_encode_59 rfl (lv_at hl 0 rfl) ?_
      refine lv_iconst (v := 0) hx hb d_M_encode_60 (by decide) ?_
      refine pf_M_126 (v := .int (0 : Int32)) hx hb hts hown hK hP hD hS hN_X rfl rfl (Nat.le_of_ble_eq_true rfl) d_M_encode_61 (fun ws H locs hP hD hS hN_X hfr => ?_)
      have hN_X : zA ws 21 (aX, .inr (7, [.int s0_1076, .int X_side, .ref aXpicture, .ref aXhalf, .int X_many, .ref aXblocks, .int X_found, .int (0 : Int32), .ref aXencoded, .int X_fedMany, .ref aXfed, .int X_readAt, .int X_why, .int (0 : Int32), .int X_waiting, .ref aXpile, .int X_decoded, .ref aXnews, .ref aXolds, .ref aXhalves, .ref aXds, .ref aXrs, .ref aXbest, .long X_bestError])) := hN_X
      have hN_Xpicture := (hfr _ (by decide)).trans hN_Xpicture
      have hN_Xhalf := (hfr _ (by decide)).trans hN_Xhalf
      have hN_Xblocks := (hfr _ (by decide)).trans hN_Xblocks
      have hN_Xencoded := (hfr _ (by decide)).trans hN_Xencoded
      have hN_Xpile := (hfr _ (by decide)).trans hN_Xpile
      have hN_Xds := (hfr _ (by decide)).trans hN_Xds
      have hN_Xrs := (hfr _ (by decide)).trans hN_Xrs
      have hN_Xbest := (hfr _ (by decide)).trans hN_Xbest
      have hw := z_fr (by decide) hw hfr
      refine lv_aload_n hx hb d_M_encode_64 rfl (lv_at hl 0 rfl) ?_
      refine lv_iconst (v := 0) hx hb d_M_encode_65 (by decide) ?_
      refine pf_M_120 (v := .int (0 : Int32)) hx hb hts hown hK hP hD hS hN_X rfl rfl (Nat.le_of_ble_eq_true rfl) d_M_encode_66 (fun ws H locs hP hD hS hN_X hfr => ?_)
      have hN_X : zA ws 21 (aX, .inr (7, [.int s0_1076, .int X_side, .ref aXpicture, .ref aXhalf, .int X_many, .ref aXblocks, .int (0 : Int32), .int (0 : Int32), .ref aXencoded, .int X_fedMany, .ref aXfed, .int X_readAt, .int X_why, .int (0 : Int32), .int X_waiting, .ref aXpile, .int X_decoded, .ref aXnews, .ref aXolds, .ref aXhalves, .ref aXds, .ref aXrs, .ref aXbest, .long X_bestError])) := hN_X
      have hN_Xpicture := (hfr _ (by decide)).trans hN_Xpicture
      have hN_Xhalf := (hfr _ (by decide)).trans hN_Xhalf
      have hN_Xblocks := (hfr _ (by decide)).trans hN_Xblocks
      have hN_Xencoded := (hfr _ (by decide)).trans hN_Xencoded
      have hN_Xpile := (hfr _ (by decide)).trans hN_Xpile
      have hN_Xds := (hfr _ (by decide)).trans hN_Xds
      have hN_Xrs := (hfr _ (by decide)).trans hN_Xrs
      have hN_Xbest := (hfr _ (by decide)).trans hN_Xbest
      have hw := z_fr (by decide) hw hfr
      refine lv_aload_n hx hb d_M_encode_69 rfl (lv_at hl 0 rfl) ?_
      refine lv_iconst (v := 0) hx hb d_M_encode_70 (by decide) ?_
      refine pf_M_114 (v := .int (0 : Int32)) hx hb hts hown hK hP hD hS hN_X rfl rfl (Nat.le_of_ble_eq_true rfl) d_M_encode_71 (fun ws H locs hP hD hS hN_X hfr => ?_)
      have hN_X : zA ws 21 (aX, .inr (7, [.int s0_1076, .int X_side, .ref aXpicture, .ref aXhalf, .int X_many, .ref aXblocks, .int (0 : Int32), .int (0 : Int32), .ref aXencoded, .int X_fedMany, .ref aXfed, .int X_readAt, .int X_why, .int (0 : Int32), .int (0 : Int32), .ref aXpile, .int X_decoded, .ref aXnews, .ref aXolds, .ref aXhalves, .ref aXds, .ref aXrs, .ref aXbest, .long X_bestError])) := hN_X
      have hN_Xpicture := (hfr _ (by decide)).trans hN_Xpicture
      have hN_Xhalf := (hfr _ (by decide)).trans hN_Xhalf
      have hN_Xblocks := (hfr _ (by decide)).trans hN_Xblocks
      have hN_Xencoded := (hfr _ (by decide)).trans hN_Xencoded
      have hN_Xpile := (hfr _ (by decide)).trans hN_Xpile
      have hN_Xds := (hfr _ (by decide)).trans hN_Xds
      have hN_Xrs := (hfr _ (by decide)).trans hN_Xrs
      have hN_Xbest := (hfr _ (by decide)).trans hN_Xbest
      have hw := z_fr (by decide) hw hfr
      refine lv_aload_n hx hb d_M_encode_74 rfl (lv_at hl 0 rfl) ?_
      refine lv_iload_n hx hb d_M_encode_75 rfl (lv_at hl 1 rfl) ?_
      refine lv_iconst (v := 2) hx hb d_M_encode_76 (by decide) ?_
      have jp104_1080 : ∀ (s0_1079 : Int32) (ls : Array Slot) (hf : f_M_encode_J104 x1 x2 s0_1076 X_side X_many (0 : Int32) (0 : Int32) (0 : Int32) (0 : Int32) X_bestError Xpicture_n Xpicture_f Xhalf_n q1078 Xblocks_n Xblocks_f Xencoded_n Xencoded_f Xpile_n Xpile_f Xds_n Xds_f Xrs_n Xrs_f Xbest_n Xbest_f s0_1079 = some r) (hl : lv_has ls 7 [(0, .ref aX), (1, .int x1), (2, .int x2)]), W p l e (headSpec w_M_encode rm_M_encode).room s m ([.ref aX, .int x1, .int x2] : List Value).toArray below meth c H locs 0 0 (MQ below (va_Qi (fun (v : Int32) (ws' : va_W) => v = r.1 ∧ zA ws' 21 (aX, .inr (7, [.int r.2.1, .int X_side, .ref aXpicture, .ref aXhalf, .int r.2.2.1, .ref aXblocks, .int r.2.2.2.1, .int r.2.2.2.2.1, .ref aXencoded, .int X_fedMany, .ref aXfed, .int X_readAt, .int X_why, .int r.2.2.2.2.2.1, .int r.2.2.2.2.2.2.1, .ref aXpile, .int X_decoded, .ref aXnews, .ref aXolds, .ref aXhalves, .ref aXds, .ref aXrs, .ref aXbest, .long r.2.2.2.2.2.2.2.1])) ∧ zA ws' 23 (aXhalf, .inl (cI, Xhalf_n, .inl r.2.2.2.2.2.2.2.2.1)) ∧ zA ws' 24 (aXblocks, .inl (cI, Xblocks_n, .inl r.2.2.2.2.2.2.2.2.2.1)) ∧ zA ws' 25 (aXencoded, .inl (cI, Xencoded_n, .inl r.2.2.2.2.2.2.2.2.2.2.1)) ∧ zA ws' 27 (aXpile, .inl (cI, Xpile_n, .inl r.2.2.2.2.2.2.2.2.2.2.2.1)) ∧ zA ws' 31 (aXds, .inl (cI, Xds_n, .inl r.2.2.2.2.2.2.2.2.2.2.2.2.1)) ∧ zA ws' 32 (aXrs, .inl (cI, Xrs_n, .inl r.2.2.2.2.2.2.2.2.2.2.2.2.2.1)) ∧ zA ws' 33 (aXbest, .inl (cI, Xbest_n, .inl r.2.2.2.2.2.2.2.2.2.2.2.2.2.2)) ∧ ∀ (j : Nat), j ∉ ([21, 23, 24, 25, 27, 31, 32, 33] : List Nat) → ws'[j]? = ws0[j]?) (zQ dC dI cI cL A) A) ([.ref aX, .int x1, .int x2] : List Value).toArray s 0 0 A) (F0 m 104 ls [.int s0_1079, .ref aX]) := by
        intro s0_1079 ls hf hl
        unfold f_M_encode_J104 at hf
        refine lv_iconst (v := 3) hx hb d_M_encode_104 (by decide) ?_
        obtain ⟨q1081, hc, hf⟩ := z_b hf
        have hFc := z_free hD hS hA
        refine va_callv (va_runV (As := [.int s0_1079, .int (3 : Int32)]) (rest := []) ⟨hx, hb, hml, hown, hts⟩ (c_M_tell l dC dI cI cL _ s0_1079 (3 : Int32) hN_X hN_Xencoded q1081 hc) (cw_M_137 hts ⟨Nat.le_of_ble_eq_true rfl, Nat.le_of_ble_eq_true rfl⟩) ⟨zbM, va_recv hK hP (ci := 7) rfl hN_X, (zpM hP hK hZ hD)⟩ rfl rfl hl.1 rfl (lv_room (Nat.le_of_ble_eq_true rfl)) d_M_encode_105 ⟨Nat.zero_le _, Nat.zero_le _⟩) hS (fun q _ h => hFc q h) hFc (fun ws t H locs ht hvm hu hB hz1 hk1 hS => ?_)
        obtain ⟨hN_X, hN_Xencoded, hfr⟩ := hu
        obtain ⟨hP, -, hD1⟩ := hB
        rw [ht] at hP
        have hD := hD1.weaken (fun _ _ _ h => hFc _ h)
        have hN_X : zA ws 21 (aX, .inr (7, [.int s0_1076, .int X_side, .ref aXpicture, .ref aXhalf, .int X_many, .ref aXblocks, .int (0 : Int32), .int q1081.1, .ref aXencoded, .int X_fedMany, .ref aXfed, .int X_readAt, .int X_why, .int (0 : Int32), .int (0 : Int32), .ref aXpile, .int X_decoded, .ref aXnews, .ref aXolds, .ref aXhalves, .ref aXds, .ref aXrs, .ref aXbest, .long X_bestError])) := hN_X
        have hN_Xencoded : zA ws 25 (aXencoded, .inl (cI, Xencoded_n, .inl q1081.2)) := hN_Xencoded
        have hN_Xpicture := (hfr _ (by decide)).trans hN_Xpicture
        have hN_Xhalf := (hfr _ (by decide)).trans hN_Xhalf
        have hN_Xblocks := (hfr _ (by decide)).trans hN_Xblocks
        have hN_Xpile := (hfr _ (by decide)).trans hN_Xpile
        have hN_Xds := (hfr _ (by decide)).trans hN_Xds
        have hN_Xrs := (hfr _ (by decide)).trans hN_Xrs
        have hN_Xbest := (hfr _ (by decide)).trans hN_Xbest
        have hw := z_frC (by decide) hw hfr
        refine lv_aload_n hx hb d_M_encode_108 rfl (lv_at hl 0 rfl) ?_
        refine lv_iconst (v := 0) hx hb d_M_encode_109 (by decide) ?_
        refine lv_iconst (v := 0) hx hb d_M_encode_110 (by decide) ?_
        refine lv_aload_n hx hb d_M_encode_111 rfl (lv_at hl 0 rfl) ?_
        refine gf_M_46 (v := .int X_side) hx hb hts hown hK hP hN_X rfl d_M_encode_112 ?_
        obtain ⟨q1082, hc, hf⟩ := z_b hf
        have hFc := z_free hD hS hA
        refine va_callv (va_runV (As := [.int (0 : Int32), .int (0 : Int32), .int X_side]) (rest := []) ⟨hx, hb, hml, hown, hts⟩ (c_M_pileQuarters l dC dI cI cL _ (0 : Int32) (0 : Int32) X_side hN_X hN_Xpile q1082 hc) (cw_M_141 hts ⟨Nat.le_of_ble_eq_true rfl, Nat.le_of_ble_eq_true rfl⟩) ⟨zbM, va_recv hK hP (ci := 7) rfl hN_X, (zpM hP hK hZ hD)⟩ rfl rfl hl.1 rfl (lv_room (Nat.le_of_ble_eq_true rfl)) d_M_encode_115 ⟨Nat.zero_le _, Nat.zero_le _⟩) hS (fun q _ h => hFc q h) hFc (fun ws t H locs ht hvm hu hB hz1 hk1 hS => ?_)
        obtain ⟨hN_X, hN_Xpile, hfr⟩ := hu
        obtain ⟨hP, -, hD1⟩ := hB
        rw [ht] at hP
        have hD := hD1.weaken (fun _ _ _ h => hFc _ h)
        have hN_X : zA ws 21 (aX, .inr (7, [.int s0_1076, .int X_side, .ref aXpicture, .ref aXhalf, .int X_many, .ref aXblocks, .int (0 : Int32), .int q1081.1, .ref aXencoded, .int X_fedMany, .ref aXfed, .int X_readAt, .int X_why, .int (0 : Int32), .int q1082.1, .ref aXpile, .int X_decoded, .ref aXnews, .ref aXolds, .ref aXhalves, .ref aXds, .ref aXrs, .ref aXbest, .long X_bestError])) := hN_X
        have hN_Xpile : zA ws 27 (aXpile, .inl (cI, Xpile_n, .inl q1082.2)) := hN_Xpile
        have hN_Xpicture := (hfr _ (by decide)).trans hN_Xpicture
        have hN_Xhalf := (hfr _ (by decide)).trans hN_Xhalf
        have hN_Xblocks := (hfr _ (by decide)).trans hN_Xblocks
        have hN_Xencoded := (hfr _ (by decide)).trans hN_Xencoded
        have hN_Xds := (hfr _ (by decide)).trans hN_Xds
        have hN_Xrs := (hfr _ (by decide)).trans hN_Xrs
        have hN_Xbest := (hfr _ (by decide)).trans hN_Xbest
        have hw := z_frC (by decide) hw hfr
        have lp1095 : ∀ (Qx : State → Prop) (n : Nat) (X_found_1084 : Int32) (X_encodedBits_1085 : Int32) (X_tried_1086 : Int32) (X_waiting_1087 : Int32) (X_bestError_1088 : Int64) (Xblocks_f_1089 : Nat → Int32) (Xencoded_f_1090 : Nat → Int32) (Xpile_f_1091 : Nat → Int32) (Xds_f_1092 : Nat → Int32) (Xrs_f_1093 : Nat → Int32) (Xbest_f_1094 : Nat → Int32) (ws : va_W) (H : Heap) (locs : List Loc) (ls : Array Slot) (q : Int32 × Int32 × Int32 × Int32 × Int64 × (Nat → Int32) × (Nat → Int32) × (Nat → Int32) × (Nat → Int32) × (Nat → Int32) × (Nat → Int32)) (hf : f_M_encode_118 x1 x2 X_side Xpicture_n Xpicture_f Xhalf_n q1078 Xblocks_n Xencoded_n Xpile_n Xds_n Xrs_n Xbest_n n X_found_1084 X_encodedBits_1085 X_tried_1086 X_waiting_1087 X_bestError_1088 Xblocks_f_1089 Xencoded_f_1090 Xpile_f_1091 Xds_f_1092 Xrs_f_1093 Xbest_f_1094 = some q) (hl : lv_has ls 7 [(0, .ref aX), (1, .int x1), (2, .int x2)]) (hP : va_P (dC, dI) classes ws H) (hD : va_D A ws) (hS : va_S A s.heap H locs) (hN_X : zA ws 21 (aX, .inr (7, [.int s0_1076, .int X_side, .ref aXpicture, .ref aXhalf, .int X_many, .ref aXblocks, .int X_found_1084, .int X_encodedBits_1085, .ref aXencoded, .int X_fedMany, .ref aXfed, .int X_readAt, .int X_why, .int X_tried_1086, .int X_waiting_1087, .ref aXpile, .int X_decoded, .ref aXnews, .ref aXolds, .ref aXhalves, .ref aXds, .ref aXrs, .ref aXbest, .long X_bestError_1088]))) (hN_Xpicture : zA ws 22 (aXpicture, .inl (cI, Xpicture_n, .inl Xpicture_f))) (hN_Xhalf : zA ws 23 (aXhalf, .inl (cI, Xhalf_n, .inl q1078))) (hN_Xblocks : zA ws 24 (aXblocks, .inl (cI, Xblocks_n, .inl Xblocks_f_1089))) (hN_Xencoded : zA ws 25 (aXencoded, .inl (cI, Xencoded_n, .inl Xencoded_f_1090))) (hN_Xpile : zA ws 27 (aXpile, .inl (cI, Xpile_n, .inl Xpile_f_1091))) (hN_Xds : zA ws 31 (aXds, .inl (cI, Xds_n, .inl Xds_f_1092))) (hN_Xrs : zA ws 32 (aXrs, .inl (cI, Xrs_n, .inl Xrs_f_1093))) (hN_Xbest : zA ws 33 (aXbest, .inl (cI, Xbest_n, .inl Xbest_f_1094))) (hw : ∀ (j : Nat), j ∉ ([21, 23, 24, 25, 27, 31, 32, 33] : List Nat) → ws[j]? = ws0[j]?) (kt0 : ∀ (ws : va_W) (H : Heap) (locs : List Loc) (ls : Array Slot), lv_has ls 7 [(0, .ref aX), (1, .int x1), (2, .int x2)] → (va_P (dC, dI) classes ws H) → (va_D A ws) → (va_S A s.heap H locs) → (zA ws 21 (aX, .inr (7, [.int s0_1076, .int X_side, .ref aXpicture, .ref aXhalf, .int X_many, .ref aXblocks, .int q.1, .int q.2.1, .ref aXencoded, .int X_fedMany, .ref aXfed, .int X_readAt, .int X_why, .int q.2.2.1, .int q.2.2.2.1, .ref aXpile, .int X_decoded, .ref aXnews, .ref aXolds, .ref aXhalves, .ref aXds, .ref aXrs, .ref aXbest, .long q.2.2.2.2.1]))) → (zA ws 22 (aXpicture, .inl (cI, Xpicture_n, .inl Xpicture_f))) → (zA ws 23 (aXhalf, .inl (cI, Xhalf_n, .inl q1078))) → (zA ws 24 (aXblocks, .inl (cI, Xblocks_n, .inl q.2.2.2.2.2.1))) → (zA ws 25 (aXencoded, .inl (cI, Xencoded_n, .inl q.2.2.2.2.2.2.1))) → (zA ws 27 (aXpile, .inl (cI, Xpile_n, .inl q.2.2.2.2.2.2.2.1))) → (zA ws 31 (aXds, .inl (cI, Xds_n, .inl q.2.2.2.2.2.2.2.2.1))) → (zA ws 32 (aXrs, .inl (cI, Xrs_n, .inl q.2.2.2.2.2.2.2.2.2.1))) → (zA ws 33 (aXbest, .inl (cI, Xbest_n, .inl q.2.2.2.2.2.2.2.2.2.2))) → (∀ (j : Nat), j ∉ ([21, 23, 24, 25, 27, 31, 32, 33] : List Nat) → ws[j]? = ws0[j]?) → W p l e (headSpec w_M_encode rm_M_encode).room s m ([.ref aX, .int x1, .int x2] : List Value).toArray below meth c H locs 0 0 Qx (F0 m 321 ls [])), W p l e (headSpec w_M_encode rm_M_encode).room s m ([.ref aX, .int x1, .int x2] : List Value).toArray below meth c H locs 0 0 Qx (F0 m 118 ls []) := by
          intro Qx n
          induction n with
          | zero => intro X_found_1084 X_encodedBits_1085 X_tried_1086 X_waiting_1087 X_bestError_1088 Xblocks_f_1089 Xencoded_f_1090 Xpile_f_1091 Xds_f_1092 Xrs_f_1093 Xbest_f_1094 ws H locs ls q hf; cases hf
          | succ n ih =>
            intro X_found_1084 X_encodedBits_1085 X_tried_1086 X_waiting_1087 X_bestError_1088 Xblocks_f_1089 Xencoded_f_1090 Xpile_f_1091 Xds_f_1092 Xrs_f_1093 Xbest_f_1094 ws H locs ls q hf hl hP hD hS hN_X hN_Xpicture hN_Xhalf hN_Xblocks hN_Xencoded hN_Xpile hN_Xds hN_Xrs hN_Xbest hw kt0
            rw [f_M_encode_118] at hf
            refine lv_aload_n hx hb d_M_encode_118 rfl (lv_at hl 0 rfl) ?_
            refine gf_M_114 (v := .int X_waiting_1087) hx hb hts hown hK hP hN_X rfl d_M_encode_119 ?_
            refine lv_if_le (tgt := 321) hx hb d_M_encode_122 (by decide) (fun hc => ?_) (fun hc => ?_)
            · have hf := z_t hc hf
              obtain rfl := Option.some.inj hf
              exact kt0 _ _ _ ls (lv_sub hl [0, 1, 2] rfl) hP hD hS hN_X hN_Xpicture hN_Xhalf hN_Xblocks hN_Xencoded hN_Xpile hN_Xds hN_Xrs hN_Xbest hw
            · have hf := z_f hc hf
              refine lv_aload_n hx hb d_M_encode_125 rfl (lv_at hl 0 rfl) ?_
              refine lv_dup hx hb d_M_encode_126 rfl ?_
              refine gf_M_114 (v := .int X_waiting_1087) hx hb hts hown hK hP hN_X rfl d_M_encode_127 ?_
              refine lv_iconst (v := 1) hx hb d_M_encode_130 (by decide) ?_
              refine lv_isub hx hb d_M_encode_131 ?_
              refine pf_M_114 (v := .int (X_waiting_1087 - (1 : Int32))) hx hb hts hown hK hP hD hS hN_X rfl rfl (Nat.le_of_ble_eq_true rfl) d_M_encode_132 (fun ws H locs hP hD hS hN_X hfr => ?_)
              have hN_X : zA ws 21 (aX, .inr (7, [.int s0_1076, .int X_side, .ref aXpicture, .ref aXhalf, .int X_many, .ref aXblocks, .int X_found_1084, .int X_encodedBits_1085, .ref aXencoded, .int X_fedMany, .ref aXfed, .int X_readAt, .int X_why, .int X_tried_1086, .int (X_waiting_1087 - (1 : Int32)), .ref aXpile, .int X_decoded, .ref aXnews, .ref aXolds, .ref aXhalves, .ref aXds, .ref aXrs, .ref aXbest, .long X_bestError_1088])) := hN_X
              have hN_Xpicture := (hfr _ (by decide)).trans hN_Xpicture
              have hN_Xhalf := (hfr _ (by decide)).trans hN_Xhalf
              have hN_Xblocks := (hfr _ (by decide)).trans hN_Xblocks
              have hN_Xencoded := (hfr _ (by decide)).trans hN_Xencoded
              have hN_Xpile := (hfr _ (by decide)).trans hN_Xpile
              have hN_Xds := (hfr _ (by decide)).trans hN_Xds
              have hN_Xrs := (hfr _ (by decide)).trans hN_Xrs
              have hN_Xbest := (hfr _ (by decide)).trans hN_Xbest
              have hw := z_fr (by decide) hw hfr
              refine lv_aload_n hx hb d_M_encode_135 rfl (lv_at hl 0 rfl) ?_
              refine gf_M_25 (v := .ref aXpile) hx hb hts hown hK hP hN_X rfl d_M_encode_136 ?_
              refine lv_iconst (v := 3) hx hb d_M_encode_139 (by decide) ?_
              refine lv_aload_n hx hb d_M_encode_140 rfl (lv_at hl 0 rfl) ?_
              refine gf_M_114 (v := .int (X_waiting_1087 - (1 : Int32))) hx hb hts hown hK hP hN_X rfl d_M_encode_141 ?_
              refine lv_imul hx hb d_M_encode_144 ?_
              obtain ⟨hin, hf⟩ := z_no hf
              refine va_iald hx hb hK hP _ 0 hN_Xpile rfl hin d_M_encode_145 ?_
              refine lv_istore_n (lv' := [(3, .int (Xpile_f_1091 ((3 : Int32) * (X_waiting_1087 - (1 : Int32))).toNatClampNeg)), (0, .ref aX), (1, .int x1), (2, .int x2)]) hx hb d_M_encode_146 rfl hl (by decide) rfl (fun ls hl => ?_)
              refine lv_aload_n hx hb d_M_encode_147 rfl (lv_at hl 1 rfl) ?_
              refine gf_M_25 (v := .ref aXpile) hx hb hts hown hK hP hN_X rfl d_M_encode_148 ?_
              refine lv_iconst (v := 3) hx hb d_M_encode_151 (by decide) ?_
              refine lv_aload_n hx hb d_M_encode_152 rfl (lv_at hl 1 rfl) ?_
              refine gf_M_114 (v := .int (X_waiting_1087 - (1 : Int32))) hx hb hts hown hK hP hN_X rfl d_M_encode_153 ?_
              refine lv_imul hx hb d_M_encode_156 ?_
              refine lv_iconst (v := 1) hx hb d_M_encode_157 (by decide) ?_
              refine lv_iadd hx hb d_M_encode_158 ?_
              obtain ⟨hin, hf⟩ := z_no hf
              refine va_iald hx hb hK hP _ 0 hN_Xpile rfl hin d_M_encode_159 ?_
              refine lv_istore (lv' := [(4, .int (Xpile_f_1091 (((3 : Int32) * (X_waiting_1087 - (1 : Int32))) + (1 : Int32)).toNatClampNeg)), (3, .int (Xpile_f_1091 ((3 : Int32) * (X_waiting_1087 - (1 : Int32))).toNatClampNeg)), (0, .ref aX), (1, .int x1), (2, .int x2)]) hx hb d_M_encode_160 hl (by decide) rfl (fun ls hl => ?_)
              refine lv_aload_n hx hb d_M_encode_162 rfl (lv_at hl 2 rfl) ?_
              refine gf_M_25 (v := .ref aXpile) hx hb hts hown hK hP hN_X rfl d_M_encode_163 ?_
              refine lv_iconst (v := 3) hx hb d_M_encode_166 (by decide) ?_
              refine lv_aload_n hx hb d_M_encode_167 rfl (lv_at hl 2 rfl) ?_
              refine gf_M_114 (v := .int (X_waiting_1087 - (1 : Int32))) hx hb hts hown hK hP hN_X rfl d_M_encode_168 ?_
              refine lv_imul hx hb d_M_encode_171 ?_
              refine lv_iconst (v := 2) hx hb d_M_encode_172 (by decide) ?_
              refine lv_iadd hx hb d_M_encode_173 ?_
              obtain ⟨hin, hf⟩ := z_no hf
              refine va_iald hx hb hK hP _ 0 hN_Xpile rfl hin d_M_encode_174 ?_
              refine lv_istore (lv' := [(5, .int (Xpile_f_1091 (((3 : Int32) * (X_waiting_1087 - (1 : Int32))) + (2 : Int32)).toNatClampNeg)), (4, .int (Xpile_f_1091 (((3 : Int32) * (X_waiting_1087 - (1 : Int32))) + (1 : Int32)).toNatClampNeg)), (3, .int (Xpile_f_1091 ((3 : Int32) * (X_waiting_1087 - (1 : Int32))).toNatClampNeg)), (0, .ref aX), (1, .int x1), (2, .int x2)]) hx hb d_M_encode_175 hl (by decide) rfl (fun ls hl => ?_)
              refine lv_aload_n hx hb d_M_encode_177 rfl (lv_at hl 3 rfl) ?_
              refine lv_iload_n hx hb d_M_encode_178 rfl (lv_at hl 2 rfl) ?_
              refine lv_iload hx hb d_M_encode_179 (lv_at hl 1 rfl) ?_
              refine lv_iload hx hb d_M_encode_181 (lv_at hl 0 rfl) ?_
              obtain ⟨q1096, hc, hf⟩ := z_b hf
              have hFc := z_free hD hS hA
              refine va_callv (va_runV (As := [.int (Xpile_f_1091 ((3 : Int32) * (X_waiting_1087 - (1 : Int32))).toNatClampNeg), .int (Xpile_f_1091 (((3 : Int32) * (X_waiting_1087 - (1 : Int32))) + (1 : Int32)).toNatClampNeg), .int (Xpile_f_1091 (((3 : Int32) * (X_waiting_1087 - (1 : Int32))) + (2 : Int32)).toNatClampNeg)]) (rest := []) ⟨hx, hb, hml, hown, hts⟩ (c_M_search l dC dI cI cL _ (Xpile_f_1091 ((3 : Int32) * (X_waiting_1087 - (1 : Int32))).toNatClampNeg) (Xpile_f_1091 (((3 : Int32) * (X_waiting_1087 - (1 : Int32))) + (1 : Int32)).toNatClampNeg) (Xpile_f_1091 (((3 : Int32) * (X_waiting_1087 - (1 : Int32))) + (2 : Int32)).toNatClampNeg) hN_X hN_Xpicture hN_Xhalf hN_Xds hN_Xrs hN_Xbest q1096 hc) (cw_M_144 hts ⟨Nat.le_of_ble_eq_true rfl, Nat.le_of_ble_eq_true rfl⟩) ⟨zbM, va_recv hK hP (ci := 7) rfl hN_X, (zpM hP hK hZ hD)⟩ rfl rfl hl.1 rfl (lv_room (Nat.le_of_ble_eq_true rfl)) d_M_encode_183 ⟨Nat.zero_le _, Nat.zero_le _⟩) hS (fun q _ h => hFc q h) hFc (fun ws t H locs ht hvm hu hB hz1 hk1 hS => ?_)
              obtain ⟨hN_X, hN_Xds, hN_Xrs, hN_Xbest, hfr⟩ := hu
              obtain ⟨hP, -, hD1⟩ := hB
              rw [ht] at hP
              have hD := hD1.weaken (fun _ _ _ h => hFc _ h)
              have hN_X : zA ws 21 (aX, .inr (7, [.int s0_1076, .int X_side, .ref aXpicture, .ref aXhalf, .int X_many, .ref aXblocks, .int X_found_1084, .int X_encodedBits_1085, .ref aXencoded, .int X_fedMany, .ref aXfed, .int X_readAt, .int X_why, .int q1096.1, .int (X_waiting_1087 - (1 : Int32)), .ref aXpile, .int X_decoded, .ref aXnews, .ref aXolds, .ref aXhalves, .ref aXds, .ref aXrs, .ref aXbest, .long q1096.2.1])) := hN_X
              have hN_Xds : zA ws 31 (aXds, .inl (cI, Xds_n, .inl q1096.2.2.1)) := hN_Xds
              have hN_Xrs : zA ws 32 (aXrs, .inl (cI, Xrs_n, .inl q1096.2.2.2.1)) := hN_Xrs
              have hN_Xbest : zA ws 33 (aXbest, .inl (cI, Xbest_n, .inl q1096.2.2.2.2)) := hN_Xbest
              have hN_Xpicture := (hfr _ (by decide)).trans hN_Xpicture
              have hN_Xhalf := (hfr _ (by decide)).trans hN_Xhalf
              have hN_Xblocks := (hfr _ (by decide)).trans hN_Xblocks
              have hN_Xencoded := (hfr _ (by decide)).trans hN_Xencoded
              have hN_Xpile := (hfr _ (by decide)).trans hN_Xpile
              have hw := z_frC (by decide) hw hfr
              refine lv_iload hx hb d_M_encode_186 (lv_at hl 0 rfl) ?_
              refine lv_iload_n hx hb d_M_encode_188 rfl (lv_at hl 4 rfl) ?_
              have jp207_1098 : ∀ (s0_1097 : Int32) (ls : Array Slot) (hf : f_M_encode_J207 (fun (a0 : Int32) (a1 : Int32) (a2 : Int32) (a3 : Int32) (a4 : Int64) (a5 : Nat → Int32) (a6 : Nat → Int32) (a7 : Nat → Int32) (a8 : Nat → Int32) (a9 : Nat → Int32) (a10 : Nat → Int32) => f_M_encode_118 x1 x2 X_side Xpicture_n Xpicture_f Xhalf_n q1078 Xblocks_n Xencoded_n Xpile_n Xds_n Xrs_n Xbest_n n a0 a1 a2 a3 a4 a5 a6 a7 a8 a9 a10) x1 x2 (Xpile_f_1091 ((3 : Int32) * (X_waiting_1087 - (1 : Int32))).toNatClampNeg) (Xpile_f_1091 (((3 : Int32) * (X_waiting_1087 - (1 : Int32))) + (1 : Int32)).toNatClampNeg) (Xpile_f_1091 (((3 : Int32) * (X_waiting_1087 - (1 : Int32))) + (2 : Int32)).toNatClampNeg) X_side X_found_1084 X_encodedBits_1085 q1096.1 (X_waiting_1087 - (1 : Int32)) q1096.2.1 Xblocks_n Xblocks_f_1089 Xencoded_n Xencoded_f_1090 Xpile_n Xpile_f_1091 q1096.2.2.1 q1096.2.2.2.1 Xbest_n q1096.2.2.2.2 s0_1097 = some q) (hl : lv_has ls 7 [(0, .ref aX), (1, .int x1), (2, .int x2), (3, .int (Xpile_f_1091 ((3 : Int32) * (X_waiting_1087 - (1 : Int32))).toNatClampNeg)), (4, .int (Xpile_f_1091 (((3 : Int32) * (X_waiting_1087 - (1 : Int32))) + (1 : Int32)).toNatClampNeg)), (5, .int (Xpile_f_1091 (((3 : Int32) * (X_waiting_1087 - (1 : Int32))) + (2 : Int32)).toNatClampNeg))]), W p l e (headSpec w_M_encode rm_M_encode).room s m ([.ref aX, .int x1, .int x2] : List Value).toArray below meth c H locs 0 0 Qx (F0 m 207 ls [.int s0_1097]) := by
                intro s0_1097 ls hf hl
                unfold f_M_encode_J207 at hf
                refine lv_istore (lv' := [(6, .int s0_1097), (0, .ref aX), (1, .int x1), (2, .int x2), (3, .int (Xpile_f_1091 ((3 : Int32) * (X_waiting_1087 - (1 : Int32))).toNatClampNeg)), (4, .int (Xpile_f_1091 (((3 : Int32) * (X_waiting_1087 - (1 : Int32))) + (1 : Int32)).toNatClampNeg)), (5, .int (Xpile_f_1091 (((3 : Int32) * (X_waiting_1087 - (1 : Int32))) + (2 : Int32)).toNatClampNeg))]) hx hb d_M_encode_207 hl (by decide) rfl (fun ls hl => ?_)
                refine lv_iload hx hb d_M_encode_209 (lv_at hl 6 rfl) ?_
                refine lv_iload_n hx hb d_M_encode_211 rfl (lv_at hl 2 rfl) ?_
                have jp230_1101 : ∀ (X_encodedBits_1099 : Int32) (Xencoded_f_1100 : Nat → Int32) (ws : va_W) (H : Heap) (locs : List Loc) (ls : Array Slot) (hf : f_M_encode_J230 (fun (a0 : Int32) (a1 : Int32) (a2 : Int32) (a3 : Int32) (a4 : Int64) (a5 : Nat → Int32) (a6 : Nat → Int32) (a7 : Nat → Int32) (a8 : Nat → Int32) (a9 : Nat → Int32) (a10 : Nat → Int32) => f_M_encode_118 x1 x2 X_side Xpicture_n Xpicture_f Xhalf_n q1078 Xblocks_n Xencoded_n Xpile_n Xds_n Xrs_n Xbest_n n a0 a1 a2 a3 a4 a5 a6 a7 a8 a9 a10) x1 x2 (Xpile_f_1091 ((3 : Int32) * (X_waiting_1087 - (1 : Int32))).toNatClampNeg) (Xpile_f_1091 (((3 : Int32) * (X_waiting_1087 - (1 : Int32))) + (1 : Int32)).toNatClampNeg) (Xpile_f_1091 (((3 : Int32) * (X_waiting_1087 - (1 : Int32))) + (2 : Int32)).toNatClampNeg) s0_1097 X_side X_found_1084 X_encodedBits_1099 q1096.1 (X_waiting_1087 - (1 : Int32)) q1096.2.1 Xblocks_n Xblocks_f_1089 Xencoded_n Xencoded_f_1100 Xpile_n Xpile_f_1091 q1096.2.2.1 q1096.2.2.2.1 Xbest_n q1096.2.2.2.2 = some q) (hl : lv_has ls 7 [(0, .ref aX), (1, .int x1), (2, .int x2), (3, .int (Xpile_f_1091 ((3 : Int32) * (X_waiting_1087 - (1 : Int32))).toNatClampNeg)), (4, .int (Xpile_f_1091 (((3 : Int32) * (X_waiting_1087 - (1 : Int32))) + (1 : Int32)).toNatClampNeg)), (5, .int (Xpile_f_1091 (((3 : Int32) * (X_waiting_1087 - (1 : Int32))) + (2 : Int32)).toNatClampNeg)), (6, .int s0_1097)]) (hP : va_P (dC, dI) classes ws H) (hD : va_D A ws) (hS : va_S A s.heap H locs) (hN_X : zA ws 21 (aX, .inr (7, [.int s0_1076, .int X_side, .ref aXpicture, .ref aXhalf, .int X_many, .ref aXblocks, .int X_found_1084, .int X_encodedBits_1099, .ref aXencoded, .int X_fedMany, .ref aXfed, .int X_readAt, .int X_why, .int q1096.1, .int (X_waiting_1087 - (1 : Int32)), .ref aXpile, .int X_decoded, .ref aXnews, .ref aXolds, .ref aXhalves, .ref aXds, .ref aXrs, .ref aXbest, .long q1096.2.1]))) (hN_Xpicture : zA ws 22 (aXpicture, .inl (cI, Xpicture_n, .inl Xpicture_f))) (hN_Xhalf : zA ws 23 (aXhalf, .inl (cI, Xhalf_n, .inl q1078))) (hN_Xblocks : zA ws 24 (aXblocks, .inl (cI, Xblocks_n, .inl Xblocks_f_1089))) (hN_Xencoded : zA ws 25 (aXencoded, .inl (cI, Xencoded_n, .inl Xencoded_f_1100))) (hN_Xpile : zA ws 27 (aXpile, .inl (cI, Xpile_n, .inl Xpile_f_1091))) (hN_Xds : zA ws 31 (aXds, .inl (cI, Xds_n, .inl q1096.2.2.1))) (hN_Xrs : zA ws 32 (aXrs, .inl (cI, Xrs_n, .inl q1096.2.2.2.1))) (hN_Xbest : zA ws 33 (aXbest, .inl (cI, Xbest_n, .inl q1096.2.2.2.2))) (hw : ∀ (j : Nat), j ∉ ([21, 23, 24, 25, 27, 31, 32, 33] : List Nat) → ws[j]? = ws0[j]?), W p l e (headSpec w_M_encode rm_M_encode).room s m ([.ref aX, .int x1, .int x2] : List Value).toArray below meth c H locs 0 0 Qx (F0 m 230 ls []) := by
                  intro X_encodedBits_1099 Xencoded_f_1100 ws H locs ls hf hl hP hD hS hN_X hN_Xpicture hN_Xhalf hN_Xblocks hN_Xencoded hN_Xpile hN_Xds hN_Xrs hN_Xbest hw
                  unfold f_M_encode_J230 at hf
                  refine lv_iload hx hb d_M_encode_230 (lv_at hl 6 rfl) ?_
                  refine lv_if_eq (tgt := 247) hx hb d_M_encode_232 (by decide) (fun hc => ?_) (fun hc => ?_)
                  · have hf := z_t hc hf
                    refine lv_aload_n hx hb d_M_encode_247 rfl (lv_at hl 0 rfl) ?_
                    refine lv_iload_n hx hb d_M_encode_248 rfl (lv_at hl 3 rfl) ?_
                    refine lv_iload hx hb d_M_encode_249 (lv_at hl 4 rfl) ?_
                    refine lv_iload hx hb d_M_encode_251 (lv_at hl 5 rfl) ?_
                    refine lv_aload_n hx hb d_M_encode_253 rfl (lv_at hl 0 rfl) ?_
                    refine gf_M_91 (v := .long q1096.2.1) hx hb hts hown hK hP hN_X rfl d_M_encode_254 ?_
                    refine lv_l2i hx hb d_M_encode_257 rfl ?_
                    obtain ⟨q1102, hc, hf⟩ := z_b hf
                    have hFc := z_free hD hS hA
                    refine va_callv (va_runV (As := [.int (Xpile_f_1091 ((3 : Int32) * (X_waiting_1087 - (1 : Int32))).toNatClampNeg), .int (Xpile_f_1091 (((3 : Int32) * (X_waiting_1087 - (1 : Int32))) + (1 : Int32)).toNatClampNeg), .int (Xpile_f_1091 (((3 : Int32) * (X_waiting_1087 - (1 : Int32))) + (2 : Int32)).toNatClampNeg), .int q1096.2.1.toInt32]) (rest := []) ⟨hx, hb, hml, hown, hts⟩ (c_M_note l dC dI cI cL _ (Xpile_f_1091 ((3 : Int32) * (X_waiting_1087 - (1 : Int32))).toNatClampNeg) (Xpile_f_1091 (((3 : Int32) * (X_waiting_1087 - (1 : Int32))) + (1 : Int32)).toNatClampNeg) (Xpile_f_1091 (((3 : Int32) * (X_waiting_1087 - (1 : Int32))) + (2 : Int32)).toNatClampNeg) q1096.2.1.toInt32 hN_X hN_Xblocks hN_Xbest q1102 hc) (cw_M_147 hts ⟨Nat.le_of_ble_eq_true rfl, Nat.le_of_ble_eq_true rfl⟩) ⟨zbM, va_recv hK hP (ci := 7) rfl hN_X, (zpM hP hK hZ hD)⟩ rfl rfl hl.1 rfl (lv_room (Nat.le_of_ble_eq_true rfl)) d_M_encode_258 ⟨Nat.zero_le _, Nat.zero_le _⟩) hS (fun q _ h => hFc q h) hFc (fun ws t H locs ht hvm hu hB hz1 hk1 hS => ?_)
                    obtain ⟨hN_X, hN_Xblocks, hfr⟩ := hu
                    obtain ⟨hP, -, hD1⟩ := hB
                    rw [ht] at hP
                    have hD := hD1.weaken (fun _ _ _ h => hFc _ h)
                    have hN_X : zA ws 21 (aX, .inr (7, [.int s0_1076, .int X_side, .ref aXpicture, .ref aXhalf, .int X_many, .ref aXblocks, .int q1102.1, .int X_encodedBits_1099, .ref aXencoded, .int X_fedMany, .ref aXfed, .int X_readAt, .int X_why, .int q1096.1, .int (X_waiting_1087 - (1 : Int32)), .ref aXpile, .int X_decoded, .ref aXnews, .ref aXolds, .ref aXhalves, .ref aXds, .ref aXrs, .ref aXbest, .long q1096.2.1])) := hN_X
                    have hN_Xblocks : zA ws 24 (aXblocks, .inl (cI, Xblocks_n, .inl q1102.2)) := hN_Xblocks
                    have hN_Xpicture := (hfr _ (by decide)).trans hN_Xpicture
                    have hN_Xhalf := (hfr _ (by decide)).trans hN_Xhalf
                    have hN_Xencoded := (hfr _ (by decide)).trans hN_Xencoded
                    have hN_Xpile := (hfr _ (by decide)).trans hN_Xpile
                    have hN_Xds := (hfr _ (by decide)).trans hN_Xds
                    have hN_Xrs := (hfr _ (by decide)).trans hN_Xrs
                    have hN_Xbest := (hfr _ (by decide)).trans hN_Xbest
                    have hw := z_frC (by decide) hw hfr
                    refine lv_aload_n hx hb d_M_encode_261 rfl (lv_at hl 0 rfl) ?_
                    refine lv_aload_n hx hb d_M_encode_262 rfl (lv_at hl 0 rfl) ?_
                    refine gf_M_43 (v := .ref aXbest) hx hb hts hown hK hP hN_X rfl d_M_encode_263 ?_
                    refine lv_iconst (v := 0) hx hb d_M_encode_266 (by decide) ?_
                    obtain ⟨hin, hf⟩ := z_no hf
                    refine va_iald hx hb hK hP _ 0 hN_Xbest rfl hin d_M_encode_267 ?_
                    refine lv_aload_n hx hb d_M_encode_268 rfl (lv_at hl 0 rfl) ?_
                    refine lv_iload hx hb d_M_encode_269 (lv_at hl 5 rfl) ?_
                    obtain ⟨q1103, hc, hf⟩ := z_b hf
                    refine vp_callSi (z_cr (va_runV (As := [.int (Xpile_f_1091 (((3 : Int32) * (X_waiting_1087 - (1 : Int32))) + (2 : Int32)).toNatClampNeg)]) (rest := [.int (q1096.2.2.2.2 (0 : Int32).toNatClampNeg), .ref aX]) ⟨hx, hb, hml, hown, hts⟩ (c_M_bitsFor l dC dI cI cL (Xpile_f_1091 (((3 : Int32) * (X_waiting_1087 - (1 : Int32))) + (2 : Int32)).toNatClampNeg) hN_X q1103 hc) (cw_M_151 hts ⟨Nat.le_of_ble_eq_true rfl, Nat.le_of_ble_eq_true rfl⟩) ⟨zbR, va_recv hK hP (ci := 7) rfl hN_X, (zpR hP hK hZ)⟩ rfl rfl hl.1 rfl (lv_room (Nat.le_of_ble_eq_true rfl)) d_M_encode_271 ⟨Nat.zero_le _, Nat.zero_le _⟩)) (fun r1104 hv => ?_)
                    have hv := hv.symm
                    subst hv
                    obtain ⟨q1105, hc, hf⟩ := z_b hf
                    have hFc := z_free hD hS hA
                    refine va_callv (va_runV (As := [.int (q1096.2.2.2.2 (0 : Int32).toNatClampNeg), .int q1103]) (rest := []) ⟨hx, hb, hml, hown, hts⟩ (c_M_tell l dC dI cI cL _ (q1096.2.2.2.2 (0 : Int32).toNatClampNeg) q1103 hN_X hN_Xencoded q1105 hc) (cw_M_137 hts ⟨Nat.le_of_ble_eq_true rfl, Nat.le_of_ble_eq_true rfl⟩) ⟨zbM, va_recv hK hP (ci := 7) rfl hN_X, (zpM hP hK hZ hD)⟩ rfl rfl hl.1 rfl (lv_room (Nat.le_of_ble_eq_true rfl)) d_M_encode_274 ⟨Nat.zero_le _, Nat.zero_le _⟩) hS (fun q _ h => hFc q h) hFc (fun ws t H locs ht hvm hu hB hz1 hk1 hS => ?_)
                    obtain ⟨hN_X, hN_Xencoded, hfr⟩ := hu
                    obtain ⟨hP, -, hD1⟩ := hB
                    rw [ht] at hP
                    have hD := hD1.weaken (fun _ _ _ h => hFc _ h)
                    have hN_X : zA ws 21 (aX, .inr (7, [.int s0_1076, .int X_side, .ref aXpicture, .ref aXhalf, .int X_many, .ref aXblocks, .int q1102.1, .int q1105.1, .ref aXencoded, .int X_fedMany, .ref aXfed, .int X_readAt, .int X_why, .int q1096.1, .int (X_waiting_1087 - (1 : Int32)), .ref aXpile, .int X_decoded, .ref aXnews, .ref aXolds, .ref aXhalves, .ref aXds, .ref aXrs, .ref aXbest, .long q1096.2.1])) := hN_X
                    have hN_Xencoded : zA ws 25 (aXencoded, .inl (cI, Xencoded_n, .inl q1105.2)) := hN_Xencoded
                    have hN_Xpicture := (hfr _ (by decide)).trans hN_Xpicture
                    have hN_Xhalf := (hfr _ (by decide)).trans hN_Xhalf
                    have hN_Xblocks := (hfr _ (by decide)).trans hN_Xblocks
                    have hN_Xpile := (hfr _ (by decide)).trans hN_Xpile
                    have hN_Xds := (hfr _ (by decide)).trans hN_Xds
                    have hN_Xrs := (hfr _ (by decide)).trans hN_Xrs
                    have hN_Xbest := (hfr _ (by decide)).trans hN_Xbest
                    have hw := z_frC (by decide) hw hfr
                    refine lv_aload_n hx hb d_M_encode_277 rfl (lv_at hl 0 rfl) ?_
                    refine lv_aload_n hx hb d_M_encode_278 rfl (lv_at hl 0 rfl) ?_
                    refine gf_M_43 (v := .ref aXbest) hx hb hts hown hK hP hN_X rfl d_M_encode_279 ?_
                    refine lv_iconst (v := 1) hx hb d_M_encode_282 (by decide) ?_
                    obtain ⟨hin, hf⟩ := z_no hf
                    refine va_iald hx hb hK hP _ 0 hN_Xbest rfl hin d_M_encode_283 ?_
                    refine lv_iconst (v := 3) hx hb d_M_encode_284 (by decide) ?_
                    obtain ⟨q1106, hc, hf⟩ := z_b hf
                    have hFc := z_free hD hS hA
                    refine va_callv (va_runV (As := [.int (q1096.2.2.2.2 (1 : Int32).toNatClampNeg), .int (3 : Int32)]) (rest := []) ⟨hx, hb, hml, hown, hts⟩ (c_M_tell l dC dI cI cL _ (q1096.2.2.2.2 (1 : Int32).toNatClampNeg) (3 : Int32) hN_X hN_Xencoded q1106 hc) (cw_M_137 hts ⟨Nat.le_of_ble_eq_true rfl, Nat.le_of_ble_eq_true rfl⟩) ⟨zbM, va_recv hK hP (ci := 7) rfl hN_X, (zpM hP hK hZ hD)⟩ rfl rfl hl.1 rfl (lv_room (Nat.le_of_ble_eq_true rfl)) d_M_encode_285 ⟨Nat.zero_le _, Nat.zero_le _⟩) hS (fun q _ h => hFc q h) hFc (fun ws t H locs ht hvm hu hB hz1 hk1 hS => ?_)
                    obtain ⟨hN_X, hN_Xencoded, hfr⟩ := hu
                    obtain ⟨hP, -, hD1⟩ := hB
                    rw [ht] at hP
                    have hD := hD1.weaken (fun _ _ _ h => hFc _ h)
                    have hN_X : zA ws 21 (aX, .inr (7, [.int s0_1076, .int X_side, .ref aXpicture, .ref aXhalf, .int X_many, .ref aXblocks, .int q1102.1, .int q1106.1, .ref aXencoded, .int X_fedMany, .ref aXfed, .int X_readAt, .int X_why, .int q1096.1, .int (X_waiting_1087 - (1 : Int32)), .ref aXpile, .int X_decoded, .ref aXnews, .ref aXolds, .ref aXhalves, .ref aXds, .ref aXrs, .ref aXbest, .long q1096.2.1])) := hN_X
                    have hN_Xencoded : zA ws 25 (aXencoded, .inl (cI, Xencoded_n, .inl q1106.2)) := hN_Xencoded
                    have hN_Xpicture := (hfr _ (by decide)).trans hN_Xpicture
                    have hN_Xhalf := (hfr _ (by decide)).trans hN_Xhalf
                    have hN_Xblocks := (hfr _ (by decide)).trans hN_Xblocks
                    have hN_Xpile := (hfr _ (by decide)).trans hN_Xpile
                    have hN_Xds := (hfr _ (by decide)).trans hN_Xds
                    have hN_Xrs := (hfr _ (by decide)).trans hN_Xrs
                    have hN_Xbest := (hfr _ (by decide)).trans hN_Xbest
                    have hw := z_frC (by decide) hw hfr
                    refine lv_aload_n hx hb d_M_encode_288 rfl (lv_at hl 0 rfl) ?_
                    refine lv_aload_n hx hb d_M_encode_289 rfl (lv_at hl 0 rfl) ?_
                    refine gf_M_43 (v := .ref aXbest) hx hb hts hown hK hP hN_X rfl d_M_encode_290 ?_
                    refine lv_iconst (v := 2) hx hb d_M_encode_293 (by decide) ?_
                    obtain ⟨hin, hf⟩ := z_no hf
                    refine va_iald hx hb hK hP _ 0 hN_Xbest rfl hin d_M_encode_294 ?_
                    refine lv_bipush (v := 7) hx hb d_M_encode_295 (by decide) ?_
                    refine lv_iadd hx hb d_M_encode_297 ?_
                    refine lv_iconst (v := 4) hx hb d_M_encode_298 (by decide) ?_
                    obtain ⟨q1107, hc, hf⟩ := z_b hf
                    have hFc := z_free hD hS hA
                    refine va_callv (va_runV (As := [.int ((q1096.2.2.2.2 (2 : Int32).toNatClampNeg) + (7 : Int32)), .int (4 : Int32)]) (rest := []) ⟨hx, hb, hml, hown, hts⟩ (c_M_tell l dC dI cI cL _ ((q1096.2.2.2.2 (2 : Int32).toNatClampNeg) + (7 : Int32)) (4 : Int32) hN_X hN_Xencoded q1107 hc) (cw_M_137 hts ⟨Nat.le_of_ble_eq_true rfl, Nat.le_of_ble_eq_true rfl⟩) ⟨zbM, va_recv hK hP (ci := 7) rfl hN_X, (zpM hP hK hZ hD)⟩ rfl rfl hl.1 rfl (lv_room (Nat.le_of_ble_eq_true rfl)) d_M_encode_299 ⟨Nat.zero_le _, Nat.zero_le _⟩) hS (fun q _ h => hFc q h) hFc (fun ws t H locs ht hvm hu hB hz1 hk1 hS => ?_)
                    obtain ⟨hN_X, hN_Xencoded, hfr⟩ := hu
                    obtain ⟨hP, -, hD1⟩ := hB
                    rw [ht] at hP
                    have hD := hD1.weaken (fun _ _ _ h => hFc _ h)
                    have hN_X : zA ws 21 (aX, .inr (7, [.int s0_1076, .int X_side, .ref aXpicture, .ref aXhalf, .int X_many, .ref aXblocks, .int q1102.1, .int q1107.1, .ref aXencoded, .int X_fedMany, .ref aXfed, .int X_readAt, .int X_why, .int q1096.1, .int (X_waiting_1087 - (1 : Int32)), .ref aXpile, .int X_decoded, .ref aXnews, .ref aXolds, .ref aXhalves, .ref aXds, .ref aXrs, .ref aXbest, .long q1096.2.1])) := hN_X
                    have hN_Xencoded : zA ws 25 (aXencoded, .inl (cI, Xencoded_n, .inl q1107.2)) := hN_Xencoded
                    have hN_Xpicture := (hfr _ (by decide)).trans hN_Xpicture
                    have hN_Xhalf := (hfr _ (by decide)).trans hN_Xhalf
                    have hN_Xblocks := (hfr _ (by decide)).trans hN_Xblocks
                    have hN_Xpile := (hfr _ (by decide)).trans hN_Xpile
                    have hN_Xds := (hfr _ (by decide)).trans hN_Xds
                    have hN_Xrs := (hfr _ (by decide)).trans hN_Xrs
                    have hN_Xbest := (hfr _ (by decide)).trans hN_Xbest
                    have hw := z_frC (by decide) hw hfr
                    refine lv_aload_n hx hb d_M_encode_302 rfl (lv_at hl 0 rfl) ?_
                    refine lv_aload_n hx hb d_M_encode_303 rfl (lv_at hl 0 rfl) ?_
                    refine gf_M_43 (v := .ref aXbest) hx hb hts hown hK hP hN_X rfl d_M_encode_304 ?_
                    refine lv_iconst (v := 3) hx hb d_M_encode_307 (by decide) ?_
                    obtain ⟨hin, hf⟩ := z_no hf
                    refine va_iald hx hb hK hP _ 0 hN_Xbest rfl hin d_M_encode_308 ?_
                    refine lv_sipush (v := 256) hx hb d_M_encode_309 (by decide) ?_
                    refine lv_iadd hx hb d_M_encode_312 ?_
                    refine lv_bipush (v := 10) hx hb d_M_encode_313 (by decide) ?_
                    obtain ⟨q1108, hc, hf⟩ := z_b hf
                    have hFc := z_free hD hS hA
                    refine va_callv (va_runV (As := [.int ((q1096.2.2.2.2 (3 : Int32).toNatClampNeg) + (256 : Int32)), .int (10 : Int32)]) (rest := []) ⟨hx, hb, hml, hown, hts⟩ (c_M_tell l dC dI cI cL _ ((q1096.2.2.2.2 (3 : Int32).toNatClampNeg) + (256 : Int32)) (10 : Int32) hN_X hN_Xencoded q1108 hc) (cw_M_137 hts ⟨Nat.le_of_ble_eq_true rfl, Nat.le_of_ble_eq_true rfl⟩) ⟨zbM, va_recv hK hP (ci := 7) rfl hN_X, (zpM hP hK hZ hD)⟩ rfl rfl hl.1 rfl (lv_room (Nat.le_of_ble_eq_true rfl)) d_M_encode_315 ⟨Nat.zero_le _, Nat.zero_le _⟩) hS (fun q _ h => hFc q h) hFc (fun ws t H locs ht hvm hu hB hz1 hk1 hS => ?_)
                    obtain ⟨hN_X, hN_Xencoded, hfr⟩ := hu
                    obtain ⟨hP, -, hD1⟩ := hB
                    rw [ht] at hP
                    have hD := hD1.weaken (fun _ _ _ h => hFc _ h)
                    have hN_X : zA ws 21 (aX, .inr (7, [.int s0_1076, .int X_side, .ref aXpicture, .ref aXhalf, .int X_many, .ref aXblocks, .int q1102.1, .int q1108.1, .ref aXencoded, .int X_fedMany, .ref aXfed, .int X_readAt, .int X_why, .int q1096.1, .int (X_waiting_1087 - (1 : Int32)), .ref aXpile, .int X_decoded, .ref aXnews, .ref aXolds, .ref aXhalves, .ref aXds, .ref aXrs, .ref aXbest, .long q1096.2.1])) := hN_X
                    have hN_Xencoded : zA ws 25 (aXencoded, .inl (cI, Xencoded_n, .inl q1108.2)) := hN_Xencoded
                    have hN_Xpicture := (hfr _ (by decide)).trans hN_Xpicture
                    have hN_Xhalf := (hfr _ (by decide)).trans hN_Xhalf
                    have hN_Xblocks := (hfr _ (by decide)).trans hN_Xblocks
                    have hN_Xpile := (hfr _ (by decide)).trans hN_Xpile
                    have hN_Xds := (hfr _ (by decide)).trans hN_Xds
                    have hN_Xrs := (hfr _ (by decide)).trans hN_Xrs
                    have hN_Xbest := (hfr _ (by decide)).trans hN_Xbest
                    have hw := z_frC (by decide) hw hfr
                    refine lv_goto (tgt := 118) hx hb d_M_encode_318 (by decide) ?_
                    exact ih q1102.1 q1108.1 q1096.1 (X_waiting_1087 - (1 : Int32)) q1096.2.1 q1102.2 q1108.2 Xpile_f_1091 q1096.2.2.1 q1096.2.2.2.1 q1096.2.2.2.2 _ _ _ ls _ hf (lv_sub hl [0, 1, 2] rfl) hP hD hS hN_X hN_Xpicture hN_Xhalf hN_Xblocks hN_Xencoded hN_Xpile hN_Xds hN_Xrs hN_Xbest hw kt0
                  · have hf := z_f hc hf
                    refine lv_aload_n hx hb d_M_encode_235 rfl (lv_at hl 0 rfl) ?_
                    refine lv_iload_n hx hb d_M_encode_236 rfl (lv_at hl 3 rfl) ?_
                    refine lv_iload hx hb d_M_encode_237 (lv_at hl 4 rfl) ?_
                    refine lv_iload hx hb d_M_encode_239 (lv_at hl 5 rfl) ?_
                    obtain ⟨q1109, hc, hf⟩ := z_b hf
                    have hFc := z_free hD hS hA
                    refine va_callv (va_runV (As := [.int (Xpile_f_1091 ((3 : Int32) * (X_waiting_1087 - (1 : Int32))).toNatClampNeg), .int (Xpile_f_1091 (((3 : Int32) * (X_waiting_1087 - (1 : Int32))) + (1 : Int32)).toNatClampNeg), .int (Xpile_f_1091 (((3 : Int32) * (X_waiting_1087 - (1 : Int32))) + (2 : Int32)).toNatClampNeg)]) (rest := []) ⟨hx, hb, hml, hown, hts⟩ (c_M_pileQuarters l dC dI cI cL _ (Xpile_f_1091 ((3 : Int32) * (X_waiting_1087 - (1 : Int32))).toNatClampNeg) (Xpile_f_1091 (((3 : Int32) * (X_waiting_1087 - (1 : Int32))) + (1 : Int32)).toNatClampNeg) (Xpile_f_1091 (((3 : Int32) * (X_waiting_1087 - (1 : Int32))) + (2 : Int32)).toNatClampNeg) hN_X hN_Xpile q1109 hc) (cw_M_141 hts ⟨Nat.le_of_ble_eq_true rfl, Nat.le_of_ble_eq_true rfl⟩) ⟨zbM, va_recv hK hP (ci := 7) rfl hN_X, (zpM hP hK hZ hD)⟩ rfl rfl hl.1 rfl (lv_room (Nat.le_of_ble_eq_true rfl)) d_M_encode_241 ⟨Nat.zero_le _, Nat.zero_le _⟩) hS (fun q _ h => hFc q h) hFc (fun ws t H locs ht hvm hu hB hz1 hk1 hS => ?_)
                    obtain ⟨hN_X, hN_Xpile, hfr⟩ := hu
                    obtain ⟨hP, -, hD1⟩ := hB
                    rw [ht] at hP
                    have hD := hD1.weaken (fun _ _ _ h => hFc _ h)
                    have hN_X : zA ws 21 (aX, .inr (7, [.int s0_1076, .int X_side, .ref aXpicture, .ref aXhalf, .int X_many, .ref aXblocks, .int X_found_1084, .int X_encodedBits_1099, .ref aXencoded, .int X_fedMany, .ref aXfed, .int X_readAt, .int X_why, .int q1096.1, .int q1109.1, .ref aXpile, .int X_decoded, .ref aXnews, .ref aXolds, .ref aXhalves, .ref aXds, .ref aXrs, .ref aXbest, .long q1096.2.1])) := hN_X
                    have hN_Xpile : zA ws 27 (aXpile, .inl (cI, Xpile_n, .inl q1109.2)) := hN_Xpile
                    have hN_Xpicture := (hfr _ (by decide)).trans hN_Xpicture
                    have hN_Xhalf := (hfr _ (by decide)).trans hN_Xhalf
                    have hN_Xblocks := (hfr _ (by decide)).trans hN_Xblocks
                    have hN_Xencoded := (hfr _ (by decide)).trans hN_Xencoded
                    have hN_Xds := (hfr _ (by decide)).trans hN_Xds
                    have hN_Xrs := (hfr _ (by decide)).trans hN_Xrs
                    have hN_Xbest := (hfr _ (by decide)).trans hN_Xbest
                    have hw := z_frC (by decide) hw hfr
                    refine lv_goto (tgt := 318) hx hb d_M_encode_244 (by decide) ?_
                    refine lv_goto (tgt := 118) hx hb d_M_encode_318 (by decide) ?_
                    exact ih X_found_1084 X_encodedBits_1099 q1096.1 q1109.1 q1096.2.1 Xblocks_f_1089 Xencoded_f_1100 q1109.2 q1096.2.2.1 q1096.2.2.2.1 q1096.2.2.2.2 _ _ _ ls _ hf (lv_sub hl [0, 1, 2] rfl) hP hD hS hN_X hN_Xpicture hN_Xhalf hN_Xblocks hN_Xencoded hN_Xpile hN_Xds hN_Xrs hN_Xbest hw kt0
                refine lv_icmp_le (tgt := 230) hx hb d_M_encode_212 (by decide) (fun hc => ?_) (fun hc => ?_)
                · have hf := z_t hc hf
                  exact jp230_1101 X_encodedBits_1085 Xencoded_f_1090 _ _ _ ls hf (lv_sub hl [1, 2, 3, 4, 5, 6, 0] rfl) hP hD hS hN_X hN_Xpicture hN_Xhalf hN_Xblocks hN_Xencoded hN_Xpile hN_Xds hN_Xrs hN_Xbest hw
                · have hf := z_f hc hf
                  refine lv_aload_n hx hb d_M_encode_215 rfl (lv_at hl 1 rfl) ?_
                  refine lv_iload hx hb d_M_encode_216 (lv_at hl 0 rfl) ?_
                  have jp226_1111 : ∀ (s0_1110 : Int32) (ls : Array Slot) (hf : f_M_encode_J226 (fun (a0 : Int32) (a1 : Int32) (a2 : Int32) (a3 : Int32) (a4 : Int64) (a5 : Nat → Int32) (a6 : Nat → Int32) (a7 : Nat → Int32) (a8 : Nat → Int32) (a9 : Nat → Int32) (a10 : Nat → Int32) => f_M_encode_118 x1 x2 X_side Xpicture_n Xpicture_f Xhalf_n q1078 Xblocks_n Xencoded_n Xpile_n Xds_n Xrs_n Xbest_n n a0 a1 a2 a3 a4 a5 a6 a7 a8 a9 a10) x1 x2 (Xpile_f_1091 ((3 : Int32) * (X_waiting_1087 - (1 : Int32))).toNatClampNeg) (Xpile_f_1091 (((3 : Int32) * (X_waiting_1087 - (1 : Int32))) + (1 : Int32)).toNatClampNeg) (Xpile_f_1091 (((3 : Int32) * (X_waiting_1087 - (1 : Int32))) + (2 : Int32)).toNatClampNeg) s0_1097 X_side X_found_1084 X_encodedBits_1085 q1096.1 (X_waiting_1087 - (1 : Int32)) q1096.2.1 Xblocks_n Xblocks_f_1089 Xencoded_n Xencoded_f_1090 Xpile_n Xpile_f_1091 q1096.2.2.1 q1096.2.2.2.1 Xbest_n q1096.2.2.2.2 s0_1110 = some q) (hl : lv_has ls 7 [(0, .ref aX), (1, .int x1), (2, .int x2), (3, .int (Xpile_f_1091 ((3 : Int32) * (X_waiting_1087 - (1 : Int32))).toNatClampNeg)), (4, .int (Xpile_f_1091 (((3 : Int32) * (X_waiting_1087 - (1 : Int32))) + (1 : Int32)).toNatClampNeg)), (5, .int (Xpile_f_1091 (((3 : Int32) * (X_waiting_1087 - (1 : Int32))) + (2 : Int32)).toNatClampNeg)), (6, .int s0_1097)]), W p l e (headSpec w_M_encode rm_M_encode).room s m ([.ref aX, .int x1, .int x2] : List Value).toArray below meth c H locs 0 0 Qx (F0 m 226 ls [.int s0_1110, .ref aX]) := by
                    intro s0_1110 ls hf hl
                    unfold f_M_encode_J226 at hf
                    refine lv_iconst (v := 1) hx hb d_M_encode_226 (by decide) ?_
                    obtain ⟨q1112, hc, hf⟩ := z_b hf
                    have hFc := z_free hD hS hA
                    refine va_callv (va_runV (As := [.int s0_1110, .int (1 : Int32)]) (rest := []) ⟨hx, hb, hml, hown, hts⟩ (c_M_tell l dC dI cI cL _ s0_1110 (1 : Int32) hN_X hN_Xencoded q1112 hc) (cw_M_137 hts ⟨Nat.le_of_ble_eq_true rfl, Nat.le_of_ble_eq_true rfl⟩) ⟨zbM, va_recv hK hP (ci := 7) rfl hN_X, (zpM hP hK hZ hD)⟩ rfl rfl hl.1 rfl (lv_room (Nat.le_of_ble_eq_true rfl)) d_M_encode_227 ⟨Nat.zero_le _, Nat.zero_le _⟩) hS (fun q _ h => hFc q h) hFc (fun ws t H locs ht hvm hu hB hz1 hk1 hS => ?_)
                    obtain ⟨hN_X, hN_Xencoded, hfr⟩ := hu
                    obtain ⟨hP, -, hD1⟩ := hB
                    rw [ht] at hP
                    have hD := hD1.weaken (fun _ _ _ h => hFc _ h)
                    have hN_X : zA ws 21 (aX, .inr (7, [.int s0_1076, .int X_side, .ref aXpicture, .ref aXhalf, .int X_many, .ref aXblocks, .int X_found_1084, .int q1112.1, .ref aXencoded, .int X_fedMany, .ref aXfed, .int X_readAt, .int X_why, .int q1096.1, .int (X_waiting_1087 - (1 : Int32)), .ref aXpile, .int X_decoded, .ref aXnews, .ref aXolds, .ref aXhalves, .ref aXds, .ref aXrs, .ref aXbest, .long q1096.2.1])) := hN_X
                    have hN_Xencoded : zA ws 25 (aXencoded, .inl (cI, Xencoded_n, .inl q1112.2)) := hN_Xencoded
                    have hN_Xpicture := (hfr _ (by decide)).trans hN_Xpicture
                    have hN_Xhalf := (hfr _ (by decide)).trans hN_Xhalf
                    have hN_Xblocks := (hfr _ (by decide)).trans hN_Xblocks
                    have hN_Xpile := (hfr _ (by decide)).trans hN_Xpile
                    have hN_Xds := (hfr _ (by decide)).trans hN_Xds
                    have hN_Xrs := (hfr _ (by decide)).trans hN_Xrs
                    have hN_Xbest := (hfr _ (by decide)).trans hN_Xbest
                    have hw := z_frC (by decide) hw hfr
                    exact jp230_1101 q1112.1 q1112.2 _ _ _ ls hf (lv_sub hl [0, 1, 2, 3, 4, 5, 6] rfl) hP hD hS hN_X hN_Xpicture hN_Xhalf hN_Xblocks hN_Xencoded hN_Xpile hN_Xds hN_Xrs hN_Xbest hw
                  refine lv_if_eq (tgt := 225) hx hb d_M_encode_218 (by decide) (fun hc => ?_) (fun hc => ?_)
                  · have hf := z_t hc hf
                    refine lv_iconst (v := 0) hx hb d_M_encode_225 (by decide) ?_
                    exact jp226_1111 (0 : Int32) ls hf (lv_sub hl [1, 2, 3, 4, 5, 6, 0] rfl)
                  · have hf := z_f hc hf
                    refine lv_iconst (v := 1) hx hb d_M_encode_221 (by decide) ?_
                    refine lv_goto (tgt := 226) hx hb d_M_encode_222 (by decide) ?_
                    exact jp226_1111 (1 : Int32) ls hf (lv_sub hl [1, 2, 3, 4, 5, 6, 0] rfl)
              refine lv_icmp_le (tgt := 206) hx hb d_M_encode_189 (by decide) (fun hc => ?_) (fun hc => ?_)
              · have hf := z_t hc hf
                refine lv_iconst (v := 0) hx hb d_M_encode_206 (by decide) ?_
                exact jp207_1098 (0 : Int32) ls hf (lv_sub hl [3, 4, 5, 2, 1, 0] rfl)
              · have hf := z_f hc hf
                refine lv_aload_n hx hb d_M_encode_192 rfl (lv_at hl 3 rfl) ?_
                refine gf_M_91 (v := .long q1096.2.1) hx hb hts hown hK hP hN_X rfl d_M_encode_193 ?_
                refine lv_iload_n hx hb d_M_encode_196 rfl (lv_at hl 5 rfl) ?_
                refine lv_i2l hx hb d_M_encode_197 rfl ?_
                refine W.lcmp hx hb d_M_encode_198 ?_
                refine lv_if_le (tgt := 206) hx hb d_M_encode_199 (by decide) (fun hc => ?_) (fun hc => ?_)
                · have hf := z_t hc hf
                  refine lv_iconst (v := 0) hx hb d_M_encode_206 (by decide) ?_
                  exact jp207_1098 (0 : Int32) ls hf (lv_sub hl [3, 4, 5, 2, 1, 0] rfl)
                · have hf := z_f hc hf
                  refine lv_iconst (v := 1) hx hb d_M_encode_202 (by decide) ?_
                  refine lv_goto (tgt := 207) hx hb d_M_encode_203 (by decide) ?_
                  exact jp207_1098 (1 : Int32) ls hf (lv_sub hl [3, 4, 5, 2, 1, 0] rfl)
        obtain ⟨q1083, hc, hf⟩ := z_b hf
        refine lp1095 _ FU (0 : Int32) q1081.1 (0 : Int32) q1082.1 X_bestError Xblocks_f q1081.2 q1082.2 Xds_f Xrs_f Xbest_f _ _ _ ls q1083 hc (lv_sub hl [0, 1, 2] rfl) hP hD hS hN_X hN_Xpicture hN_Xhalf hN_Xblocks hN_Xencoded hN_Xpile hN_Xds hN_Xrs hN_Xbest hw (fun ws H locs ls hl hP hD hS hN_X hN_Xpicture hN_Xhalf hN_Xblocks hN_Xencoded hN_Xpile hN_Xds hN_Xrs hN_Xbest hw => ?_)
        refine lv_aload_n hx hb d_M_encode_321 rfl (lv_at hl 0 rfl) ?_
        obtain ⟨q1113, hc, hf⟩ := z_b hf
        have hFc := z_free hD hS hA
        refine va_callv (va_runV (As := []) (rest := []) ⟨hx, hb, hml, hown, hts⟩ (c_M_takeFound l dC dI cI cL _ hN_X hN_Xblocks q1113 hc) (cw_M_154 hts ⟨Nat.le_of_ble_eq_true rfl, Nat.le_of_ble_eq_true rfl⟩) ⟨zbM, va_recv hK hP (ci := 7) rfl hN_X, (zpM hP hK hZ hD)⟩ rfl rfl hl.1 rfl (lv_room (Nat.le_of_ble_eq_true rfl)) d_M_encode_322 ⟨Nat.zero_le _, Nat.zero_le _⟩) hS (fun q _ h => hFc q h) hFc (fun ws t H locs ht hvm hu hB hz1 hk1 hS => ?_)
        obtain ⟨hN_X, hN_Xblocks, hfr⟩ := hu
        obtain ⟨hP, -, hD1⟩ := hB
        rw [ht] at hP
        have hD := hD1.weaken (fun _ _ _ h => hFc _ h)
        have hN_X : zA ws 21 (aX, .inr (7, [.int s0_1076, .int X_side, .ref aXpicture, .ref aXhalf, .int q1113.1, .ref aXblocks, .int q1083.1, .int q1083.2.1, .ref aXencoded, .int X_fedMany, .ref aXfed, .int X_readAt, .int X_why, .int q1083.2.2.1, .int q1083.2.2.2.1, .ref aXpile, .int X_decoded, .ref aXnews, .ref aXolds, .ref aXhalves, .ref aXds, .ref aXrs, .ref aXbest, .long q1083.2.2.2.2.1])) := hN_X
        have hN_Xblocks : zA ws 24 (aXblocks, .inl (cI, Xblocks_n, .inl q1113.2)) := hN_Xblocks
        have hN_Xpicture := (hfr _ (by decide)).trans hN_Xpicture
        have hN_Xhalf := (hfr _ (by decide)).trans hN_Xhalf
        have hN_Xencoded := (hfr _ (by decide)).trans hN_Xencoded
        have hN_Xpile := (hfr _ (by decide)).trans hN_Xpile
        have hN_Xds := (hfr _ (by decide)).trans hN_Xds
        have hN_Xrs := (hfr _ (by decide)).trans hN_Xrs
        have hN_Xbest := (hfr _ (by decide)).trans hN_Xbest
        have hw := z_frC (by decide) hw hfr
        refine lv_aload_n hx hb d_M_encode_325 rfl (lv_at hl 0 rfl) ?_
        refine gf_M_123 (v := .int q1113.1) hx hb hts hown hK hP hN_X rfl d_M_encode_326 ?_
        obtain rfl := Option.some.inj hf
        exact W.iret hx hb hr (fun t ht hW => ⟨⟨_, ws, rfl, (by dsimp only; exact ⟨rfl, hN_X, hN_Xhalf, hN_Xblocks, hN_Xencoded, hN_Xpile, hN_Xds, hN_Xrs, hN_Xbest, hw⟩), by rw [ht]; exact hP, va_K.moved hW.alike hK, hD⟩, hS.F ht⟩) hS.2.2 d_M_encode_329
      refine lv_icmp_ne (tgt := 84) hx hb d_M_encode_77 (by decide) (fun hc => ?_) (fun hc => ?_)
      · have hf := z_f hc hf
        refine lv_iload_n hx hb d_M_encode_84 rfl (lv_at hl 1 rfl) ?_
        refine lv_iconst (v := 4) hx hb d_M_encode_85 (by decide) ?_
        refine lv_icmp_ne (tgt := 93) hx hb d_M_encode_86 (by decide) (fun hc => ?_) (fun hc => ?_)
        · have hf := z_f hc hf
          refine lv_iload_n hx hb d_M_encode_93 rfl (lv_at hl 1 rfl) ?_
          refine lv_bipush (v := 8) hx hb d_M_encode_94 (by decide) ?_
          refine lv_icmp_ne (tgt := 103) hx hb d_M_encode_96 (by decide) (fun hc => ?_) (fun hc => ?_)
          · have hf := z_f hc hf
            refine lv_iconst (v := 4) hx hb d_M_encode_103 (by decide) ?_
            exact jp104_1080 (4 : Int32) ls hf (lv_sub hl [0, 1, 2] rfl)
          · have hf := z_t hc hf
            refine lv_iconst (v := 3) hx hb d_M_encode_99 (by decide) ?_
            refine lv_goto (tgt := 104) hx hb d_M_encode_100 (by decide) ?_
            exact jp104_1080 (3 : Int32) ls hf (lv_sub hl [0, 1, 2] rfl)
        · have hf := z_t hc hf
          refine lv_iconst (v := 2) hx hb d_M_encode_89 (by decide) ?_
          refine lv_goto (tgt := 104) hx hb d_M_encode_90 (by decide) ?_
          exact jp104_1080 (2 : Int32) ls hf (lv_sub hl [0, 1, 2] rfl)
      · have hf := z_t hc hf
        refine lv_iconst (v := 1) hx hb d_M_encode_80 (by decide) ?_
        refine lv_goto (tgt := 104) hx hb d_M_encode_81 (by decide) ?_
        exact jp104_1080 (1 : Int32) ls hf (lv_sub hl [0, 1, 2] rfl)
    · have hf := z_f hc hf
      refine lv_iconst (v := 0) hx hb d_M_encode_37 (by decide) ?_
      obtain rfl := Option.some.inj hf
      exact W.iret hx hb hr (fun t ht hW => ⟨⟨_, ws, rfl, (by dsimp only; exact ⟨rfl, hN_X, hN_Xhalf, hN_Xblocks, hN_Xencoded, hN_Xpile, hN_Xds, hN_Xrs, hN_Xbest, hw⟩), by rw [ht]; exact hP, va_K.moved hW.alike hK, hD⟩, hS.F ht⟩) hS.2.2 d_M_encode_38
  refine lv_if_eq (tgt := 26) hx hb d_M_encode_5 (by decide) (fun hc => ?_) (fun hc => ?_)
  · have hf := z_t hc hf
    refine lv_iconst (v := 1) hx hb d_M_encode_26 (by decide) ?_
    exact jp27_1077 (1 : Int32) ls hf (lv_sub hl [0, 1, 2] rfl)
  · have hf := z_f hc hf
    refine lv_iconst (v := 2) hx hb d_M_encode_8 (by decide) ?_
    refine lv_iload_n hx hb d_M_encode_9 rfl (lv_at hl 1 rfl) ?_
    refine lv_imul hx hb d_M_encode_10 ?_
    refine lv_aload_n hx hb d_M_encode_11 rfl (lv_at hl 0 rfl) ?_
    refine gf_M_46 (v := .int X_side) hx hb hts hown hK hP hN_X rfl d_M_encode_12 ?_
    refine lv_icmp_gt (tgt := 26) hx hb d_M_encode_15 (by decide) (fun hc => ?_) (fun hc => ?_)
    · have hf := z_t hc hf
      refine lv_iconst (v := 1) hx hb d_M_encode_26 (by decide) ?_
      exact jp27_1077 (1 : Int32) ls hf (lv_sub hl [0, 1, 2] rfl)
    · have hf := z_f hc hf
      refine lv_iload_n hx hb d_M_encode_18 rfl (lv_at hl 2 rfl) ?_
      refine lv_if_lt (tgt := 26) hx hb d_M_encode_19 (by decide) (fun hc => ?_) (fun hc => ?_)
      · have hf := z_t hc hf
        refine lv_iconst (v := 1) hx hb d_M_encode_26 (by decide) ?_
        exact jp27_1077 (1 : Int32) ls hf (lv_sub hl [0, 1, 2] rfl)
      · have hf := z_f hc hf
        refine lv_iconst (v := 0) hx hb d_M_encode_22 (by decide) ?_
        refine lv_goto (tgt := 27) hx hb d_M_encode_23 (by decide) ?_
        exact jp27_1077 (0 : Int32) ls hf (lv_sub hl [0, 1, 2] rfl)
