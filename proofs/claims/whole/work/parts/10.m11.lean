def f_M_read_86 (p1 : Int32) (p2 : Int32) (X_side : Int32) (X_fedMany : Int32) (Xblocks_n : Nat) (Xfed_n : Nat) (Xfed_f : Nat → Int32) (Xpile_n : Nat) (Xbest_n : Nat) : Nat → Int32 → Int32 → Int32 → Int32 → (Nat → Int32) → (Nat → Int32) → (Nat → Int32) → Option (Int32 × Int32 × Int32 × Int32 × (Nat → Int32) × (Nat → Int32) × (Nat → Int32))
  | 0, _, _, _, _, _, _, _ => none
  | n + 1, X_found, X_readAt, X_why, X_waiting, Xblocks_f, Xpile_f, Xbest_f => if X_waiting ≤ 0 then (some (X_found, X_readAt, X_why, X_waiting, Xblocks_f, Xpile_f, Xbest_f)) else (if 0 ≤ X_why then (some (X_found, X_readAt, X_why, X_waiting, Xblocks_f, Xpile_f, Xbest_f)) else (if ((3 : Int32) * (X_waiting - (1 : Int32))) < 0 ∨ Xpile_n ≤ ((3 : Int32) * (X_waiting - (1 : Int32))).toNatClampNeg then none else (if (((3 : Int32) * (X_waiting - (1 : Int32))) + (1 : Int32)) < 0 ∨ Xpile_n ≤ (((3 : Int32) * (X_waiting - (1 : Int32))) + (1 : Int32)).toNatClampNeg then none else (if (((3 : Int32) * (X_waiting - (1 : Int32))) + (2 : Int32)) < 0 ∨ Xpile_n ≤ (((3 : Int32) * (X_waiting - (1 : Int32))) + (2 : Int32)).toNatClampNeg then none else (if (Xpile_f (((3 : Int32) * (X_waiting - (1 : Int32))) + (2 : Int32)).toNatClampNeg) ≤ p2 then ((f_M_readBlock (Xpile_f ((3 : Int32) * (X_waiting - (1 : Int32))).toNatClampNeg) (Xpile_f (((3 : Int32) * (X_waiting - (1 : Int32))) + (1 : Int32)).toNatClampNeg) (Xpile_f (((3 : Int32) * (X_waiting - (1 : Int32))) + (2 : Int32)).toNatClampNeg) X_side X_found X_fedMany X_readAt X_why Xblocks_n Xblocks_f Xfed_n Xfed_f Xbest_n Xbest_f).bind (fun q277 => f_M_read_86 p1 p2 X_side X_fedMany Xblocks_n Xfed_n Xfed_f Xpile_n Xbest_n n q277.1 q277.2.1 q277.2.2.1 (X_waiting - (1 : Int32)) q277.2.2.2.1 Xpile_f q277.2.2.2.2)) else ((f_M_take (1 : Int32) X_fedMany X_readAt X_why Xfed_n Xfed_f).bind (fun q278 => if q278.1 = (1 : Int32) then ((f_M_pileQuarters (Xpile_f ((3 : Int32) * (X_waiting - (1 : Int32))).toNatClampNeg) (Xpile_f (((3 : Int32) * (X_waiting - (1 : Int32))) + (1 : Int32)).toNatClampNeg) (Xpile_f (((3 : Int32) * (X_waiting - (1 : Int32))) + (2 : Int32)).toNatClampNeg) (X_waiting - (1 : Int32)) Xpile_n Xpile_f).bind (fun q280 => f_M_read_86 p1 p2 X_side X_fedMany Xblocks_n Xfed_n Xfed_f Xpile_n Xbest_n n X_found q278.2.1 q278.2.2 q280.1 Xblocks_f q280.2 Xbest_f)) else ((f_M_readBlock (Xpile_f ((3 : Int32) * (X_waiting - (1 : Int32))).toNatClampNeg) (Xpile_f (((3 : Int32) * (X_waiting - (1 : Int32))) + (1 : Int32)).toNatClampNeg) (Xpile_f (((3 : Int32) * (X_waiting - (1 : Int32))) + (2 : Int32)).toNatClampNeg) X_side X_found X_fedMany q278.2.1 q278.2.2 Xblocks_n Xblocks_f Xfed_n Xfed_f Xbest_n Xbest_f).bind (fun q279 => f_M_read_86 p1 p2 X_side X_fedMany Xblocks_n Xfed_n Xfed_f Xpile_n Xbest_n n q279.1 q279.2.1 q279.2.2.1 (X_waiting - (1 : Int32)) q279.2.2.2.1 Xpile_f q279.2.2.2.2)))))))))
def f_M_read_220 (p1 : Int32) (p2 : Int32) (X_fedMany : Int32) (X_why : Int32) (Xfed_n : Nat) (Xfed_f : Nat → Int32) : Nat → Int32 → Int32 → Option (Int32 × Int32)
  | 0, _, _ => none
  | n + 1, v3, v4 => if ((8 : Int32) * X_fedMany) ≤ v4 then (some (v3, v4)) else (if 0 ≤ X_why then (some (v3, v4)) else (if v3 = 0 then ((f_M_bitAt v4 Xfed_n Xfed_f).bind (fun q294 => if q294 = (1 : Int32) then (f_M_read_220 p1 p2 X_fedMany X_why Xfed_n Xfed_f n (1 : Int32) (v4 + 1)) else (f_M_read_220 p1 p2 X_fedMany X_why Xfed_n Xfed_f n (0 : Int32) (v4 + 1)))) else (f_M_read_220 p1 p2 X_fedMany X_why Xfed_n Xfed_f n (1 : Int32) (v4 + 1))))
def f_M_read (X_side : Int32) (X_many : Int32) (X_found : Int32) (X_fedMany : Int32) (X_readAt : Int32) (X_why : Int32) (X_waiting : Int32) (Xblocks_n : Nat) (Xblocks_f : Nat → Int32) (Xfed_n : Nat) (Xfed_f : Nat → Int32) (Xpile_n : Nat) (Xpile_f : Nat → Int32) (Xbest_n : Nat) (Xbest_f : Nat → Int32) : Option (Int32 × Int32 × Int32 × Int32 × Int32 × Int32 × Int32 × Int32 × (Nat → Int32) × (Nat → Int32) × (Nat → Int32)) := (f_M_take (3 : Int32) X_fedMany (0 : Int32) ((-1) : Int32) Xfed_n Xfed_f).bind (fun q275 => if 0 ≤ q275.2.2 then ((f_M_pileQuarters (0 : Int32) (0 : Int32) X_side (0 : Int32) Xpile_n Xpile_f).bind (fun q276 => (f_M_read_86 q275.1 ((1 : Int32) <<< (q275.1 &&& 31)) X_side X_fedMany Xblocks_n Xfed_n Xfed_f Xpile_n Xbest_n FU (0 : Int32) q275.2.1 q275.2.2 q276.1 Xblocks_f q276.2 Xbest_f).bind (fun q281 => if (((8 : Int32) * X_fedMany) - q281.2.1) ≤ (7 : Int32) then ((f_M_read_220 q275.1 ((1 : Int32) <<< (q275.1 &&& 31)) X_fedMany q281.2.2.1 Xfed_n Xfed_f FU (0 : Int32) q281.2.1).bind (fun q296 => if 0 ≤ q281.2.2.1 then (if q281.2.2.1 < 0 then ((f_M_takeFound q281.1 Xblocks_n q281.2.2.2.2.1).bind (fun q302 => some (q302.1, (0 : Int32), q302.1, q281.1, (0 : Int32), q281.2.1, q281.2.2.1, q281.2.2.2.1, q302.2, q281.2.2.2.2.2.1, q281.2.2.2.2.2.2))) else (some ((((-1) : Int32) - q281.2.2.1), (0 : Int32), X_many, q281.1, (0 : Int32), q281.2.1, q281.2.2.1, q281.2.2.2.1, q281.2.2.2.2.1, q281.2.2.2.2.2.1, q281.2.2.2.2.2.2))) else (if q296.1 = 0 then (if q281.2.2.1 < 0 then ((f_M_takeFound q281.1 Xblocks_n q281.2.2.2.2.1).bind (fun q303 => some (q303.1, (0 : Int32), q303.1, q281.1, (0 : Int32), q281.2.1, q281.2.2.1, q281.2.2.2.1, q303.2, q281.2.2.2.2.2.1, q281.2.2.2.2.2.2))) else (some ((((-1) : Int32) - q281.2.2.1), (0 : Int32), X_many, q281.1, (0 : Int32), q281.2.1, q281.2.2.1, q281.2.2.2.1, q281.2.2.2.2.1, q281.2.2.2.2.2.1, q281.2.2.2.2.2.2))) else (if (4 : Int32) < 0 then ((f_M_takeFound q281.1 Xblocks_n q281.2.2.2.2.1).bind (fun q304 => some (q304.1, (0 : Int32), q304.1, q281.1, (0 : Int32), q281.2.1, (4 : Int32), q281.2.2.2.1, q304.2, q281.2.2.2.2.2.1, q281.2.2.2.2.2.2))) else (some ((((-1) : Int32) - (4 : Int32)), (0 : Int32), X_many, q281.1, (0 : Int32), q281.2.1, (4 : Int32), q281.2.2.2.1, q281.2.2.2.2.1, q281.2.2.2.2.2.1, q281.2.2.2.2.2.2)))))) else ((f_M_read_220 q275.1 ((1 : Int32) <<< (q275.1 &&& 31)) X_fedMany q281.2.2.1 Xfed_n Xfed_f FU (1 : Int32) q281.2.1).bind (fun q305 => if 0 ≤ q281.2.2.1 then (if q281.2.2.1 < 0 then ((f_M_takeFound q281.1 Xblocks_n q281.2.2.2.2.1).bind (fun q311 => some (q311.1, (0 : Int32), q311.1, q281.1, (0 : Int32), q281.2.1, q281.2.2.1, q281.2.2.2.1, q311.2, q281.2.2.2.2.2.1, q281.2.2.2.2.2.2))) else (some ((((-1) : Int32) - q281.2.2.1), (0 : Int32), X_many, q281.1, (0 : Int32), q281.2.1, q281.2.2.1, q281.2.2.2.1, q281.2.2.2.2.1, q281.2.2.2.2.2.1, q281.2.2.2.2.2.2))) else (if q305.1 = 0 then (if q281.2.2.1 < 0 then ((f_M_takeFound q281.1 Xblocks_n q281.2.2.2.2.1).bind (fun q312 => some (q312.1, (0 : Int32), q312.1, q281.1, (0 : Int32), q281.2.1, q281.2.2.1, q281.2.2.2.1, q312.2, q281.2.2.2.2.2.1, q281.2.2.2.2.2.2))) else (some ((((-1) : Int32) - q281.2.2.1), (0 : Int32), X_many, q281.1, (0 : Int32), q281.2.1, q281.2.2.1, q281.2.2.2.1, q281.2.2.2.2.1, q281.2.2.2.2.2.1, q281.2.2.2.2.2.2))) else (if (4 : Int32) < 0 then ((f_M_takeFound q281.1 Xblocks_n q281.2.2.2.2.1).bind (fun q313 => some (q313.1, (0 : Int32), q313.1, q281.1, (0 : Int32), q281.2.1, (4 : Int32), q281.2.2.2.1, q313.2, q281.2.2.2.2.2.1, q281.2.2.2.2.2.2))) else (some ((((-1) : Int32) - (4 : Int32)), (0 : Int32), X_many, q281.1, (0 : Int32), q281.2.1, (4 : Int32), q281.2.2.2.1, q281.2.2.2.2.1, q281.2.2.2.2.2.1, q281.2.2.2.2.2.2))))))))) else ((f_M_in q275.1.toInt64 (1 : Int64) (4 : Int64)).bind (fun q314 => if q314 = 0 then ((f_M_pileQuarters (0 : Int32) (0 : Int32) X_side (0 : Int32) Xpile_n Xpile_f).bind (fun q316 => (f_M_read_86 q275.1 ((1 : Int32) <<< (q275.1 &&& 31)) X_side X_fedMany Xblocks_n Xfed_n Xfed_f Xpile_n Xbest_n FU (0 : Int32) q275.2.1 (0 : Int32) q316.1 Xblocks_f q316.2 Xbest_f).bind (fun q317 => if (((8 : Int32) * X_fedMany) - q317.2.1) ≤ (7 : Int32) then ((f_M_read_220 q275.1 ((1 : Int32) <<< (q275.1 &&& 31)) X_fedMany q317.2.2.1 Xfed_n Xfed_f FU (0 : Int32) q317.2.1).bind (fun q330 => if 0 ≤ q317.2.2.1 then (if q317.2.2.1 < 0 then ((f_M_takeFound q317.1 Xblocks_n q317.2.2.2.2.1).bind (fun q336 => some (q336.1, (0 : Int32), q336.1, q317.1, (0 : Int32), q317.2.1, q317.2.2.1, q317.2.2.2.1, q336.2, q317.2.2.2.2.2.1, q317.2.2.2.2.2.2))) else (some ((((-1) : Int32) - q317.2.2.1), (0 : Int32), X_many, q317.1, (0 : Int32), q317.2.1, q317.2.2.1, q317.2.2.2.1, q317.2.2.2.2.1, q317.2.2.2.2.2.1, q317.2.2.2.2.2.2))) else (if q330.1 = 0 then (if q317.2.2.1 < 0 then ((f_M_takeFound q317.1 Xblocks_n q317.2.2.2.2.1).bind (fun q337 => some (q337.1, (0 : Int32), q337.1, q317.1, (0 : Int32), q317.2.1, q317.2.2.1, q317.2.2.2.1, q337.2, q317.2.2.2.2.2.1, q317.2.2.2.2.2.2))) else (some ((((-1) : Int32) - q317.2.2.1), (0 : Int32), X_many, q317.1, (0 : Int32), q317.2.1, q317.2.2.1, q317.2.2.2.1, q317.2.2.2.2.1, q317.2.2.2.2.2.1, q317.2.2.2.2.2.2))) else (if (4 : Int32) < 0 then ((f_M_takeFound q317.1 Xblocks_n q317.2.2.2.2.1).bind (fun q338 => some (q338.1, (0 : Int32), q338.1, q317.1, (0 : Int32), q317.2.1, (4 : Int32), q317.2.2.2.1, q338.2, q317.2.2.2.2.2.1, q317.2.2.2.2.2.2))) else (some ((((-1) : Int32) - (4 : Int32)), (0 : Int32), X_many, q317.1, (0 : Int32), q317.2.1, (4 : Int32), q317.2.2.2.1, q317.2.2.2.2.1, q317.2.2.2.2.2.1, q317.2.2.2.2.2.2)))))) else ((f_M_read_220 q275.1 ((1 : Int32) <<< (q275.1 &&& 31)) X_fedMany q317.2.2.1 Xfed_n Xfed_f FU (1 : Int32) q317.2.1).bind (fun q339 => if 0 ≤ q317.2.2.1 then (if q317.2.2.1 < 0 then ((f_M_takeFound q317.1 Xblocks_n q317.2.2.2.2.1).bind (fun q345 => some (q345.1, (0 : Int32), q345.1, q317.1, (0 : Int32), q317.2.1, q317.2.2.1, q317.2.2.2.1, q345.2, q317.2.2.2.2.2.1, q317.2.2.2.2.2.2))) else (some ((((-1) : Int32) - q317.2.2.1), (0 : Int32), X_many, q317.1, (0 : Int32), q317.2.1, q317.2.2.1, q317.2.2.2.1, q317.2.2.2.2.1, q317.2.2.2.2.2.1, q317.2.2.2.2.2.2))) else (if q339.1 = 0 then (if q317.2.2.1 < 0 then ((f_M_takeFound q317.1 Xblocks_n q317.2.2.2.2.1).bind (fun q346 => some (q346.1, (0 : Int32), q346.1, q317.1, (0 : Int32), q317.2.1, q317.2.2.1, q317.2.2.2.1, q346.2, q317.2.2.2.2.2.1, q317.2.2.2.2.2.2))) else (some ((((-1) : Int32) - q317.2.2.1), (0 : Int32), X_many, q317.1, (0 : Int32), q317.2.1, q317.2.2.1, q317.2.2.2.1, q317.2.2.2.2.1, q317.2.2.2.2.2.1, q317.2.2.2.2.2.2))) else (if (4 : Int32) < 0 then ((f_M_takeFound q317.1 Xblocks_n q317.2.2.2.2.1).bind (fun q347 => some (q347.1, (0 : Int32), q347.1, q317.1, (0 : Int32), q317.2.1, (4 : Int32), q317.2.2.2.1, q347.2, q317.2.2.2.2.2.1, q317.2.2.2.2.2.2))) else (some ((((-1) : Int32) - (4 : Int32)), (0 : Int32), X_many, q317.1, (0 : Int32), q317.2.1, (4 : Int32), q317.2.2.2.1, q317.2.2.2.2.1, q317.2.2.2.2.2.1, q317.2.2.2.2.2.2))))))))) else (if ((2 : Int32) * ((1 : Int32) <<< (q275.1 &&& 31))) ≤ X_side then ((f_M_pileQuarters (0 : Int32) (0 : Int32) X_side (0 : Int32) Xpile_n Xpile_f).bind (fun q348 => (f_M_read_86 q275.1 ((1 : Int32) <<< (q275.1 &&& 31)) X_side X_fedMany Xblocks_n Xfed_n Xfed_f Xpile_n Xbest_n FU (0 : Int32) q275.2.1 q275.2.2 q348.1 Xblocks_f q348.2 Xbest_f).bind (fun q349 => if (((8 : Int32) * X_fedMany) - q349.2.1) ≤ (7 : Int32) then ((f_M_read_220 q275.1 ((1 : Int32) <<< (q275.1 &&& 31)) X_fedMany q349.2.2.1 Xfed_n Xfed_f FU (0 : Int32) q349.2.1).bind (fun q362 => if 0 ≤ q349.2.2.1 then (if q349.2.2.1 < 0 then ((f_M_takeFound q349.1 Xblocks_n q349.2.2.2.2.1).bind (fun q368 => some (q368.1, (0 : Int32), q368.1, q349.1, (0 : Int32), q349.2.1, q349.2.2.1, q349.2.2.2.1, q368.2, q349.2.2.2.2.2.1, q349.2.2.2.2.2.2))) else (some ((((-1) : Int32) - q349.2.2.1), (0 : Int32), X_many, q349.1, (0 : Int32), q349.2.1, q349.2.2.1, q349.2.2.2.1, q349.2.2.2.2.1, q349.2.2.2.2.2.1, q349.2.2.2.2.2.2))) else (if q362.1 = 0 then (if q349.2.2.1 < 0 then ((f_M_takeFound q349.1 Xblocks_n q349.2.2.2.2.1).bind (fun q369 => some (q369.1, (0 : Int32), q369.1, q349.1, (0 : Int32), q349.2.1, q349.2.2.1, q349.2.2.2.1, q369.2, q349.2.2.2.2.2.1, q349.2.2.2.2.2.2))) else (some ((((-1) : Int32) - q349.2.2.1), (0 : Int32), X_many, q349.1, (0 : Int32), q349.2.1, q349.2.2.1, q349.2.2.2.1, q349.2.2.2.2.1, q349.2.2.2.2.2.1, q349.2.2.2.2.2.2))) else (if (4 : Int32) < 0 then ((f_M_takeFound q349.1 Xblocks_n q349.2.2.2.2.1).bind (fun q370 => some (q370.1, (0 : Int32), q370.1, q349.1, (0 : Int32), q349.2.1, (4 : Int32), q349.2.2.2.1, q370.2, q349.2.2.2.2.2.1, q349.2.2.2.2.2.2))) else (some ((((-1) : Int32) - (4 : Int32)), (0 : Int32), X_many, q349.1, (0 : Int32), q349.2.1, (4 : Int32), q349.2.2.2.1, q349.2.2.2.2.1, q349.2.2.2.2.2.1, q349.2.2.2.2.2.2)))))) else ((f_M_read_220 q275.1 ((1 : Int32) <<< (q275.1 &&& 31)) X_fedMany q349.2.2.1 Xfed_n Xfed_f FU (1 : Int32) q349.2.1).bind (fun q371 => if 0 ≤ q349.2.2.1 then (if q349.2.2.1 < 0 then ((f_M_takeFound q349.1 Xblocks_n q349.2.2.2.2.1).bind (fun q377 => some (q377.1, (0 : Int32), q377.1, q349.1, (0 : Int32), q349.2.1, q349.2.2.1, q349.2.2.2.1, q377.2, q349.2.2.2.2.2.1, q349.2.2.2.2.2.2))) else (some ((((-1) : Int32) - q349.2.2.1), (0 : Int32), X_many, q349.1, (0 : Int32), q349.2.1, q349.2.2.1, q349.2.2.2.1, q349.2.2.2.2.1, q349.2.2.2.2.2.1, q349.2.2.2.2.2.2))) else (if q371.1 = 0 then (if q349.2.2.1 < 0 then ((f_M_takeFound q349.1 Xblocks_n q349.2.2.2.2.1).bind (fun q378 => some (q378.1, (0 : Int32), q378.1, q349.1, (0 : Int32), q349.2.1, q349.2.2.1, q349.2.2.2.1, q378.2, q349.2.2.2.2.2.1, q349.2.2.2.2.2.2))) else (some ((((-1) : Int32) - q349.2.2.1), (0 : Int32), X_many, q349.1, (0 : Int32), q349.2.1, q349.2.2.1, q349.2.2.2.1, q349.2.2.2.2.1, q349.2.2.2.2.2.1, q349.2.2.2.2.2.2))) else (if (4 : Int32) < 0 then ((f_M_takeFound q349.1 Xblocks_n q349.2.2.2.2.1).bind (fun q379 => some (q379.1, (0 : Int32), q379.1, q349.1, (0 : Int32), q349.2.1, (4 : Int32), q349.2.2.2.1, q379.2, q349.2.2.2.2.2.1, q349.2.2.2.2.2.2))) else (some ((((-1) : Int32) - (4 : Int32)), (0 : Int32), X_many, q349.1, (0 : Int32), q349.2.1, (4 : Int32), q349.2.2.2.1, q349.2.2.2.2.1, q349.2.2.2.2.2.1, q349.2.2.2.2.2.2))))))))) else ((f_M_pileQuarters (0 : Int32) (0 : Int32) X_side (0 : Int32) Xpile_n Xpile_f).bind (fun q380 => (f_M_read_86 q275.1 ((1 : Int32) <<< (q275.1 &&& 31)) X_side X_fedMany Xblocks_n Xfed_n Xfed_f Xpile_n Xbest_n FU (0 : Int32) q275.2.1 (0 : Int32) q380.1 Xblocks_f q380.2 Xbest_f).bind (fun q381 => if (((8 : Int32) * X_fedMany) - q381.2.1) ≤ (7 : Int32) then ((f_M_read_220 q275.1 ((1 : Int32) <<< (q275.1 &&& 31)) X_fedMany q381.2.2.1 Xfed_n Xfed_f FU (0 : Int32) q381.2.1).bind (fun q394 => if 0 ≤ q381.2.2.1 then (if q381.2.2.1 < 0 then ((f_M_takeFound q381.1 Xblocks_n q381.2.2.2.2.1).bind (fun q400 => some (q400.1, (0 : Int32), q400.1, q381.1, (0 : Int32), q381.2.1, q381.2.2.1, q381.2.2.2.1, q400.2, q381.2.2.2.2.2.1, q381.2.2.2.2.2.2))) else (some ((((-1) : Int32) - q381.2.2.1), (0 : Int32), X_many, q381.1, (0 : Int32), q381.2.1, q381.2.2.1, q381.2.2.2.1, q381.2.2.2.2.1, q381.2.2.2.2.2.1, q381.2.2.2.2.2.2))) else (if q394.1 = 0 then (if q381.2.2.1 < 0 then ((f_M_takeFound q381.1 Xblocks_n q381.2.2.2.2.1).bind (fun q401 => some (q401.1, (0 : Int32), q401.1, q381.1, (0 : Int32), q381.2.1, q381.2.2.1, q381.2.2.2.1, q401.2, q381.2.2.2.2.2.1, q381.2.2.2.2.2.2))) else (some ((((-1) : Int32) - q381.2.2.1), (0 : Int32), X_many, q381.1, (0 : Int32), q381.2.1, q381.2.2.1, q381.2.2.2.1, q381.2.2.2.2.1, q381.2.2.2.2.2.1, q381.2.2.2.2.2.2))) else (if (4 : Int32) < 0 then ((f_M_takeFound q381.1 Xblocks_n q381.2.2.2.2.1).bind (fun q402 => some (q402.1, (0 : Int32), q402.1, q381.1, (0 : Int32), q381.2.1, (4 : Int32), q381.2.2.2.1, q402.2, q381.2.2.2.2.2.1, q381.2.2.2.2.2.2))) else (some ((((-1) : Int32) - (4 : Int32)), (0 : Int32), X_many, q381.1, (0 : Int32), q381.2.1, (4 : Int32), q381.2.2.2.1, q381.2.2.2.2.1, q381.2.2.2.2.2.1, q381.2.2.2.2.2.2)))))) else ((f_M_read_220 q275.1 ((1 : Int32) <<< (q275.1 &&& 31)) X_fedMany q381.2.2.1 Xfed_n Xfed_f FU (1 : Int32) q381.2.1).bind (fun q403 => if 0 ≤ q381.2.2.1 then (if q381.2.2.1 < 0 then ((f_M_takeFound q381.1 Xblocks_n q381.2.2.2.2.1).bind (fun q409 => some (q409.1, (0 : Int32), q409.1, q381.1, (0 : Int32), q381.2.1, q381.2.2.1, q381.2.2.2.1, q409.2, q381.2.2.2.2.2.1, q381.2.2.2.2.2.2))) else (some ((((-1) : Int32) - q381.2.2.1), (0 : Int32), X_many, q381.1, (0 : Int32), q381.2.1, q381.2.2.1, q381.2.2.2.1, q381.2.2.2.2.1, q381.2.2.2.2.2.1, q381.2.2.2.2.2.2))) else (if q403.1 = 0 then (if q381.2.2.1 < 0 then ((f_M_takeFound q381.1 Xblocks_n q381.2.2.2.2.1).bind (fun q410 => some (q410.1, (0 : Int32), q410.1, q381.1, (0 : Int32), q381.2.1, q381.2.2.1, q381.2.2.2.1, q410.2, q381.2.2.2.2.2.1, q381.2.2.2.2.2.2))) else (some ((((-1) : Int32) - q381.2.2.1), (0 : Int32), X_many, q381.1, (0 : Int32), q381.2.1, q381.2.2.1, q381.2.2.2.1, q381.2.2.2.2.1, q381.2.2.2.2.2.1, q381.2.2.2.2.2.2))) else (if (4 : Int32) < 0 then ((f_M_takeFound q381.1 Xblocks_n q381.2.2.2.2.1).bind (fun q411 => some (q411.1, (0 : Int32), q411.1, q381.1, (0 : Int32), q381.2.1, (4 : Int32), q381.2.2.2.1, q411.2, q381.2.2.2.2.2.1, q381.2.2.2.2.2.2))) else (some ((((-1) : Int32) - (4 : Int32)), (0 : Int32), X_many, q381.1, (0 : Int32), q381.2.1, (4 : Int32), q381.2.2.2.1, q381.2.2.2.2.1, q381.2.2.2.2.2.1, q381.2.2.2.2.2.2)))))))))))))
set_option maxHeartbeats 4000000 in
set_option maxRecDepth 100000 in
theorem c_M_read (l : Launch) (dC : Nat → ClassId) (dI : Nat → Nat → Nat) (cI cL : ClassId) {ws0 : va_W} (sz : Nat) {aX aXpicture aXhalf aXblocks aXencoded aXfed aXpile aXnews aXolds aXhalves aXds aXrs aXbest : Nat} {X_code X_side X_many X_found X_encodedBits X_fedMany X_readAt X_why X_tried X_waiting X_decoded : Int32} {X_bestError : Int64} {Xblocks_n Xfed_n Xpile_n Xbest_n : Nat} {Xblocks_f Xfed_f Xpile_f Xbest_f : Nat → Int32} (hN_X : ws0[21]? = some (aX, .inr (7, [.int X_code, .int X_side, .ref aXpicture, .ref aXhalf, .int X_many, .ref aXblocks, .int X_found, .int X_encodedBits, .ref aXencoded, .int X_fedMany, .ref aXfed, .int X_readAt, .int X_why, .int X_tried, .int X_waiting, .ref aXpile, .int X_decoded, .ref aXnews, .ref aXolds, .ref aXhalves, .ref aXds, .ref aXrs, .ref aXbest, .long X_bestError]))) (hN_Xblocks : ws0[24]? = some (aXblocks, .inl (cI, Xblocks_n, .inl Xblocks_f))) (hN_Xfed : ws0[26]? = some (aXfed, .inl (cI, Xfed_n, .inl Xfed_f))) (hN_Xpile : ws0[27]? = some (aXpile, .inl (cI, Xpile_n, .inl Xpile_f))) (hN_Xbest : ws0[33]? = some (aXbest, .inl (cI, Xbest_n, .inl Xbest_f))) (r : Int32 × Int32 × Int32 × Int32 × Int32 × Int32 × Int32 × Int32 × (Nat → Int32) × (Nat → Int32) × (Nat → Int32)) (hf : f_M_read X_side X_many X_found X_fedMany X_readAt X_why X_waiting Xblocks_n Xblocks_f Xfed_n Xfed_f Xpile_n Xpile_f Xbest_n Xbest_f = some r) : Met l y_M_read w_M_read rm_M_read (va_Pc [.ref aX] (zM dC dI cI cL ws0 sz)) (va_Qi (fun (v : Int32) (ws' : va_W) => v = r.1 ∧ ws'[21]? = some (aX, .inr (7, [.int r.2.1, .int X_side, .ref aXpicture, .ref aXhalf, .int r.2.2.1, .ref aXblocks, .int r.2.2.2.1, .int X_encodedBits, .ref aXencoded, .int r.2.2.2.2.1, .ref aXfed, .int r.2.2.2.2.2.1, .int r.2.2.2.2.2.2.1, .int X_tried, .int r.2.2.2.2.2.2.2.1, .ref aXpile, .int X_decoded, .ref aXnews, .ref aXolds, .ref aXhalves, .ref aXds, .ref aXrs, .ref aXbest, .long X_bestError])) ∧ ws'[24]? = some (aXblocks, .inl (cI, Xblocks_n, .inl r.2.2.2.2.2.2.2.2.1)) ∧ ws'[27]? = some (aXpile, .inl (cI, Xpile_n, .inl r.2.2.2.2.2.2.2.2.2.1)) ∧ ws'[33]? = some (aXbest, .inl (cI, Xbest_n, .inl r.2.2.2.2.2.2.2.2.2.2)) ∧ ∀ j, j ∉ [21, 24, 27, 33] → ws'[j]? = ws0[j]?) (zQ dC dI cI cL (va_A ws0 sz)) (va_A ws0 sz)) 0 0 (va_A ws0 sz) := by
  refine Met.ofW (cc := b_M_read) (maxL := 6) (ret := some .int) (by decide) rfl ?_
  intro p e s m args below meth c s₁ B hml hv
  obtain ⟨rfl, hsz, hP, hK, hZ, hD0⟩ := hv
  have hx := B.exec
  have hb := B.bytes
  have hr := B.returns
  have hlocks := B.notSynchronized
  have hts : ∀ w ∈ BIG, w.before ([.ref aX] : List Value).toArray s = true := fun w h => atoms_spec (ws := w_M_read) B.pre w (List.mem_cons_of_mem _ h)
  have hown : s.vm.findClass "FractalMapsModel" = some m.cls := findClass_of_methodNamed B.named
  subst hsz
  have hD := hD0.self (sz := s.heap.size)
  generalize hAe : va_A ws0 s.heap.size = A at hD ⊢
  have hA : ∀ q : Nat, s.heap.size ≤ q → A q := fun q h => by rw [← hAe]; exact Or.inr h
  have hS : va_S A s.heap s.heap [] := va_S.rf
  have hw : ∀ j, j ∉ [21, 24, 27, 33] → ws0[j]? = ws0[j]? := fun _ _ => rfl
  have hl := lv_entry ([.ref aX]) (n := 6) (Nat.le_of_ble_eq_true rfl)
  rw [lg_entry_eq]
  generalize (lg_sl ([.ref aX]) ++ List.replicate (6 - (lg_sl ([.ref aX])).length) Slot.unset).toArray = ls at hl ⊢
  have hl : lv_has ls 6 [(0, .ref aX)] := hl
  unfold f_M_read at hf
  refine lv_aload_n hx hb d_M_read_0 rfl (lv_at hl 0 rfl) ?_
  refine lv_iconst (v := 0) hx hb d_M_read_1 (by decide) ?_
  refine pf_M_50 (v := .int (0 : Int32)) hx hb hts hown hK hP hD hS hN_X rfl rfl (Nat.le_of_ble_eq_true rfl) d_M_read_2 (fun ws H locs hP hD hS hN_X hfr => ?_)
  have hN_X : ws[21]? = some (aX, .inr (7, [.int (0 : Int32), .int X_side, .ref aXpicture, .ref aXhalf, .int X_many, .ref aXblocks, .int X_found, .int X_encodedBits, .ref aXencoded, .int X_fedMany, .ref aXfed, .int X_readAt, .int X_why, .int X_tried, .int X_waiting, .ref aXpile, .int X_decoded, .ref aXnews, .ref aXolds, .ref aXhalves, .ref aXds, .ref aXrs, .ref aXbest, .long X_bestError])) := hN_X
  have hN_Xblocks := (hfr _ (by decide)).trans hN_Xblocks
  have hN_Xfed := (hfr _ (by decide)).trans hN_Xfed
  have hN_Xpile := (hfr _ (by decide)).trans hN_Xpile
  have hN_Xbest := (hfr _ (by decide)).trans hN_Xbest
  have hw := z_fr (by decide) hw hfr
  refine lv_aload_n hx hb d_M_read_5 rfl (lv_at hl 0 rfl) ?_
  refine lv_iconst (v := 0) hx hb d_M_read_6 (by decide) ?_
  refine pf_M_169 (v := .int (0 : Int32)) hx hb hts hown hK hP hD hS hN_X rfl rfl (Nat.le_of_ble_eq_true rfl) d_M_read_7 (fun ws H locs hP hD hS hN_X hfr => ?_)
  have hN_X : ws[21]? = some (aX, .inr (7, [.int (0 : Int32), .int X_side, .ref aXpicture, .ref aXhalf, .int X_many, .ref aXblocks, .int X_found, .int X_encodedBits, .ref aXencoded, .int X_fedMany, .ref aXfed, .int (0 : Int32), .int X_why, .int X_tried, .int X_waiting, .ref aXpile, .int X_decoded, .ref aXnews, .ref aXolds, .ref aXhalves, .ref aXds, .ref aXrs, .ref aXbest, .long X_bestError])) := hN_X
  have hN_Xblocks := (hfr _ (by decide)).trans hN_Xblocks
  have hN_Xfed := (hfr _ (by decide)).trans hN_Xfed
  have hN_Xpile := (hfr _ (by decide)).trans hN_Xpile
  have hN_Xbest := (hfr _ (by decide)).trans hN_Xbest
  have hw := z_fr (by decide) hw hfr
  refine lv_aload_n hx hb d_M_read_10 rfl (lv_at hl 0 rfl) ?_
  refine lv_iconst (v := (-1)) hx hb d_M_read_11 (by decide) ?_
  refine pf_M_166 (v := .int ((-1) : Int32)) hx hb hts hown hK hP hD hS hN_X rfl rfl (Nat.le_of_ble_eq_true rfl) d_M_read_12 (fun ws H locs hP hD hS hN_X hfr => ?_)
  have hN_X : ws[21]? = some (aX, .inr (7, [.int (0 : Int32), .int X_side, .ref aXpicture, .ref aXhalf, .int X_many, .ref aXblocks, .int X_found, .int X_encodedBits, .ref aXencoded, .int X_fedMany, .ref aXfed, .int (0 : Int32), .int ((-1) : Int32), .int X_tried, .int X_waiting, .ref aXpile, .int X_decoded, .ref aXnews, .ref aXolds, .ref aXhalves, .ref aXds, .ref aXrs, .ref aXbest, .long X_bestError])) := hN_X
  have hN_Xblocks := (hfr _ (by decide)).trans hN_Xblocks
  have hN_Xfed := (hfr _ (by decide)).trans hN_Xfed
  have hN_Xpile := (hfr _ (by decide)).trans hN_Xpile
  have hN_Xbest := (hfr _ (by decide)).trans hN_Xbest
  have hw := z_fr (by decide) hw hfr
  refine lv_aload_n hx hb d_M_read_15 rfl (lv_at hl 0 rfl) ?_
  refine lv_iconst (v := 0) hx hb d_M_read_16 (by decide) ?_
  refine pf_M_120 (v := .int (0 : Int32)) hx hb hts hown hK hP hD hS hN_X rfl rfl (Nat.le_of_ble_eq_true rfl) d_M_read_17 (fun ws H locs hP hD hS hN_X hfr => ?_)
  have hN_X : ws[21]? = some (aX, .inr (7, [.int (0 : Int32), .int X_side, .ref aXpicture, .ref aXhalf, .int X_many, .ref aXblocks, .int (0 : Int32), .int X_encodedBits, .ref aXencoded, .int X_fedMany, .ref aXfed, .int (0 : Int32), .int ((-1) : Int32), .int X_tried, .int X_waiting, .ref aXpile, .int X_decoded, .ref aXnews, .ref aXolds, .ref aXhalves, .ref aXds, .ref aXrs, .ref aXbest, .long X_bestError])) := hN_X
  have hN_Xblocks := (hfr _ (by decide)).trans hN_Xblocks
  have hN_Xfed := (hfr _ (by decide)).trans hN_Xfed
  have hN_Xpile := (hfr _ (by decide)).trans hN_Xpile
  have hN_Xbest := (hfr _ (by decide)).trans hN_Xbest
  have hw := z_fr (by decide) hw hfr
  refine lv_aload_n hx hb d_M_read_20 rfl (lv_at hl 0 rfl) ?_
  refine lv_iconst (v := 0) hx hb d_M_read_21 (by decide) ?_
  refine pf_M_114 (v := .int (0 : Int32)) hx hb hts hown hK hP hD hS hN_X rfl rfl (Nat.le_of_ble_eq_true rfl) d_M_read_22 (fun ws H locs hP hD hS hN_X hfr => ?_)
  have hN_X : ws[21]? = some (aX, .inr (7, [.int (0 : Int32), .int X_side, .ref aXpicture, .ref aXhalf, .int X_many, .ref aXblocks, .int (0 : Int32), .int X_encodedBits, .ref aXencoded, .int X_fedMany, .ref aXfed, .int (0 : Int32), .int ((-1) : Int32), .int X_tried, .int (0 : Int32), .ref aXpile, .int X_decoded, .ref aXnews, .ref aXolds, .ref aXhalves, .ref aXds, .ref aXrs, .ref aXbest, .long X_bestError])) := hN_X
  have hN_Xblocks := (hfr _ (by decide)).trans hN_Xblocks
  have hN_Xfed := (hfr _ (by decide)).trans hN_Xfed
  have hN_Xpile := (hfr _ (by decide)).trans hN_Xpile
  have hN_Xbest := (hfr _ (by decide)).trans hN_Xbest
  have hw := z_fr (by decide) hw hfr
  refine lv_aload_n hx hb d_M_read_25 rfl (lv_at hl 0 rfl) ?_
  refine lv_iconst (v := 3) hx hb d_M_read_26 (by decide) ?_
  obtain ⟨q275, hc, hf⟩ := z_b hf
  have hFc := z_free hD hS hA
  refine va_calli (va_runV (As := [.int (3 : Int32)]) (rest := []) ⟨hx, hb, hml, hown, hts⟩ (c_M_take l dC dI cI cL _ (3 : Int32) hN_X hN_Xfed q275 hc) (cw_M_175 hts ⟨Nat.le_of_ble_eq_true rfl, Nat.le_of_ble_eq_true rfl⟩) ⟨zbM, va_recv hK hP (ci := 7) rfl hN_X, (zpM hP hK hZ hD)⟩ rfl rfl hl.1 rfl (lv_room (Nat.le_of_ble_eq_true rfl)) d_M_read_27 ⟨Nat.zero_le _, Nat.zero_le _⟩) hS (fun q _ h => hFc q h) hFc (fun rv ws t H locs ht hvm hu hB hz1 hk1 hS => ?_)
  obtain ⟨hv, hN_X, hfr⟩ := hu
  subst hv
  obtain ⟨hP, -, hD1⟩ := hB
  rw [ht] at hP
  have hD := hD1.weaken (fun _ _ _ h => hFc _ h)
  have hN_X : ws[21]? = some (aX, .inr (7, [.int (0 : Int32), .int X_side, .ref aXpicture, .ref aXhalf, .int X_many, .ref aXblocks, .int (0 : Int32), .int X_encodedBits, .ref aXencoded, .int X_fedMany, .ref aXfed, .int q275.2.1, .int q275.2.2, .int X_tried, .int (0 : Int32), .ref aXpile, .int X_decoded, .ref aXnews, .ref aXolds, .ref aXhalves, .ref aXds, .ref aXrs, .ref aXbest, .long X_bestError])) := hN_X
  have hN_Xblocks := (hfr _ (by decide)).trans hN_Xblocks
  have hN_Xfed := (hfr _ (by decide)).trans hN_Xfed
  have hN_Xpile := (hfr _ (by decide)).trans hN_Xpile
  have hN_Xbest := (hfr _ (by decide)).trans hN_Xbest
  have hw := z_frC (by decide) hw hfr
  refine lv_istore_n (lv' := [(1, .int q275.1), (0, .ref aX)]) hx hb d_M_read_30 rfl hl (by decide) rfl (fun ls hl => ?_)
  refine lv_iconst (v := 1) hx hb d_M_read_31 (by decide) ?_
  refine lv_iload_n hx hb d_M_read_32 rfl (lv_at hl 0 rfl) ?_
  refine lv_ishl hx hb d_M_read_33 ?_
  refine lv_istore_n (lv' := [(2, .int ((1 : Int32) <<< (q275.1 &&& 31))), (1, .int q275.1), (0, .ref aX)]) hx hb d_M_read_34 rfl hl (by decide) rfl (fun ls hl => ?_)
  refine lv_aload_n hx hb d_M_read_35 rfl (lv_at hl 2 rfl) ?_
  refine lv_aload_n hx hb d_M_read_36 rfl (lv_at hl 2 rfl) ?_
  refine gf_M_166 (v := .int q275.2.2) hx hb hts hown hK hP hN_X rfl d_M_read_37 ?_
  refine lv_if_ge (tgt := 69) hx hb d_M_read_40 (by decide) (fun hc => ?_) (fun hc => ?_)
  · have hf := z_t hc hf
    refine lv_aload_n hx hb d_M_read_69 rfl (lv_at hl 2 rfl) ?_
    refine gf_M_166 (v := .int q275.2.2) hx hb hts hown hK hP hN_X rfl d_M_read_70 ?_
    refine pf_M_166 (v := .int q275.2.2) hx hb hts hown hK hP hD hS hN_X rfl rfl (Nat.le_of_ble_eq_true rfl) d_M_read_73 (fun ws H locs hP hD hS hN_X hfr => ?_)
    have hN_X : ws[21]? = some (aX, .inr (7, [.int (0 : Int32), .int X_side, .ref aXpicture, .ref aXhalf, .int X_many, .ref aXblocks, .int (0 : Int32), .int X_encodedBits, .ref aXencoded, .int X_fedMany, .ref aXfed, .int q275.2.1, .int q275.2.2, .int X_tried, .int (0 : Int32), .ref aXpile, .int X_decoded, .ref aXnews, .ref aXolds, .ref aXhalves, .ref aXds, .ref aXrs, .ref aXbest, .long X_bestError])) := hN_X
    have hN_Xblocks := (hfr _ (by decide)).trans hN_Xblocks
    have hN_Xfed := (hfr _ (by decide)).trans hN_Xfed
    have hN_Xpile := (hfr _ (by decide)).trans hN_Xpile
    have hN_Xbest := (hfr _ (by decide)).trans hN_Xbest
    have hw := z_fr (by decide) hw hfr
    refine lv_aload_n hx hb d_M_read_76 rfl (lv_at hl 2 rfl) ?_
    refine lv_iconst (v := 0) hx hb d_M_read_77 (by decide) ?_
    refine lv_iconst (v := 0) hx hb d_M_read_78 (by decide) ?_
    refine lv_aload_n hx hb d_M_read_79 rfl (lv_at hl 2 rfl) ?_
    refine gf_M_46 (v := .int X_side) hx hb hts hown hK hP hN_X rfl d_M_read_80 ?_
    obtain ⟨q276, hc, hf⟩ := z_b hf
    have hFc := z_free hD hS hA
    refine va_callv (va_runV (As := [.int (0 : Int32), .int (0 : Int32), .int X_side]) (rest := []) ⟨hx, hb, hml, hown, hts⟩ (c_M_pileQuarters l dC dI cI cL _ (0 : Int32) (0 : Int32) X_side hN_X hN_Xpile q276 hc) (cw_M_141 hts ⟨Nat.le_of_ble_eq_true rfl, Nat.le_of_ble_eq_true rfl⟩) ⟨zbM, va_recv hK hP (ci := 7) rfl hN_X, (zpM hP hK hZ hD)⟩ rfl rfl hl.1 rfl (lv_room (Nat.le_of_ble_eq_true rfl)) d_M_read_83 ⟨Nat.zero_le _, Nat.zero_le _⟩) hS (fun q _ h => hFc q h) hFc (fun ws t H locs ht hvm hu hB hz1 hk1 hS => ?_)
    obtain ⟨hN_X, hN_Xpile, hfr⟩ := hu
    obtain ⟨hP, -, hD1⟩ := hB
    rw [ht] at hP
    have hD := hD1.weaken (fun _ _ _ h => hFc _ h)
    have hN_X : ws[21]? = some (aX, .inr (7, [.int (0 : Int32), .int X_side, .ref aXpicture, .ref aXhalf, .int X_many, .ref aXblocks, .int (0 : Int32), .int X_encodedBits, .ref aXencoded, .int X_fedMany, .ref aXfed, .int q275.2.1, .int q275.2.2, .int X_tried, .int q276.1, .ref aXpile, .int X_decoded, .ref aXnews, .ref aXolds, .ref aXhalves, .ref aXds, .ref aXrs, .ref aXbest, .long X_bestError])) := hN_X
    have hN_Xpile : ws[27]? = some (aXpile, .inl (cI, Xpile_n, .inl q276.2)) := hN_Xpile
    have hN_Xblocks := (hfr _ (by decide)).trans hN_Xblocks
    have hN_Xfed := (hfr _ (by decide)).trans hN_Xfed
    have hN_Xbest := (hfr _ (by decide)).trans hN_Xbest
    have hw := z_frC (by decide) hw hfr
    have lp289 : ∀ (Qx : State → Prop) (n : Nat) (X_found_282 : Int32) (X_readAt_283 : Int32) (X_why_284 : Int32) (X_waiting_285 : Int32) (Xblocks_f_286 : Nat → Int32) (Xpile_f_287 : Nat → Int32) (Xbest_f_288 : Nat → Int32) (ws : va_W) (H : Heap) (locs : List Loc) (ls : Array Slot) (q : Int32 × Int32 × Int32 × Int32 × (Nat → Int32) × (Nat → Int32) × (Nat → Int32)) (hf : f_M_read_86 q275.1 ((1 : Int32) <<< (q275.1 &&& 31)) X_side X_fedMany Xblocks_n Xfed_n Xfed_f Xpile_n Xbest_n n X_found_282 X_readAt_283 X_why_284 X_waiting_285 Xblocks_f_286 Xpile_f_287 Xbest_f_288 = some q) (hl : lv_has ls 6 [(0, .ref aX), (1, .int q275.1), (2, .int ((1 : Int32) <<< (q275.1 &&& 31)))]) (hP : va_P (dC, dI) classes ws H) (hD : va_D A ws) (hS : va_S A s.heap H locs) (hN_X : ws[21]? = some (aX, .inr (7, [.int (0 : Int32), .int X_side, .ref aXpicture, .ref aXhalf, .int X_many, .ref aXblocks, .int X_found_282, .int X_encodedBits, .ref aXencoded, .int X_fedMany, .ref aXfed, .int X_readAt_283, .int X_why_284, .int X_tried, .int X_waiting_285, .ref aXpile, .int X_decoded, .ref aXnews, .ref aXolds, .ref aXhalves, .ref aXds, .ref aXrs, .ref aXbest, .long X_bestError]))) (hN_Xblocks : ws[24]? = some (aXblocks, .inl (cI, Xblocks_n, .inl Xblocks_f_286))) (hN_Xfed : ws[26]? = some (aXfed, .inl (cI, Xfed_n, .inl Xfed_f))) (hN_Xpile : ws[27]? = some (aXpile, .inl (cI, Xpile_n, .inl Xpile_f_287))) (hN_Xbest : ws[33]? = some (aXbest, .inl (cI, Xbest_n, .inl Xbest_f_288))) (hw : ∀ j, j ∉ [21, 24, 27, 33] → ws[j]? = ws0[j]?) (kt0 : ∀ (ws : va_W) (H : Heap) (locs : List Loc) (ls : Array Slot), lv_has ls 6 [(0, .ref aX), (1, .int q275.1), (2, .int ((1 : Int32) <<< (q275.1 &&& 31)))] → (va_P (dC, dI) classes ws H) → (va_D A ws) → (va_S A s.heap H locs) → (ws[21]? = some (aX, .inr (7, [.int (0 : Int32), .int X_side, .ref aXpicture, .ref aXhalf, .int X_many, .ref aXblocks, .int q.1, .int X_encodedBits, .ref aXencoded, .int X_fedMany, .ref aXfed, .int q.2.1, .int q.2.2.1, .int X_tried, .int q.2.2.2.1, .ref aXpile, .int X_decoded, .ref aXnews, .ref aXolds, .ref aXhalves, .ref aXds, .ref aXrs, .ref aXbest, .long X_bestError]))) → (ws[24]? = some (aXblocks, .inl (cI, Xblocks_n, .inl q.2.2.2.2.1))) → (ws[26]? = some (aXfed, .inl (cI, Xfed_n, .inl Xfed_f))) → (ws[27]? = some (aXpile, .inl (cI, Xpile_n, .inl q.2.2.2.2.2.1))) → (ws[33]? = some (aXbest, .inl (cI, Xbest_n, .inl q.2.2.2.2.2.2))) → (∀ j, j ∉ [21, 24, 27, 33] → ws[j]? = ws0[j]?) → W p l e (headSpec w_M_read rm_M_read).room s m ([.ref aX] : List Value).toArray below meth c H locs 0 0 Qx (F0 m 191 ls [])), W p l e (headSpec w_M_read rm_M_read).room s m ([.ref aX] : List Value).toArray below meth c H locs 0 0 Qx (F0 m 86 ls []) := by
      intro Qx n
      induction n with
      | zero => intro X_found_282 X_readAt_283 X_why_284 X_waiting_285 Xblocks_f_286 Xpile_f_287 Xbest_f_288 ws H locs ls q hf; cases hf
      | succ n ih =>
        intro X_found_282 X_readAt_283 X_why_284 X_waiting_285 Xblocks_f_286 Xpile_f_287 Xbest_f_288 ws H locs ls q hf hl hP hD hS hN_X hN_Xblocks hN_Xfed hN_Xpile hN_Xbest hw kt0
        rw [f_M_read_86] at hf
        refine lv_aload_n hx hb d_M_read_86 rfl (lv_at hl 0 rfl) ?_
        refine gf_M_114 (v := .int X_waiting_285) hx hb hts hown hK hP hN_X rfl d_M_read_87 ?_
        refine lv_if_le (tgt := 191) hx hb d_M_read_90 (by decide) (fun hc => ?_) (fun hc => ?_)
        · have hf := z_t hc hf
          obtain rfl := Option.some.inj hf
          exact kt0 _ _ _ ls (lv_sub hl [0, 1, 2] rfl) hP hD hS hN_X hN_Xblocks hN_Xfed hN_Xpile hN_Xbest hw
        · have hf := z_f hc hf
          refine lv_aload_n hx hb d_M_read_93 rfl (lv_at hl 0 rfl) ?_
          refine gf_M_166 (v := .int X_why_284) hx hb hts hown hK hP hN_X rfl d_M_read_94 ?_
          refine lv_if_ge (tgt := 191) hx hb d_M_read_97 (by decide) (fun hc => ?_) (fun hc => ?_)
          · have hf := z_t hc hf
            obtain rfl := Option.some.inj hf
            exact kt0 _ _ _ ls (lv_sub hl [0, 1, 2] rfl) hP hD hS hN_X hN_Xblocks hN_Xfed hN_Xpile hN_Xbest hw
          · have hf := z_f hc hf
            refine lv_aload_n hx hb d_M_read_100 rfl (lv_at hl 0 rfl) ?_
            refine lv_dup hx hb d_M_read_101 rfl ?_
            refine gf_M_114 (v := .int X_waiting_285) hx hb hts hown hK hP hN_X rfl d_M_read_102 ?_
            refine lv_iconst (v := 1) hx hb d_M_read_105 (by decide) ?_
            refine lv_isub hx hb d_M_read_106 ?_
            refine pf_M_114 (v := .int (X_waiting_285 - (1 : Int32))) hx hb hts hown hK hP hD hS hN_X rfl rfl (Nat.le_of_ble_eq_true rfl) d_M_read_107 (fun ws H locs hP hD hS hN_X hfr => ?_)
            have hN_X : ws[21]? = some (aX, .inr (7, [.int (0 : Int32), .int X_side, .ref aXpicture, .ref aXhalf, .int X_many, .ref aXblocks, .int X_found_282, .int X_encodedBits, .ref aXencoded, .int X_fedMany, .ref aXfed, .int X_readAt_283, .int X_why_284, .int X_tried, .int (X_waiting_285 - (1 : Int32)), .ref aXpile, .int X_decoded, .ref aXnews, .ref aXolds, .ref aXhalves, .ref aXds, .ref aXrs, .ref aXbest, .long X_bestError])) := hN_X
            have hN_Xblocks := (hfr _ (by decide)).trans hN_Xblocks
            have hN_Xfed := (hfr _ (by decide)).trans hN_Xfed
            have hN_Xpile := (hfr _ (by decide)).trans hN_Xpile
            have hN_Xbest := (hfr _ (by decide)).trans hN_Xbest
            have hw := z_fr (by decide) hw hfr
            refine lv_aload_n hx hb d_M_read_110 rfl (lv_at hl 0 rfl) ?_
            refine gf_M_25 (v := .ref aXpile) hx hb hts hown hK hP hN_X rfl d_M_read_111 ?_
            refine lv_iconst (v := 3) hx hb d_M_read_114 (by decide) ?_
            refine lv_aload_n hx hb d_M_read_115 rfl (lv_at hl 0 rfl) ?_
            refine gf_M_114 (v := .int (X_waiting_285 - (1 : Int32))) hx hb hts hown hK hP hN_X rfl d_M_read_116 ?_
            refine lv_imul hx hb d_M_read_119 ?_
            obtain ⟨hin, hf⟩ := z_no hf
            refine va_iald hx hb hK hP _ 0 hN_Xpile rfl hin d_M_read_120 ?_
            refine lv_istore_n (lv' := [(3, .int (Xpile_f_287 ((3 : Int32) * (X_waiting_285 - (1 : Int32))).toNatClampNeg)), (0, .ref aX), (1, .int q275.1), (2, .int ((1 : Int32) <<< (q275.1 &&& 31)))]) hx hb d_M_read_121 rfl hl (by decide) rfl (fun ls hl => ?_)
            refine lv_aload_n hx hb d_M_read_122 rfl (lv_at hl 1 rfl) ?_
            refine gf_M_25 (v := .ref aXpile) hx hb hts hown hK hP hN_X rfl d_M_read_123 ?_
            refine lv_iconst (v := 3) hx hb d_M_read_126 (by decide) ?_
            refine lv_aload_n hx hb d_M_read_127 rfl (lv_at hl 1 rfl) ?_
            refine gf_M_114 (v := .int (X_waiting_285 - (1 : Int32))) hx hb hts hown hK hP hN_X rfl d_M_read_128 ?_
            refine lv_imul hx hb d_M_read_131 ?_
            refine lv_iconst (v := 1) hx hb d_M_read_132 (by decide) ?_
            refine lv_iadd hx hb d_M_read_133 ?_
            obtain ⟨hin, hf⟩ := z_no hf
            refine va_iald hx hb hK hP _ 0 hN_Xpile rfl hin d_M_read_134 ?_
            refine lv_istore (lv' := [(4, .int (Xpile_f_287 (((3 : Int32) * (X_waiting_285 - (1 : Int32))) + (1 : Int32)).toNatClampNeg)), (3, .int (Xpile_f_287 ((3 : Int32) * (X_waiting_285 - (1 : Int32))).toNatClampNeg)), (0, .ref aX), (1, .int q275.1), (2, .int ((1 : Int32) <<< (q275.1 &&& 31)))]) hx hb d_M_read_135 hl (by decide) rfl (fun ls hl => ?_)
            refine lv_aload_n hx hb d_M_read_137 rfl (lv_at hl 2 rfl) ?_
            refine gf_M_25 (v := .ref aXpile) hx hb hts hown hK hP hN_X rfl d_M_read_138 ?_
            refine lv_iconst (v := 3) hx hb d_M_read_141 (by decide) ?_
            refine lv_aload_n hx hb d_M_read_142 rfl (lv_at hl 2 rfl) ?_
            refine gf_M_114 (v := .int (X_waiting_285 - (1 : Int32))) hx hb hts hown hK hP hN_X rfl d_M_read_143 ?_
            refine lv_imul hx hb d_M_read_146 ?_
            refine lv_iconst (v := 2) hx hb d_M_read_147 (by decide) ?_
            refine lv_iadd hx hb d_M_read_148 ?_
            obtain ⟨hin, hf⟩ := z_no hf
            refine va_iald hx hb hK hP _ 0 hN_Xpile rfl hin d_M_read_149 ?_
            refine lv_istore (lv' := [(5, .int (Xpile_f_287 (((3 : Int32) * (X_waiting_285 - (1 : Int32))) + (2 : Int32)).toNatClampNeg)), (4, .int (Xpile_f_287 (((3 : Int32) * (X_waiting_285 - (1 : Int32))) + (1 : Int32)).toNatClampNeg)), (3, .int (Xpile_f_287 ((3 : Int32) * (X_waiting_285 - (1 : Int32))).toNatClampNeg)), (0, .ref aX), (1, .int q275.1), (2, .int ((1 : Int32) <<< (q275.1 &&& 31)))]) hx hb d_M_read_150 hl (by decide) rfl (fun ls hl => ?_)
            refine lv_iload hx hb d_M_read_152 (lv_at hl 0 rfl) ?_
            refine lv_iload_n hx hb d_M_read_154 rfl (lv_at hl 5 rfl) ?_
            refine lv_icmp_le (tgt := 179) hx hb d_M_read_155 (by decide) (fun hc => ?_) (fun hc => ?_)
            · have hf := z_t hc hf
              refine lv_aload_n hx hb d_M_read_179 rfl (lv_at hl 3 rfl) ?_
              refine lv_iload_n hx hb d_M_read_180 rfl (lv_at hl 2 rfl) ?_
              refine lv_iload hx hb d_M_read_181 (lv_at hl 1 rfl) ?_
              refine lv_iload hx hb d_M_read_183 (lv_at hl 0 rfl) ?_
              obtain ⟨q290, hc, hf⟩ := z_b hf
              have hFc := z_free hD hS hA
              refine va_callv (va_runV (As := [.int (Xpile_f_287 ((3 : Int32) * (X_waiting_285 - (1 : Int32))).toNatClampNeg), .int (Xpile_f_287 (((3 : Int32) * (X_waiting_285 - (1 : Int32))) + (1 : Int32)).toNatClampNeg), .int (Xpile_f_287 (((3 : Int32) * (X_waiting_285 - (1 : Int32))) + (2 : Int32)).toNatClampNeg)]) (rest := []) ⟨hx, hb, hml, hown, hts⟩ (c_M_readBlock l dC dI cI cL _ (Xpile_f_287 ((3 : Int32) * (X_waiting_285 - (1 : Int32))).toNatClampNeg) (Xpile_f_287 (((3 : Int32) * (X_waiting_285 - (1 : Int32))) + (1 : Int32)).toNatClampNeg) (Xpile_f_287 (((3 : Int32) * (X_waiting_285 - (1 : Int32))) + (2 : Int32)).toNatClampNeg) hN_X hN_Xblocks hN_Xfed hN_Xbest q290 hc) (cw_M_180 hts ⟨Nat.le_of_ble_eq_true rfl, Nat.le_of_ble_eq_true rfl⟩) ⟨zbM, va_recv hK hP (ci := 7) rfl hN_X, (zpM hP hK hZ hD)⟩ rfl rfl hl.1 rfl (lv_room (Nat.le_of_ble_eq_true rfl)) d_M_read_185 ⟨Nat.zero_le _, Nat.zero_le _⟩) hS (fun q _ h => hFc q h) hFc (fun ws t H locs ht hvm hu hB hz1 hk1 hS => ?_)
              obtain ⟨hN_X, hN_Xblocks, hN_Xbest, hfr⟩ := hu
              obtain ⟨hP, -, hD1⟩ := hB
              rw [ht] at hP
              have hD := hD1.weaken (fun _ _ _ h => hFc _ h)
              have hN_X : ws[21]? = some (aX, .inr (7, [.int (0 : Int32), .int X_side, .ref aXpicture, .ref aXhalf, .int X_many, .ref aXblocks, .int q290.1, .int X_encodedBits, .ref aXencoded, .int X_fedMany, .ref aXfed, .int q290.2.1, .int q290.2.2.1, .int X_tried, .int (X_waiting_285 - (1 : Int32)), .ref aXpile, .int X_decoded, .ref aXnews, .ref aXolds, .ref aXhalves, .ref aXds, .ref aXrs, .ref aXbest, .long X_bestError])) := hN_X
              have hN_Xblocks : ws[24]? = some (aXblocks, .inl (cI, Xblocks_n, .inl q290.2.2.2.1)) := hN_Xblocks
              have hN_Xbest : ws[33]? = some (aXbest, .inl (cI, Xbest_n, .inl q290.2.2.2.2)) := hN_Xbest
              have hN_Xfed := (hfr _ (by decide)).trans hN_Xfed
              have hN_Xpile := (hfr _ (by decide)).trans hN_Xpile
              have hw := z_frC (by decide) hw hfr
              refine lv_goto (tgt := 86) hx hb d_M_read_188 (by decide) ?_
              exact ih q290.1 q290.2.1 q290.2.2.1 (X_waiting_285 - (1 : Int32)) q290.2.2.2.1 Xpile_f_287 q290.2.2.2.2 _ _ _ ls _ hf (lv_sub hl [3, 4, 5] rfl) hP hD hS hN_X hN_Xblocks hN_Xfed hN_Xpile hN_Xbest hw kt0
            · have hf := z_f hc hf
              refine lv_aload_n hx hb d_M_read_158 rfl (lv_at hl 3 rfl) ?_
              refine lv_iconst (v := 1) hx hb d_M_read_159 (by decide) ?_
              obtain ⟨q291, hc, hf⟩ := z_b hf
              have hFc := z_free hD hS hA
              refine va_calli (va_runV (As := [.int (1 : Int32)]) (rest := []) ⟨hx, hb, hml, hown, hts⟩ (c_M_take l dC dI cI cL _ (1 : Int32) hN_X hN_Xfed q291 hc) (cw_M_175 hts ⟨Nat.le_of_ble_eq_true rfl, Nat.le_of_ble_eq_true rfl⟩) ⟨zbM, va_recv hK hP (ci := 7) rfl hN_X, (zpM hP hK hZ hD)⟩ rfl rfl hl.1 rfl (lv_room (Nat.le_of_ble_eq_true rfl)) d_M_read_160 ⟨Nat.zero_le _, Nat.zero_le _⟩) hS (fun q _ h => hFc q h) hFc (fun rv ws t H locs ht hvm hu hB hz1 hk1 hS => ?_)
              obtain ⟨hv, hN_X, hfr⟩ := hu
              subst hv
              obtain ⟨hP, -, hD1⟩ := hB
              rw [ht] at hP
              have hD := hD1.weaken (fun _ _ _ h => hFc _ h)
              have hN_X : ws[21]? = some (aX, .inr (7, [.int (0 : Int32), .int X_side, .ref aXpicture, .ref aXhalf, .int X_many, .ref aXblocks, .int X_found_282, .int X_encodedBits, .ref aXencoded, .int X_fedMany, .ref aXfed, .int q291.2.1, .int q291.2.2, .int X_tried, .int (X_waiting_285 - (1 : Int32)), .ref aXpile, .int X_decoded, .ref aXnews, .ref aXolds, .ref aXhalves, .ref aXds, .ref aXrs, .ref aXbest, .long X_bestError])) := hN_X
              have hN_Xblocks := (hfr _ (by decide)).trans hN_Xblocks
              have hN_Xfed := (hfr _ (by decide)).trans hN_Xfed
              have hN_Xpile := (hfr _ (by decide)).trans hN_Xpile
              have hN_Xbest := (hfr _ (by decide)).trans hN_Xbest
              have hw := z_frC (by decide) hw hfr
              refine lv_iconst (v := 1) hx hb d_M_read_163 (by decide) ?_
              refine lv_icmp_ne (tgt := 179) hx hb d_M_read_164 (by decide) (fun hc => ?_) (fun hc => ?_)
              · have hf := z_f hc hf
                refine lv_aload_n hx hb d_M_read_179 rfl (lv_at hl 3 rfl) ?_
                refine lv_iload_n hx hb d_M_read_180 rfl (lv_at hl 2 rfl) ?_
                refine lv_iload hx hb d_M_read_181 (lv_at hl 1 rfl) ?_
                refine lv_iload hx hb d_M_read_183 (lv_at hl 0 rfl) ?_
                obtain ⟨q292, hc, hf⟩ := z_b hf
                have hFc := z_free hD hS hA
                refine va_callv (va_runV (As := [.int (Xpile_f_287 ((3 : Int32) * (X_waiting_285 - (1 : Int32))).toNatClampNeg), .int (Xpile_f_287 (((3 : Int32) * (X_waiting_285 - (1 : Int32))) + (1 : Int32)).toNatClampNeg), .int (Xpile_f_287 (((3 : Int32) * (X_waiting_285 - (1 : Int32))) + (2 : Int32)).toNatClampNeg)]) (rest := []) ⟨hx, hb, hml, hown, hts⟩ (c_M_readBlock l dC dI cI cL _ (Xpile_f_287 ((3 : Int32) * (X_waiting_285 - (1 : Int32))).toNatClampNeg) (Xpile_f_287 (((3 : Int32) * (X_waiting_285 - (1 : Int32))) + (1 : Int32)).toNatClampNeg) (Xpile_f_287 (((3 : Int32) * (X_waiting_285 - (1 : Int32))) + (2 : Int32)).toNatClampNeg) hN_X hN_Xblocks hN_Xfed hN_Xbest q292 hc) (cw_M_180 hts ⟨Nat.le_of_ble_eq_true rfl, Nat.le_of_ble_eq_true rfl⟩) ⟨zbM, va_recv hK hP (ci := 7) rfl hN_X, (zpM hP hK hZ hD)⟩ rfl rfl hl.1 rfl (lv_room (Nat.le_of_ble_eq_true rfl)) d_M_read_185 ⟨Nat.zero_le _, Nat.zero_le _⟩) hS (fun q _ h => hFc q h) hFc (fun ws t H locs ht hvm hu hB hz1 hk1 hS => ?_)
                obtain ⟨hN_X, hN_Xblocks, hN_Xbest, hfr⟩ := hu
                obtain ⟨hP, -, hD1⟩ := hB
                rw [ht] at hP
                have hD := hD1.weaken (fun _ _ _ h => hFc _ h)
                have hN_X : ws[21]? = some (aX, .inr (7, [.int (0 : Int32), .int X_side, .ref aXpicture, .ref aXhalf, .int X_many, .ref aXblocks, .int q292.1, .int X_encodedBits, .ref aXencoded, .int X_fedMany, .ref aXfed, .int q292.2.1, .int q292.2.2.1, .int X_tried, .int (X_waiting_285 - (1 : Int32)), .ref aXpile, .int X_decoded, .ref aXnews, .ref aXolds, .ref aXhalves, .ref aXds, .ref aXrs, .ref aXbest, .long X_bestError])) := hN_X
                have hN_Xblocks : ws[24]? = some (aXblocks, .inl (cI, Xblocks_n, .inl q292.2.2.2.1)) := hN_Xblocks
                have hN_Xbest : ws[33]? = some (aXbest, .inl (cI, Xbest_n, .inl q292.2.2.2.2)) := hN_Xbest
                have hN_Xfed := (hfr _ (by decide)).trans hN_Xfed
                have hN_Xpile := (hfr _ (by decide)).trans hN_Xpile
                have hw := z_frC (by decide) hw hfr
                refine lv_goto (tgt := 86) hx hb d_M_read_188 (by decide) ?_
                exact ih q292.1 q292.2.1 q292.2.2.1 (X_waiting_285 - (1 : Int32)) q292.2.2.2.1 Xpile_f_287 q292.2.2.2.2 _ _ _ ls _ hf (lv_sub hl [3, 4, 5] rfl) hP hD hS hN_X hN_Xblocks hN_Xfed hN_Xpile hN_Xbest hw kt0
              · have hf := z_t hc hf
                refine lv_aload_n hx hb d_M_read_167 rfl (lv_at hl 3 rfl) ?_
                refine lv_iload_n hx hb d_M_read_168 rfl (lv_at hl 2 rfl) ?_
                refine lv_iload hx hb d_M_read_169 (lv_at hl 1 rfl) ?_
                refine lv_iload hx hb d_M_read_171 (lv_at hl 0 rfl) ?_
                obtain ⟨q293, hc, hf⟩ := z_b hf
                have hFc := z_free hD hS hA
                refine va_callv (va_runV (As := [.int (Xpile_f_287 ((3 : Int32) * (X_waiting_285 - (1 : Int32))).toNatClampNeg), .int (Xpile_f_287 (((3 : Int32) * (X_waiting_285 - (1 : Int32))) + (1 : Int32)).toNatClampNeg), .int (Xpile_f_287 (((3 : Int32) * (X_waiting_285 - (1 : Int32))) + (2 : Int32)).toNatClampNeg)]) (rest := []) ⟨hx, hb, hml, hown, hts⟩ (c_M_pileQuarters l dC dI cI cL _ (Xpile_f_287 ((3 : Int32) * (X_waiting_285 - (1 : Int32))).toNatClampNeg) (Xpile_f_287 (((3 : Int32) * (X_waiting_285 - (1 : Int32))) + (1 : Int32)).toNatClampNeg) (Xpile_f_287 (((3 : Int32) * (X_waiting_285 - (1 : Int32))) + (2 : Int32)).toNatClampNeg) hN_X hN_Xpile q293 hc) (cw_M_141 hts ⟨Nat.le_of_ble_eq_true rfl, Nat.le_of_ble_eq_true rfl⟩) ⟨zbM, va_recv hK hP (ci := 7) rfl hN_X, (zpM hP hK hZ hD)⟩ rfl rfl hl.1 rfl (lv_room (Nat.le_of_ble_eq_true rfl)) d_M_read_173 ⟨Nat.zero_le _, Nat.zero_le _⟩) hS (fun q _ h => hFc q h) hFc (fun ws t H locs ht hvm hu hB hz1 hk1 hS => ?_)
                obtain ⟨hN_X, hN_Xpile, hfr⟩ := hu
                obtain ⟨hP, -, hD1⟩ := hB
                rw [ht] at hP
                have hD := hD1.weaken (fun _ _ _ h => hFc _ h)
                have hN_X : ws[21]? = some (aX, .inr (7, [.int (0 : Int32), .int X_side, .ref aXpicture, .ref aXhalf, .int X_many, .ref aXblocks, .int X_found_282, .int X_encodedBits, .ref aXencoded, .int X_fedMany, .ref aXfed, .int q291.2.1, .int q291.2.2, .int X_tried, .int q293.1, .ref aXpile, .int X_decoded, .ref aXnews, .ref aXolds, .ref aXhalves, .ref aXds, .ref aXrs, .ref aXbest, .long X_bestError])) := hN_X
                have hN_Xpile : ws[27]? = some (aXpile, .inl (cI, Xpile_n, .inl q293.2)) := hN_Xpile
                have hN_Xblocks := (hfr _ (by decide)).trans hN_Xblocks
                have hN_Xfed := (hfr _ (by decide)).trans hN_Xfed
                have hN_Xbest := (hfr _ (by decide)).trans hN_Xbest
                have hw := z_frC (by decide) hw hfr
                refine lv_goto (tgt := 188) hx hb d_M_read_176 (by decide) ?_
                refine lv_goto (tgt := 86) hx hb d_M_read_188 (by decide) ?_
                exact ih X_found_282 q291.2.1 q291.2.2 q293.1 Xblocks_f_286 q293.2 Xbest_f_288 _ _ _ ls _ hf (lv_sub hl [3, 4, 5] rfl) hP hD hS hN_X hN_Xblocks hN_Xfed hN_Xpile hN_Xbest hw kt0
    obtain ⟨q281, hc, hf⟩ := z_b hf
    refine lp289 _ FU (0 : Int32) q275.2.1 q275.2.2 q276.1 Xblocks_f q276.2 Xbest_f _ _ _ ls q281 hc (lv_sub hl [2, 1, 0] rfl) hP hD hS hN_X hN_Xblocks hN_Xfed hN_Xpile hN_Xbest hw (fun ws H locs ls hl hP hD hS hN_X hN_Xblocks hN_Xfed hN_Xpile hN_Xbest hw => ?_)
    refine lv_bipush (v := 8) hx hb d_M_read_191 (by decide) ?_
    refine lv_aload_n hx hb d_M_read_193 rfl (lv_at hl 0 rfl) ?_
    refine gf_M_163 (v := .int X_fedMany) hx hb hts hown hK hP hN_X rfl d_M_read_194 ?_
    refine lv_imul hx hb d_M_read_197 ?_
    refine lv_aload_n hx hb d_M_read_198 rfl (lv_at hl 0 rfl) ?_
    refine gf_M_169 (v := .int q281.2.1) hx hb hts hown hK hP hN_X rfl d_M_read_199 ?_
    refine lv_isub hx hb d_M_read_202 ?_
    refine lv_bipush (v := 7) hx hb d_M_read_203 (by decide) ?_
    refine lv_icmp_le (tgt := 212) hx hb d_M_read_205 (by decide) (fun hc => ?_) (fun hc => ?_)
    · have hf := z_t hc hf
      refine lv_iconst (v := 0) hx hb d_M_read_212 (by decide) ?_
      refine lv_istore_n (lv' := [(3, .int (0 : Int32)), (0, .ref aX), (1, .int q275.1), (2, .int ((1 : Int32) <<< (q275.1 &&& 31)))]) hx hb d_M_read_213 rfl hl (by decide) rfl (fun ls hl => ?_)
      refine lv_aload_n hx hb d_M_read_214 rfl (lv_at hl 1 rfl) ?_
      refine gf_M_169 (v := .int q281.2.1) hx hb hts hown hK hP hN_X rfl d_M_read_215 ?_
      refine lv_istore (lv' := [(4, .int q281.2.1), (3, .int (0 : Int32)), (0, .ref aX), (1, .int q275.1), (2, .int ((1 : Int32) <<< (q275.1 &&& 31)))]) hx hb d_M_read_218 hl (by decide) rfl (fun ls hl => ?_)
      have lp299 : ∀ (Qx : State → Prop) (n : Nat) (v3_297 : Int32) (v4_298 : Int32) (ls : Array Slot) (q : Int32 × Int32) (hf : f_M_read_220 q275.1 ((1 : Int32) <<< (q275.1 &&& 31)) X_fedMany q281.2.2.1 Xfed_n Xfed_f n v3_297 v4_298 = some q) (hl : lv_has ls 6 [(0, .ref aX), (1, .int q275.1), (2, .int ((1 : Int32) <<< (q275.1 &&& 31))), (3, .int v3_297), (4, .int v4_298)]) (kt0 : ∀ (ls : Array Slot), lv_has ls 6 [(0, .ref aX), (1, .int q275.1), (2, .int ((1 : Int32) <<< (q275.1 &&& 31))), (3, .int q.1), (4, .int q.2)] → W p l e (headSpec w_M_read rm_M_read).room s m ([.ref aX] : List Value).toArray below meth c H locs 0 0 Qx (F0 m 265 ls [])), W p l e (headSpec w_M_read rm_M_read).room s m ([.ref aX] : List Value).toArray below meth c H locs 0 0 Qx (F0 m 220 ls []) := by
        intro Qx n
        induction n with
        | zero => intro v3_297 v4_298 ls q hf; cases hf
        | succ n ih =>
          intro v3_297 v4_298 ls q hf hl kt0
          rw [f_M_read_220] at hf
          refine lv_iload hx hb d_M_read_220 (lv_at hl 4 rfl) ?_
          refine lv_bipush (v := 8) hx hb d_M_read_222 (by decide) ?_
          refine lv_aload_n hx hb d_M_read_224 rfl (lv_at hl 0 rfl) ?_
          refine gf_M_163 (v := .int X_fedMany) hx hb hts hown hK hP hN_X rfl d_M_read_225 ?_
          refine lv_imul hx hb d_M_read_228 ?_
          refine lv_icmp_ge (tgt := 265) hx hb d_M_read_229 (by decide) (fun hc => ?_) (fun hc => ?_)
          · have hf := z_t hc hf
            obtain rfl := Option.some.inj hf
            exact kt0 ls (lv_sub hl [0, 1, 2, 3, 4] rfl)
          · have hf := z_f hc hf
            refine lv_aload_n hx hb d_M_read_232 rfl (lv_at hl 0 rfl) ?_
            refine gf_M_166 (v := .int q281.2.2.1) hx hb hts hown hK hP hN_X rfl d_M_read_233 ?_
            refine lv_if_ge (tgt := 265) hx hb d_M_read_236 (by decide) (fun hc => ?_) (fun hc => ?_)
            · have hf := z_t hc hf
              obtain rfl := Option.some.inj hf
              exact kt0 ls (lv_sub hl [0, 1, 2, 3, 4] rfl)
            · have hf := z_f hc hf
              refine lv_iload_n hx hb d_M_read_239 rfl (lv_at hl 3 rfl) ?_
              refine lv_if_ne (tgt := 253) hx hb d_M_read_240 (by decide) (fun hc => ?_) (fun hc => ?_)
              · have hf := z_f hc hf
                refine lv_iconst (v := 1) hx hb d_M_read_253 (by decide) ?_
                refine lv_goto (tgt := 258) hx hb d_M_read_254 (by decide) ?_
                refine lv_istore_n (lv' := [(3, .int (1 : Int32)), (0, .ref aX), (1, .int q275.1), (2, .int ((1 : Int32) <<< (q275.1 &&& 31))), (4, .int v4_298)]) hx hb d_M_read_258 rfl hl (by decide) rfl (fun ls hl => ?_)
                refine lv_iinc (v := (v4_298 + 1)) (lv' := [(4, .int (v4_298 + 1)), (3, .int (1 : Int32)), (0, .ref aX), (1, .int q275.1), (2, .int ((1 : Int32) <<< (q275.1 &&& 31)))]) hx hb d_M_read_259 hl (k := 4) rfl rfl (by decide) rfl (fun ls hl => ?_)
                refine lv_goto (tgt := 220) hx hb d_M_read_262 (by decide) ?_
                exact ih (1 : Int32) (v4_298 + 1) ls _ hf (lv_sub hl [2, 3, 4, 1, 0] rfl) kt0
              · have hf := z_t hc hf
                refine lv_aload_n hx hb d_M_read_243 rfl (lv_at hl 0 rfl) ?_
                refine lv_iload hx hb d_M_read_244 (lv_at hl 4 rfl) ?_
                obtain ⟨q300, hc, hf⟩ := z_b hf
                refine vp_callSi (z_cr (va_runV (As := [.int v4_298]) (rest := []) ⟨hx, hb, hml, hown, hts⟩ (c_M_bitAt l dC dI cI cL v4_298 hN_X hN_Xfed q300 hc) (cw_M_172 hts ⟨Nat.le_of_ble_eq_true rfl, Nat.le_of_ble_eq_true rfl⟩) ⟨zbR, va_recv hK hP (ci := 7) rfl hN_X, (zpR hP hK hZ)⟩ rfl rfl hl.1 rfl (lv_room (Nat.le_of_ble_eq_true rfl)) d_M_read_246 ⟨Nat.zero_le _, Nat.zero_le _⟩)) (fun r301 hv => ?_)
                have hv := hv.symm
                subst hv
                refine lv_iconst (v := 1) hx hb d_M_read_249 (by decide) ?_
                refine lv_icmp_ne (tgt := 257) hx hb d_M_read_250 (by decide) (fun hc => ?_) (fun hc => ?_)
                · have hf := z_f hc hf
                  refine lv_iconst (v := 0) hx hb d_M_read_257 (by decide) ?_
                  refine lv_istore_n (lv' := [(3, .int (0 : Int32)), (0, .ref aX), (1, .int q275.1), (2, .int ((1 : Int32) <<< (q275.1 &&& 31))), (4, .int v4_298)]) hx hb d_M_read_258 rfl hl (by decide) rfl (fun ls hl => ?_)
                  refine lv_iinc (v := (v4_298 + 1)) (lv' := [(4, .int (v4_298 + 1)), (3, .int (0 : Int32)), (0, .ref aX), (1, .int q275.1), (2, .int ((1 : Int32) <<< (q275.1 &&& 31)))]) hx hb d_M_read_259 hl (k := 4) rfl rfl (by decide) rfl (fun ls hl => ?_)
                  refine lv_goto (tgt := 220) hx hb d_M_read_262 (by decide) ?_
                  exact ih (0 : Int32) (v4_298 + 1) ls _ hf (lv_sub hl [2, 3, 4, 1, 0] rfl) kt0
                · have hf := z_t hc hf
                  refine lv_iconst (v := 1) hx hb d_M_read_253 (by decide) ?_
                  refine lv_goto (tgt := 258) hx hb d_M_read_254 (by decide) ?_
                  refine lv_istore_n (lv' := [(3, .int (1 : Int32)), (0, .ref aX), (1, .int q275.1), (2, .int ((1 : Int32) <<< (q275.1 &&& 31))), (4, .int v4_298)]) hx hb d_M_read_258 rfl hl (by decide) rfl (fun ls hl => ?_)
                  refine lv_iinc (v := (v4_298 + 1)) (lv' := [(4, .int (v4_298 + 1)), (3, .int (1 : Int32)), (0, .ref aX), (1, .int q275.1), (2, .int ((1 : Int32) <<< (q275.1 &&& 31)))]) hx hb d_M_read_259 hl (k := 4) rfl rfl (by decide) rfl (fun ls hl => ?_)
                  refine lv_goto (tgt := 220) hx hb d_M_read_262 (by decide) ?_
                  exact ih (1 : Int32) (v4_298 + 1) ls _ hf (lv_sub hl [2, 3, 4, 1, 0] rfl) kt0
      obtain ⟨q296, hc, hf⟩ := z_b hf
      refine lp299 _ FU (0 : Int32) q281.2.1 ls q296 hc (lv_sub hl [2, 3, 4, 1, 0] rfl) (fun ls hl => ?_)
      refine lv_aload_n hx hb d_M_read_265 rfl (lv_at hl 0 rfl) ?_
      refine lv_aload_n hx hb d_M_read_266 rfl (lv_at hl 0 rfl) ?_
      refine gf_M_166 (v := .int q281.2.2.1) hx hb hts hown hK hP hN_X rfl d_M_read_267 ?_
      refine lv_if_ge (tgt := 281) hx hb d_M_read_270 (by decide) (fun hc => ?_) (fun hc => ?_)
      · have hf := z_t hc hf
        refine lv_aload_n hx hb d_M_read_281 rfl (lv_at hl 0 rfl) ?_
        refine gf_M_166 (v := .int q281.2.2.1) hx hb hts hown hK hP hN_X rfl d_M_read_282 ?_
        refine pf_M_166 (v := .int q281.2.2.1) hx hb hts hown hK hP hD hS hN_X rfl rfl (Nat.le_of_ble_eq_true rfl) d_M_read_285 (fun ws H locs hP hD hS hN_X hfr => ?_)
        have hN_X : ws[21]? = some (aX, .inr (7, [.int (0 : Int32), .int X_side, .ref aXpicture, .ref aXhalf, .int X_many, .ref aXblocks, .int q281.1, .int X_encodedBits, .ref aXencoded, .int X_fedMany, .ref aXfed, .int q281.2.1, .int q281.2.2.1, .int X_tried, .int q281.2.2.2.1, .ref aXpile, .int X_decoded, .ref aXnews, .ref aXolds, .ref aXhalves, .ref aXds, .ref aXrs, .ref aXbest, .long X_bestError])) := hN_X
        have hN_Xblocks := (hfr _ (by decide)).trans hN_Xblocks
        have hN_Xfed := (hfr _ (by decide)).trans hN_Xfed
        have hN_Xpile := (hfr _ (by decide)).trans hN_Xpile
        have hN_Xbest := (hfr _ (by decide)).trans hN_Xbest
        have hw := z_fr (by decide) hw hfr
        refine lv_aload_n hx hb d_M_read_288 rfl (lv_at hl 0 rfl) ?_
        refine lv_iconst (v := 0) hx hb d_M_read_289 (by decide) ?_
        refine pf_M_163 (v := .int (0 : Int32)) hx hb hts hown hK hP hD hS hN_X rfl rfl (Nat.le_of_ble_eq_true rfl) d_M_read_290 (fun ws H locs hP hD hS hN_X hfr => ?_)
        have hN_X : ws[21]? = some (aX, .inr (7, [.int (0 : Int32), .int X_side, .ref aXpicture, .ref aXhalf, .int X_many, .ref aXblocks, .int q281.1, .int X_encodedBits, .ref aXencoded, .int (0 : Int32), .ref aXfed, .int q281.2.1, .int q281.2.2.1, .int X_tried, .int q281.2.2.2.1, .ref aXpile, .int X_decoded, .ref aXnews, .ref aXolds, .ref aXhalves, .ref aXds, .ref aXrs, .ref aXbest, .long X_bestError])) := hN_X
        have hN_Xblocks := (hfr _ (by decide)).trans hN_Xblocks
        have hN_Xfed := (hfr _ (by decide)).trans hN_Xfed
        have hN_Xpile := (hfr _ (by decide)).trans hN_Xpile
        have hN_Xbest := (hfr _ (by decide)).trans hN_Xbest
        have hw := z_fr (by decide) hw hfr
        refine lv_aload_n hx hb d_M_read_293 rfl (lv_at hl 0 rfl) ?_
        refine gf_M_166 (v := .int q281.2.2.1) hx hb hts hown hK hP hN_X rfl d_M_read_294 ?_
        refine lv_if_lt (tgt := 307) hx hb d_M_read_297 (by decide) (fun hc => ?_) (fun hc => ?_)
        · have hf := z_t hc hf
          refine lv_aload_n hx hb d_M_read_307 rfl (lv_at hl 0 rfl) ?_
          obtain ⟨q302, hc, hf⟩ := z_b hf
          have hFc := z_free hD hS hA
          refine va_callv (va_runV (As := []) (rest := []) ⟨hx, hb, hml, hown, hts⟩ (c_M_takeFound l dC dI cI cL _ hN_X hN_Xblocks q302 hc) (cw_M_154 hts ⟨Nat.le_of_ble_eq_true rfl, Nat.le_of_ble_eq_true rfl⟩) ⟨zbM, va_recv hK hP (ci := 7) rfl hN_X, (zpM hP hK hZ hD)⟩ rfl rfl hl.1 rfl (lv_room (Nat.le_of_ble_eq_true rfl)) d_M_read_308 ⟨Nat.zero_le _, Nat.zero_le _⟩) hS (fun q _ h => hFc q h) hFc (fun ws t H locs ht hvm hu hB hz1 hk1 hS => ?_)
          obtain ⟨hN_X, hN_Xblocks, hfr⟩ := hu
          obtain ⟨hP, -, hD1⟩ := hB
          rw [ht] at hP
          have hD := hD1.weaken (fun _ _ _ h => hFc _ h)
          have hN_X : ws[21]? = some (aX, .inr (7, [.int (0 : Int32), .int X_side, .ref aXpicture, .ref aXhalf, .int q302.1, .ref aXblocks, .int q281.1, .int X_encodedBits, .ref aXencoded, .int (0 : Int32), .ref aXfed, .int q281.2.1, .int q281.2.2.1, .int X_tried, .int q281.2.2.2.1, .ref aXpile, .int X_decoded, .ref aXnews, .ref aXolds, .ref aXhalves, .ref aXds, .ref aXrs, .ref aXbest, .long X_bestError])) := hN_X
          have hN_Xblocks : ws[24]? = some (aXblocks, .inl (cI, Xblocks_n, .inl q302.2)) := hN_Xblocks
          have hN_Xfed := (hfr _ (by decide)).trans hN_Xfed
          have hN_Xpile := (hfr _ (by decide)).trans hN_Xpile
          have hN_Xbest := (hfr _ (by decide)).trans hN_Xbest
          have hw := z_frC (by decide) hw hfr
          refine lv_aload_n hx hb d_M_read_311 rfl (lv_at hl 0 rfl) ?_
          refine gf_M_123 (v := .int q302.1) hx hb hts hown hK hP hN_X rfl d_M_read_312 ?_
          obtain rfl := Option.some.inj hf
          exact W.iret hx hb hr (fun t ht hW => ⟨⟨_, ws, rfl, ⟨rfl, hN_X, hN_Xblocks, hN_Xpile, hN_Xbest, hw⟩, by rw [ht]; exact hP, va_K.moved hW.alike hK, hD⟩, hS.F ht⟩) hS.2.2 d_M_read_315
        · have hf := z_f hc hf
          refine lv_iconst (v := (-1)) hx hb d_M_read_300 (by decide) ?_
          refine lv_aload_n hx hb d_M_read_301 rfl (lv_at hl 0 rfl) ?_
          refine gf_M_166 (v := .int q281.2.2.1) hx hb hts hown hK hP hN_X rfl d_M_read_302 ?_
          refine lv_isub hx hb d_M_read_305 ?_
          obtain rfl := Option.some.inj hf
          exact W.iret hx hb hr (fun t ht hW => ⟨⟨_, ws, rfl, ⟨rfl, hN_X, hN_Xblocks, hN_Xpile, hN_Xbest, hw⟩, by rw [ht]; exact hP, va_K.moved hW.alike hK, hD⟩, hS.F ht⟩) hS.2.2 d_M_read_306
      · have hf := z_f hc hf
        refine lv_iload_n hx hb d_M_read_273 rfl (lv_at hl 3 rfl) ?_
        refine lv_if_eq (tgt := 281) hx hb d_M_read_274 (by decide) (fun hc => ?_) (fun hc => ?_)
        · have hf := z_t hc hf
          refine lv_aload_n hx hb d_M_read_281 rfl (lv_at hl 0 rfl) ?_
          refine gf_M_166 (v := .int q281.2.2.1) hx hb hts hown hK hP hN_X rfl d_M_read_282 ?_
          refine pf_M_166 (v := .int q281.2.2.1) hx hb hts hown hK hP hD hS hN_X rfl rfl (Nat.le_of_ble_eq_true rfl) d_M_read_285 (fun ws H locs hP hD hS hN_X hfr => ?_)
          have hN_X : ws[21]? = some (aX, .inr (7, [.int (0 : Int32), .int X_side, .ref aXpicture, .ref aXhalf, .int X_many, .ref aXblocks, .int q281.1, .int X_encodedBits, .ref aXencoded, .int X_fedMany, .ref aXfed, .int q281.2.1, .int q281.2.2.1, .int X_tried, .int q281.2.2.2.1, .ref aXpile, .int X_decoded, .ref aXnews, .ref aXolds, .ref aXhalves, .ref aXds, .ref aXrs, .ref aXbest, .long X_bestError])) := hN_X
          have hN_Xblocks := (hfr _ (by decide)).trans hN_Xblocks
          have hN_Xfed := (hfr _ (by decide)).trans hN_Xfed
          have hN_Xpile := (hfr _ (by decide)).trans hN_Xpile
          have hN_Xbest := (hfr _ (by decide)).trans hN_Xbest
          have hw := z_fr (by decide) hw hfr
          refine lv_aload_n hx hb d_M_read_288 rfl (lv_at hl 0 rfl) ?_
          refine lv_iconst (v := 0) hx hb d_M_read_289 (by decide) ?_
          refine pf_M_163 (v := .int (0 : Int32)) hx hb hts hown hK hP hD hS hN_X rfl rfl (Nat.le_of_ble_eq_true rfl) d_M_read_290 (fun ws H locs hP hD hS hN_X hfr => ?_)
          have hN_X : ws[21]? = some (aX, .inr (7, [.int (0 : Int32), .int X_side, .ref aXpicture, .ref aXhalf, .int X_many, .ref aXblocks, .int q281.1, .int X_encodedBits, .ref aXencoded, .int (0 : Int32), .ref aXfed, .int q281.2.1, .int q281.2.2.1, .int X_tried, .int q281.2.2.2.1, .ref aXpile, .int X_decoded, .ref aXnews, .ref aXolds, .ref aXhalves, .ref aXds, .ref aXrs, .ref aXbest, .long X_bestError])) := hN_X
          have hN_Xblocks := (hfr _ (by decide)).trans hN_Xblocks
          have hN_Xfed := (hfr _ (by decide)).trans hN_Xfed
          have hN_Xpile := (hfr _ (by decide)).trans hN_Xpile
          have hN_Xbest := (hfr _ (by decide)).trans hN_Xbest
          have hw := z_fr (by decide) hw hfr
          refine lv_aload_n hx hb d_M_read_293 rfl (lv_at hl 0 rfl) ?_
          refine gf_M_166 (v := .int q281.2.2.1) hx hb hts hown hK hP hN_X rfl d_M_read_294 ?_
          refine lv_if_lt (tgt := 307) hx hb d_M_read_297 (by decide) (fun hc => ?_) (fun hc => ?_)
          · have hf := z_t hc hf
            refine lv_aload_n hx hb d_M_read_307 rfl (lv_at hl 0 rfl) ?_
            obtain ⟨q303, hc, hf⟩ := z_b hf
            have hFc := z_free hD hS hA
            refine va_callv (va_runV (As := []) (rest := []) ⟨hx, hb, hml, hown, hts⟩ (c_M_takeFound l dC dI cI cL _ hN_X hN_Xblocks q303 hc) (cw_M_154 hts ⟨Nat.le_of_ble_eq_true rfl, Nat.le_of_ble_eq_true rfl⟩) ⟨zbM, va_recv hK hP (ci := 7) rfl hN_X, (zpM hP hK hZ hD)⟩ rfl rfl hl.1 rfl (lv_room (Nat.le_of_ble_eq_true rfl)) d_M_read_308 ⟨Nat.zero_le _, Nat.zero_le _⟩) hS (fun q _ h => hFc q h) hFc (fun ws t H locs ht hvm hu hB hz1 hk1 hS => ?_)
            obtain ⟨hN_X, hN_Xblocks, hfr⟩ := hu
            obtain ⟨hP, -, hD1⟩ := hB
            rw [ht] at hP
            have hD := hD1.weaken (fun _ _ _ h => hFc _ h)
            have hN_X : ws[21]? = some (aX, .inr (7, [.int (0 : Int32), .int X_side, .ref aXpicture, .ref aXhalf, .int q303.1, .ref aXblocks, .int q281.1, .int X_encodedBits, .ref aXencoded, .int (0 : Int32), .ref aXfed, .int q281.2.1, .int q281.2.2.1, .int X_tried, .int q281.2.2.2.1, .ref aXpile, .int X_decoded, .ref aXnews, .ref aXolds, .ref aXhalves, .ref aXds, .ref aXrs, .ref aXbest, .long X_bestError])) := hN_X
            have hN_Xblocks : ws[24]? = some (aXblocks, .inl (cI, Xblocks_n, .inl q303.2)) := hN_Xblocks
            have hN_Xfed := (hfr _ (by decide)).trans hN_Xfed
            have hN_Xpile := (hfr _ (by decide)).trans hN_Xpile
            have hN_Xbest := (hfr _ (by decide)).trans hN_Xbest
            have hw := z_frC (by decide) hw hfr
            refine lv_aload_n hx hb d_M_read_311 rfl (lv_at hl 0 rfl) ?_
            refine gf_M_123 (v := .int q303.1) hx hb hts hown hK hP hN_X rfl d_M_read_312 ?_
            obtain rfl := Option.some.inj hf
            exact W.iret hx hb hr (fun t ht hW => ⟨⟨_, ws, rfl, ⟨rfl, hN_X, hN_Xblocks, hN_Xpile, hN_Xbest, hw⟩, by rw [ht]; exact hP, va_K.moved hW.alike hK, hD⟩, hS.F ht⟩) hS.2.2 d_M_read_315
          · have hf := z_f hc hf
            refine lv_iconst (v := (-1)) hx hb d_M_read_300 (by decide) ?_
            refine lv_aload_n hx hb d_M_read_301 rfl (lv_at hl 0 rfl) ?_
            refine gf_M_166 (v := .int q281.2.2.1) hx hb hts hown hK hP hN_X rfl d_M_read_302 ?_
            refine lv_isub hx hb d_M_read_305 ?_
            obtain rfl := Option.some.inj hf
            exact W.iret hx hb hr (fun t ht hW => ⟨⟨_, ws, rfl, ⟨rfl, hN_X, hN_Xblocks, hN_Xpile, hN_Xbest, hw⟩, by rw [ht]; exact hP, va_K.moved hW.alike hK, hD⟩, hS.F ht⟩) hS.2.2 d_M_read_306
        · have hf := z_f hc hf
          refine lv_iconst (v := 4) hx hb d_M_read_277 (by decide) ?_
          refine lv_goto (tgt := 285) hx hb d_M_read_278 (by decide) ?_
          refine pf_M_166 (v := .int (4 : Int32)) hx hb hts hown hK hP hD hS hN_X rfl rfl (Nat.le_of_ble_eq_true rfl) d_M_read_285 (fun ws H locs hP hD hS hN_X hfr => ?_)
          have hN_X : ws[21]? = some (aX, .inr (7, [.int (0 : Int32), .int X_side, .ref aXpicture, .ref aXhalf, .int X_many, .ref aXblocks, .int q281.1, .int X_encodedBits, .ref aXencoded, .int X_fedMany, .ref aXfed, .int q281.2.1, .int (4 : Int32), .int X_tried, .int q281.2.2.2.1, .ref aXpile, .int X_decoded, .ref aXnews, .ref aXolds, .ref aXhalves, .ref aXds, .ref aXrs, .ref aXbest, .long X_bestError])) := hN_X
          have hN_Xblocks := (hfr _ (by decide)).trans hN_Xblocks
          have hN_Xfed := (hfr _ (by decide)).trans hN_Xfed
          have hN_Xpile := (hfr _ (by decide)).trans hN_Xpile
          have hN_Xbest := (hfr _ (by decide)).trans hN_Xbest
          have hw := z_fr (by decide) hw hfr
          refine lv_aload_n hx hb d_M_read_288 rfl (lv_at hl 0 rfl) ?_
          refine lv_iconst (v := 0) hx hb d_M_read_289 (by decide) ?_
          refine pf_M_163 (v := .int (0 : Int32)) hx hb hts hown hK hP hD hS hN_X rfl rfl (Nat.le_of_ble_eq_true rfl) d_M_read_290 (fun ws H locs hP hD hS hN_X hfr => ?_)
          have hN_X : ws[21]? = some (aX, .inr (7, [.int (0 : Int32), .int X_side, .ref aXpicture, .ref aXhalf, .int X_many, .ref aXblocks, .int q281.1, .int X_encodedBits, .ref aXencoded, .int (0 : Int32), .ref aXfed, .int q281.2.1, .int (4 : Int32), .int X_tried, .int q281.2.2.2.1, .ref aXpile, .int X_decoded, .ref aXnews, .ref aXolds, .ref aXhalves, .ref aXds, .ref aXrs, .ref aXbest, .long X_bestError])) := hN_X
          have hN_Xblocks := (hfr _ (by decide)).trans hN_Xblocks
          have hN_Xfed := (hfr _ (by decide)).trans hN_Xfed
          have hN_Xpile := (hfr _ (by decide)).trans hN_Xpile
          have hN_Xbest := (hfr _ (by decide)).trans hN_Xbest
          have hw := z_fr (by decide) hw hfr
          refine lv_aload_n hx hb d_M_read_293 rfl (lv_at hl 0 rfl) ?_
          refine gf_M_166 (v := .int (4 : Int32)) hx hb hts hown hK hP hN_X rfl d_M_read_294 ?_
          refine lv_if_lt (tgt := 307) hx hb d_M_read_297 (by decide) (fun hc => ?_) (fun hc => ?_)
          · have hf := z_t hc hf
            refine lv_aload_n hx hb d_M_read_307 rfl (lv_at hl 0 rfl) ?_
            obtain ⟨q304, hc, hf⟩ := z_b hf
            have hFc := z_free hD hS hA
            refine va_callv (va_runV (As := []) (rest := []) ⟨hx, hb, hml, hown, hts⟩ (c_M_takeFound l dC dI cI cL _ hN_X hN_Xblocks q304 hc) (cw_M_154 hts ⟨Nat.le_of_ble_eq_true rfl, Nat.le_of_ble_eq_true rfl⟩) ⟨zbM, va_recv hK hP (ci := 7) rfl hN_X, (zpM hP hK hZ hD)⟩ rfl rfl hl.1 rfl (lv_room (Nat.le_of_ble_eq_true rfl)) d_M_read_308 ⟨Nat.zero_le _, Nat.zero_le _⟩) hS (fun q _ h => hFc q h) hFc (fun ws t H locs ht hvm hu hB hz1 hk1 hS => ?_)
            obtain ⟨hN_X, hN_Xblocks, hfr⟩ := hu
            obtain ⟨hP, -, hD1⟩ := hB
            rw [ht] at hP
            have hD := hD1.weaken (fun _ _ _ h => hFc _ h)
            have hN_X : ws[21]? = some (aX, .inr (7, [.int (0 : Int32), .int X_side, .ref aXpicture, .ref aXhalf, .int q304.1, .ref aXblocks, .int q281.1, .int X_encodedBits, .ref aXencoded, .int (0 : Int32), .ref aXfed, .int q281.2.1, .int (4 : Int32), .int X_tried, .int q281.2.2.2.1, .ref aXpile, .int X_decoded, .ref aXnews, .ref aXolds, .ref aXhalves, .ref aXds, .ref aXrs, .ref aXbest, .long X_bestError])) := hN_X
            have hN_Xblocks : ws[24]? = some (aXblocks, .inl (cI, Xblocks_n, .inl q304.2)) := hN_Xblocks
            have hN_Xfed := (hfr _ (by decide)).trans hN_Xfed
            have hN_Xpile := (hfr _ (by decide)).trans hN_Xpile
            have hN_Xbest := (hfr _ (by decide)).trans hN_Xbest
            have hw := z_frC (by decide) hw hfr
            refine lv_aload_n hx hb d_M_read_311 rfl (lv_at hl 0 rfl) ?_
            refine gf_M_123 (v := .int q304.1) hx hb hts hown hK hP hN_X rfl d_M_read_312 ?_
            obtain rfl := Option.some.inj hf
            exact W.iret hx hb hr (fun t ht hW => ⟨⟨_, ws, rfl, ⟨rfl, hN_X, hN_Xblocks, hN_Xpile, hN_Xbest, hw⟩, by rw [ht]; exact hP, va_K.moved hW.alike hK, hD⟩, hS.F ht⟩) hS.2.2 d_M_read_315
          · have hf := z_f hc hf
            refine lv_iconst (v := (-1)) hx hb d_M_read_300 (by decide) ?_
            refine lv_aload_n hx hb d_M_read_301 rfl (lv_at hl 0 rfl) ?_
            refine gf_M_166 (v := .int (4 : Int32)) hx hb hts hown hK hP hN_X rfl d_M_read_302 ?_
            refine lv_isub hx hb d_M_read_305 ?_
            obtain rfl := Option.some.inj hf
            exact W.iret hx hb hr (fun t ht hW => ⟨⟨_, ws, rfl, ⟨rfl, hN_X, hN_Xblocks, hN_Xpile, hN_Xbest, hw⟩, by rw [ht]; exact hP, va_K.moved hW.alike hK, hD⟩, hS.F ht⟩) hS.2.2 d_M_read_306
    · have hf := z_f hc hf
      refine lv_iconst (v := 1) hx hb d_M_read_208 (by decide) ?_
      refine lv_goto (tgt := 213) hx hb d_M_read_209 (by decide) ?_
      refine lv_istore_n (lv' := [(3, .int (1 : Int32)), (0, .ref aX), (1, .int q275.1), (2, .int ((1 : Int32) <<< (q275.1 &&& 31)))]) hx hb d_M_read_213 rfl hl (by decide) rfl (fun ls hl => ?_)
      refine lv_aload_n hx hb d_M_read_214 rfl (lv_at hl 1 rfl) ?_
      refine gf_M_169 (v := .int q281.2.1) hx hb hts hown hK hP hN_X rfl d_M_read_215 ?_
      refine lv_istore (lv' := [(4, .int q281.2.1), (3, .int (1 : Int32)), (0, .ref aX), (1, .int q275.1), (2, .int ((1 : Int32) <<< (q275.1 &&& 31)))]) hx hb d_M_read_218 hl (by decide) rfl (fun ls hl => ?_)
      have lp308 : ∀ (Qx : State → Prop) (n : Nat) (v3_306 : Int32) (v4_307 : Int32) (ls : Array Slot) (q : Int32 × Int32) (hf : f_M_read_220 q275.1 ((1 : Int32) <<< (q275.1 &&& 31)) X_fedMany q281.2.2.1 Xfed_n Xfed_f n v3_306 v4_307 = some q) (hl : lv_has ls 6 [(0, .ref aX), (1, .int q275.1), (2, .int ((1 : Int32) <<< (q275.1 &&& 31))), (3, .int v3_306), (4, .int v4_307)]) (kt0 : ∀ (ls : Array Slot), lv_has ls 6 [(0, .ref aX), (1, .int q275.1), (2, .int ((1 : Int32) <<< (q275.1 &&& 31))), (3, .int q.1), (4, .int q.2)] → W p l e (headSpec w_M_read rm_M_read).room s m ([.ref aX] : List Value).toArray below meth c H locs 0 0 Qx (F0 m 265 ls [])), W p l e (headSpec w_M_read rm_M_read).room s m ([.ref aX] : List Value).toArray below meth c H locs 0 0 Qx (F0 m 220 ls []) := by
        intro Qx n
        induction n with
        | zero => intro v3_306 v4_307 ls q hf; cases hf
        | succ n ih =>
          intro v3_306 v4_307 ls q hf hl kt0
          rw [f_M_read_220] at hf
          refine lv_iload hx hb d_M_read_220 (lv_at hl 4 rfl) ?_
          refine lv_bipush (v := 8) hx hb d_M_read_222 (by decide) ?_
          refine lv_aload_n hx hb d_M_read_224 rfl (lv_at hl 0 rfl) ?_
          refine gf_M_163 (v := .int X_fedMany) hx hb hts hown hK hP hN_X rfl d_M_read_225 ?_
          refine lv_imul hx hb d_M_read_228 ?_
          refine lv_icmp_ge (tgt := 265) hx hb d_M_read_229 (by decide) (fun hc => ?_) (fun hc => ?_)
          · have hf := z_t hc hf
            obtain rfl := Option.some.inj hf
            exact kt0 ls (lv_sub hl [0, 1, 2, 3, 4] rfl)
          · have hf := z_f hc hf
            refine lv_aload_n hx hb d_M_read_232 rfl (lv_at hl 0 rfl) ?_
            refine gf_M_166 (v := .int q281.2.2.1) hx hb hts hown hK hP hN_X rfl d_M_read_233 ?_
            refine lv_if_ge (tgt := 265) hx hb d_M_read_236 (by decide) (fun hc => ?_) (fun hc => ?_)
            · have hf := z_t hc hf
              obtain rfl := Option.some.inj hf
              exact kt0 ls (lv_sub hl [0, 1, 2, 3, 4] rfl)
            · have hf := z_f hc hf
              refine lv_iload_n hx hb d_M_read_239 rfl (lv_at hl 3 rfl) ?_
              refine lv_if_ne (tgt := 253) hx hb d_M_read_240 (by decide) (fun hc => ?_) (fun hc => ?_)
              · have hf := z_f hc hf
                refine lv_iconst (v := 1) hx hb d_M_read_253 (by decide) ?_
                refine lv_goto (tgt := 258) hx hb d_M_read_254 (by decide) ?_
                refine lv_istore_n (lv' := [(3, .int (1 : Int32)), (0, .ref aX), (1, .int q275.1), (2, .int ((1 : Int32) <<< (q275.1 &&& 31))), (4, .int v4_307)]) hx hb d_M_read_258 rfl hl (by decide) rfl (fun ls hl => ?_)
                refine lv_iinc (v := (v4_307 + 1)) (lv' := [(4, .int (v4_307 + 1)), (3, .int (1 : Int32)), (0, .ref aX), (1, .int q275.1), (2, .int ((1 : Int32) <<< (q275.1 &&& 31)))]) hx hb d_M_read_259 hl (k := 4) rfl rfl (by decide) rfl (fun ls hl => ?_)
                refine lv_goto (tgt := 220) hx hb d_M_read_262 (by decide) ?_
                exact ih (1 : Int32) (v4_307 + 1) ls _ hf (lv_sub hl [2, 3, 4, 1, 0] rfl) kt0
              · have hf := z_t hc hf
                refine lv_aload_n hx hb d_M_read_243 rfl (lv_at hl 0 rfl) ?_
                refine lv_iload hx hb d_M_read_244 (lv_at hl 4 rfl) ?_
                obtain ⟨q309, hc, hf⟩ := z_b hf
                refine vp_callSi (z_cr (va_runV (As := [.int v4_307]) (rest := []) ⟨hx, hb, hml, hown, hts⟩ (c_M_bitAt l dC dI cI cL v4_307 hN_X hN_Xfed q309 hc) (cw_M_172 hts ⟨Nat.le_of_ble_eq_true rfl, Nat.le_of_ble_eq_true rfl⟩) ⟨zbR, va_recv hK hP (ci := 7) rfl hN_X, (zpR hP hK hZ)⟩ rfl rfl hl.1 rfl (lv_room (Nat.le_of_ble_eq_true rfl)) d_M_read_246 ⟨Nat.zero_le _, Nat.zero_le _⟩)) (fun r310 hv => ?_)
                have hv := hv.symm
                subst hv
                refine lv_iconst (v := 1) hx hb d_M_read_249 (by decide) ?_
                refine lv_icmp_ne (tgt := 257) hx hb d_M_read_250 (by decide) (fun hc => ?_) (fun hc => ?_)
                · have hf := z_f hc hf
                  refine lv_iconst (v := 0) hx hb d_M_read_257 (by decide) ?_
                  refine lv_istore_n (lv' := [(3, .int (0 : Int32)), (0, .ref aX), (1, .int q275.1), (2, .int ((1 : Int32) <<< (q275.1 &&& 31))), (4, .int v4_307)]) hx hb d_M_read_258 rfl hl (by decide) rfl (fun ls hl => ?_)
                  refine lv_iinc (v := (v4_307 + 1)) (lv' := [(4, .int (v4_307 + 1)), (3, .int (0 : Int32)), (0, .ref aX), (1, .int q275.1), (2, .int ((1 : Int32) <<< (q275.1 &&& 31)))]) hx hb d_M_read_259 hl (k := 4) rfl rfl (by decide) rfl (fun ls hl => ?_)
                  refine lv_goto (tgt := 220) hx hb d_M_read_262 (by decide) ?_
                  exact ih (0 : Int32) (v4_307 + 1) ls _ hf (lv_sub hl [2, 3, 4, 1, 0] rfl) kt0
                · have hf := z_t hc hf
                  refine lv_iconst (v := 1) hx hb d_M_read_253 (by decide) ?_
                  refine lv_goto (tgt := 258) hx hb d_M_read_254 (by decide) ?_
                  refine lv_istore_n (lv' := [(3, .int (1 : Int32)), (0, .ref aX), (1, .int q275.1), (2, .int ((1 : Int32) <<< (q275.1 &&& 31))), (4, .int v4_307)]) hx hb d_M_read_258 rfl hl (by decide) rfl (fun ls hl => ?_)
                  refine lv_iinc (v := (v4_307 + 1)) (lv' := [(4, .int (v4_307 + 1)), (3, .int (1 : Int32)), (0, .ref aX), (1, .int q275.1), (2, .int ((1 : Int32) <<< (q275.1 &&& 31)))]) hx hb d_M_read_259 hl (k := 4) rfl rfl (by decide) rfl (fun ls hl => ?_)
                  refine lv_goto (tgt := 220) hx hb d_M_read_262 (by decide) ?_
                  exact ih (1 : Int32) (v4_307 + 1) ls _ hf (lv_sub hl [2, 3, 4, 1, 0] rfl) kt0
      obtain ⟨q305, hc, hf⟩ := z_b hf
      refine lp308 _ FU (1 : Int32) q281.2.1 ls q305 hc (lv_sub hl [2, 3, 4, 1, 0] rfl) (fun ls hl => ?_)
      refine lv_aload_n hx hb d_M_read_265 rfl (lv_at hl 0 rfl) ?_
      refine lv_aload_n hx hb d_M_read_266 rfl (lv_at hl 0 rfl) ?_
      refine gf_M_166 (v := .int q281.2.2.1) hx hb hts hown hK hP hN_X rfl d_M_read_267 ?_
      refine lv_if_ge (tgt := 281) hx hb d_M_read_270 (by decide) (fun hc => ?_) (fun hc => ?_)
      · have hf := z_t hc hf
        refine lv_aload_n hx hb d_M_read_281 rfl (lv_at hl 0 rfl) ?_
        refine gf_M_166 (v := .int q281.2.2.1) hx hb hts hown hK hP hN_X rfl d_M_read_282 ?_
        refine pf_M_166 (v := .int q281.2.2.1) hx hb hts hown hK hP hD hS hN_X rfl rfl (Nat.le_of_ble_eq_true rfl) d_M_read_285 (fun ws H locs hP hD hS hN_X hfr => ?_)
        have hN_X : ws[21]? = some (aX, .inr (7, [.int (0 : Int32), .int X_side, .ref aXpicture, .ref aXhalf, .int X_many, .ref aXblocks, .int q281.1, .int X_encodedBits, .ref aXencoded, .int X_fedMany, .ref aXfed, .int q281.2.1, .int q281.2.2.1, .int X_tried, .int q281.2.2.2.1, .ref aXpile, .int X_decoded, .ref aXnews, .ref aXolds, .ref aXhalves, .ref aXds, .ref aXrs, .ref aXbest, .long X_bestError])) := hN_X
        have hN_Xblocks := (hfr _ (by decide)).trans hN_Xblocks
        have hN_Xfed := (hfr _ (by decide)).trans hN_Xfed
        have hN_Xpile := (hfr _ (by decide)).trans hN_Xpile
        have hN_Xbest := (hfr _ (by decide)).trans hN_Xbest
        have hw := z_fr (by decide) hw hfr
        refine lv_aload_n hx hb d_M_read_288 rfl (lv_at hl 0 rfl) ?_
        refine lv_iconst (v := 0) hx hb d_M_read_289 (by decide) ?_
        refine pf_M_163 (v := .int (0 : Int32)) hx hb hts hown hK hP hD hS hN_X rfl rfl (Nat.le_of_ble_eq_true rfl) d_M_read_290 (fun ws H locs hP hD hS hN_X hfr => ?_)
        have hN_X : ws[21]? = some (aX, .inr (7, [.int (0 : Int32), .int X_side, .ref aXpicture, .ref aXhalf, .int X_many, .ref aXblocks, .int q281.1, .int X_encodedBits, .ref aXencoded, .int (0 : Int32), .ref aXfed, .int q281.2.1, .int q281.2.2.1, .int X_tried, .int q281.2.2.2.1, .ref aXpile, .int X_decoded, .ref aXnews, .ref aXolds, .ref aXhalves, .ref aXds, .ref aXrs, .ref aXbest, .long X_bestError])) := hN_X
        have hN_Xblocks := (hfr _ (by decide)).trans hN_Xblocks
        have hN_Xfed := (hfr _ (by decide)).trans hN_Xfed
        have hN_Xpile := (hfr _ (by decide)).trans hN_Xpile
        have hN_Xbest := (hfr _ (by decide)).trans hN_Xbest
        have hw := z_fr (by decide) hw hfr
        refine lv_aload_n hx hb d_M_read_293 rfl (lv_at hl 0 rfl) ?_
        refine gf_M_166 (v := .int q281.2.2.1) hx hb hts hown hK hP hN_X rfl d_M_read_294 ?_
        refine lv_if_lt (tgt := 307) hx hb d_M_read_297 (by decide) (fun hc => ?_) (fun hc => ?_)
        · have hf := z_t hc hf
          refine lv_aload_n hx hb d_M_read_307 rfl (lv_at hl 0 rfl) ?_
          obtain ⟨q311, hc, hf⟩ := z_b hf
          have hFc := z_free hD hS hA
          refine va_callv (va_runV (As := []) (rest := []) ⟨hx, hb, hml, hown, hts⟩ (c_M_takeFound l dC dI cI cL _ hN_X hN_Xblocks q311 hc) (cw_M_154 hts ⟨Nat.le_of_ble_eq_true rfl, Nat.le_of_ble_eq_true rfl⟩) ⟨zbM, va_recv hK hP (ci := 7) rfl hN_X, (zpM hP hK hZ hD)⟩ rfl rfl hl.1 rfl (lv_room (Nat.le_of_ble_eq_true rfl)) d_M_read_308 ⟨Nat.zero_le _, Nat.zero_le _⟩) hS (fun q _ h => hFc q h) hFc (fun ws t H locs ht hvm hu hB hz1 hk1 hS => ?_)
          obtain ⟨hN_X, hN_Xblocks, hfr⟩ := hu
          obtain ⟨hP, -, hD1⟩ := hB
          rw [ht] at hP
          have hD := hD1.weaken (fun _ _ _ h => hFc _ h)
          have hN_X : ws[21]? = some (aX, .inr (7, [.int (0 : Int32), .int X_side, .ref aXpicture, .ref aXhalf, .int q311.1, .ref aXblocks, .int q281.1, .int X_encodedBits, .ref aXencoded, .int (0 : Int32), .ref aXfed, .int q281.2.1, .int q281.2.2.1, .int X_tried, .int q281.2.2.2.1, .ref aXpile, .int X_decoded, .ref aXnews, .ref aXolds, .ref aXhalves, .ref aXds, .ref aXrs, .ref aXbest, .long X_bestError])) := hN_X
          have hN_Xblocks : ws[24]? = some (aXblocks, .inl (cI, Xblocks_n, .inl q311.2)) := hN_Xblocks
          have hN_Xfed := (hfr _ (by decide)).trans hN_Xfed
          have hN_Xpile := (hfr _ (by decide)).trans hN_Xpile
          have hN_Xbest := (hfr _ (by decide)).trans hN_Xbest
          have hw := z_frC (by decide) hw hfr
          refine lv_aload_n hx hb d_M_read_311 rfl (lv_at hl 0 rfl) ?_
          refine gf_M_123 (v := .int q311.1) hx hb hts hown hK hP hN_X rfl d_M_read_312 ?_
          obtain rfl := Option.some.inj hf
          exact W.iret hx hb hr (fun t ht hW => ⟨⟨_, ws, rfl, ⟨rfl, hN_X, hN_Xblocks, hN_Xpile, hN_Xbest, hw⟩, by rw [ht]; exact hP, va_K.moved hW.alike hK, hD⟩, hS.F ht⟩) hS.2.2 d_M_read_315
        · have hf := z_f hc hf
          refine lv_iconst (v := (-1)) hx hb d_M_read_300 (by decide) ?_
          refine lv_aload_n hx hb d_M_read_301 rfl (lv_at hl 0 rfl) ?_
          refine gf_M_166 (v := .int q281.2.2.1) hx hb hts hown hK hP hN_X rfl d_M_read_302 ?_
          refine lv_isub hx hb d_M_read_305 ?_
          obtain rfl := Option.some.inj hf
          exact W.iret hx hb hr (fun t ht hW => ⟨⟨_, ws, rfl, ⟨rfl, hN_X, hN_Xblocks, hN_Xpile, hN_Xbest, hw⟩, by rw [ht]; exact hP, va_K.moved hW.alike hK, hD⟩, hS.F ht⟩) hS.2.2 d_M_read_306
      · have hf := z_f hc hf
        refine lv_iload_n hx hb d_M_read_273 rfl (lv_at hl 3 rfl) ?_
        refine lv_if_eq (tgt := 281) hx hb d_M_read_274 (by decide) (fun hc => ?_) (fun hc => ?_)
        · have hf := z_t hc hf
          refine lv_aload_n hx hb d_M_read_281 rfl (lv_at hl 0 rfl) ?_
          refine gf_M_166 (v := .int q281.2.2.1) hx hb hts hown hK hP hN_X rfl d_M_read_282 ?_
          refine pf_M_166 (v := .int q281.2.2.1) hx hb hts hown hK hP hD hS hN_X rfl rfl (Nat.le_of_ble_eq_true rfl) d_M_read_285 (fun ws H locs hP hD hS hN_X hfr => ?_)
          have hN_X : ws[21]? = some (aX, .inr (7, [.int (0 : Int32), .int X_side, .ref aXpicture, .ref aXhalf, .int X_many, .ref aXblocks, .int q281.1, .int X_encodedBits, .ref aXencoded, .int X_fedMany, .ref aXfed, .int q281.2.1, .int q281.2.2.1, .int X_tried, .int q281.2.2.2.1, .ref aXpile, .int X_decoded, .ref aXnews, .ref aXolds, .ref aXhalves, .ref aXds, .ref aXrs, .ref aXbest, .long X_bestError])) := hN_X
          have hN_Xblocks := (hfr _ (by decide)).trans hN_Xblocks
          have hN_Xfed := (hfr _ (by decide)).trans hN_Xfed
          have hN_Xpile := (hfr _ (by decide)).trans hN_Xpile
          have hN_Xbest := (hfr _ (by decide)).trans hN_Xbest
          have hw := z_fr (by decide) hw hfr
          refine lv_aload_n hx hb d_M_read_288 rfl (lv_at hl 0 rfl) ?_
          refine lv_iconst (v := 0) hx hb d_M_read_289 (by decide) ?_
          refine pf_M_163 (v := .int (0 : Int32)) hx hb hts hown hK hP hD hS hN_X rfl rfl (Nat.le_of_ble_eq_true rfl) d_M_read_290 (fun ws H locs hP hD hS hN_X hfr => ?_)
          have hN_X : ws[21]? = some (aX, .inr (7, [.int (0 : Int32), .int X_side, .ref aXpicture, .ref aXhalf, .int X_many, .ref aXblocks, .int q281.1, .int X_encodedBits, .ref aXencoded, .int (0 : Int32), .ref aXfed, .int q281.2.1, .int q281.2.2.1, .int X_tried, .int q281.2.2.2.1, .ref aXpile, .int X_decoded, .ref aXnews, .ref aXolds, .ref aXhalves, .ref aXds, .ref aXrs, .ref aXbest, .long X_bestError])) := hN_X
          have hN_Xblocks := (hfr _ (by decide)).trans hN_Xblocks
          have hN_Xfed := (hfr _ (by decide)).trans hN_Xfed
          have hN_Xpile := (hfr _ (by decide)).trans hN_Xpile
          have hN_Xbest := (hfr _ (by decide)).trans hN_Xbest
          have hw := z_fr (by decide) hw hfr
          refine lv_aload_n hx hb d_M_read_293 rfl (lv_at hl 0 rfl) ?_
          refine gf_M_166 (v := .int q281.2.2.1) hx hb hts hown hK hP hN_X rfl d_M_read_294 ?_
          refine lv_if_lt (tgt := 307) hx hb d_M_read_297 (by decide) (fun hc => ?_) (fun hc => ?_)
          · have hf := z_t hc hf
            refine lv_aload_n hx hb d_M_read_307 rfl (lv_at hl 0 rfl) ?_
            obtain ⟨q312, hc, hf⟩ := z_b hf
            have hFc := z_free hD hS hA
            refine va_callv (va_runV (As := []) (rest := []) ⟨hx, hb, hml, hown, hts⟩ (c_M_takeFound l dC dI cI cL _ hN_X hN_Xblocks q312 hc) (cw_M_154 hts ⟨Nat.le_of_ble_eq_true rfl, Nat.le_of_ble_eq_true rfl⟩) ⟨zbM, va_recv hK hP (ci := 7) rfl hN_X, (zpM hP hK hZ hD)⟩ rfl rfl hl.1 rfl (lv_room (Nat.le_of_ble_eq_true rfl)) d_M_read_308 ⟨Nat.zero_le _, Nat.zero_le _⟩) hS (fun q _ h => hFc q h) hFc (fun ws t H locs ht hvm hu hB hz1 hk1 hS => ?_)
            obtain ⟨hN_X, hN_Xblocks, hfr⟩ := hu
            obtain ⟨hP, -, hD1⟩ := hB
            rw [ht] at hP
            have hD := hD1.weaken (fun _ _ _ h => hFc _ h)
            have hN_X : ws[21]? = some (aX, .inr (7, [.int (0 : Int32), .int X_side, .ref aXpicture, .ref aXhalf, .int q312.1, .ref aXblocks, .int q281.1, .int X_encodedBits, .ref aXencoded, .int (0 : Int32), .ref aXfed, .int q281.2.1, .int q281.2.2.1, .int X_tried, .int q281.2.2.2.1, .ref aXpile, .int X_decoded, .ref aXnews, .ref aXolds, .ref aXhalves, .ref aXds, .ref aXrs, .ref aXbest, .long X_bestError])) := hN_X
            have hN_Xblocks : ws[24]? = some (aXblocks, .inl (cI, Xblocks_n, .inl q312.2)) := hN_Xblocks
            have hN_Xfed := (hfr _ (by decide)).trans hN_Xfed
            have hN_Xpile := (hfr _ (by decide)).trans hN_Xpile
            have hN_Xbest := (hfr _ (by decide)).trans hN_Xbest
            have hw := z_frC (by decide) hw hfr
            refine lv_aload_n hx hb d_M_read_311 rfl (lv_at hl 0 rfl) ?_
            refine gf_M_123 (v := .int q312.1) hx hb hts hown hK hP hN_X rfl d_M_read_312 ?_
            obtain rfl := Option.some.inj hf
            exact W.iret hx hb hr (fun t ht hW => ⟨⟨_, ws, rfl, ⟨rfl, hN_X, hN_Xblocks, hN_Xpile, hN_Xbest, hw⟩, by rw [ht]; exact hP, va_K.moved hW.alike hK, hD⟩, hS.F ht⟩) hS.2.2 d_M_read_315
          · have hf := z_f hc hf
            refine lv_iconst (v := (-1)) hx hb d_M_read_300 (by decide) ?_
            refine lv_aload_n hx hb d_M_read_301 rfl (lv_at hl 0 rfl) ?_
            refine gf_M_166 (v := .int q281.2.2.1) hx hb hts hown hK hP hN_X rfl d_M_read_302 ?_
            refine lv_isub hx hb d_M_read_305 ?_
            obtain rfl := Option.some.inj hf
            exact W.iret hx hb hr (fun t ht hW => ⟨⟨_, ws, rfl, ⟨rfl, hN_X, hN_Xblocks, hN_Xpile, hN_Xbest, hw⟩, by rw [ht]; exact hP, va_K.moved hW.alike hK, hD⟩, hS.F ht⟩) hS.2.2 d_M_read_306
        · have hf := z_f hc hf
          refine lv_iconst (v := 4) hx hb d_M_read_277 (by decide) ?_
          refine lv_goto (tgt := 285) hx hb d_M_read_278 (by decide) ?_
          refine pf_M_166 (v := .int (4 : Int32)) hx hb hts hown hK hP hD hS hN_X rfl rfl (Nat.le_of_ble_eq_true rfl) d_M_read_285 (fun ws H locs hP hD hS hN_X hfr => ?_)
          have hN_X : ws[21]? = some (aX, .inr (7, [.int (0 : Int32), .int X_side, .ref aXpicture, .ref aXhalf, .int X_many, .ref aXblocks, .int q281.1, .int X_encodedBits, .ref aXencoded, .int X_fedMany, .ref aXfed, .int q281.2.1, .int (4 : Int32), .int X_tried, .int q281.2.2.2.1, .ref aXpile, .int X_decoded, .ref aXnews, .ref aXolds, .ref aXhalves, .ref aXds, .ref aXrs, .ref aXbest, .long X_bestError])) := hN_X
          have hN_Xblocks := (hfr _ (by decide)).trans hN_Xblocks
          have hN_Xfed := (hfr _ (by decide)).trans hN_Xfed
          have hN_Xpile := (hfr _ (by decide)).trans hN_Xpile
          have hN_Xbest := (hfr _ (by decide)).trans hN_Xbest
          have hw := z_fr (by decide) hw hfr
          refine lv_aload_n hx hb d_M_read_288 rfl (lv_at hl 0 rfl) ?_
          refine lv_iconst (v := 0) hx hb d_M_read_289 (by decide) ?_
          refine pf_M_163 (v := .int (0 : Int32)) hx hb hts hown hK hP hD hS hN_X rfl rfl (Nat.le_of_ble_eq_true rfl) d_M_read_290 (fun ws H locs hP hD hS hN_X hfr => ?_)
          have hN_X : ws[21]? = some (aX, .inr (7, [.int (0 : Int32), .int X_side, .ref aXpicture, .ref aXhalf, .int X_many, .ref aXblocks, .int q281.1, .int X_encodedBits, .ref aXencoded, .int (0 : Int32), .ref aXfed, .int q281.2.1, .int (4 : Int32), .int X_tried, .int q281.2.2.2.1, .ref aXpile, .int X_decoded, .ref aXnews, .ref aXolds, .ref aXhalves, .ref aXds, .ref aXrs, .ref aXbest, .long X_bestError])) := hN_X
          have hN_Xblocks := (hfr _ (by decide)).trans hN_Xblocks
          have hN_Xfed := (hfr _ (by decide)).trans hN_Xfed
          have hN_Xpile := (hfr _ (by decide)).trans hN_Xpile
          have hN_Xbest := (hfr _ (by decide)).trans hN_Xbest
          have hw := z_fr (by decide) hw hfr
          refine lv_aload_n hx hb d_M_read_293 rfl (lv_at hl 0 rfl) ?_
          refine gf_M_166 (v := .int (4 : Int32)) hx hb hts hown hK hP hN_X rfl d_M_read_294 ?_
          refine lv_if_lt (tgt := 307) hx hb d_M_read_297 (by decide) (fun hc => ?_) (fun hc => ?_)
          · have hf := z_t hc hf
            refine lv_aload_n hx hb d_M_read_307 rfl (lv_at hl 0 rfl) ?_
            obtain ⟨q313, hc, hf⟩ := z_b hf
            have hFc := z_free hD hS hA
            refine va_callv (va_runV (As := []) (rest := []) ⟨hx, hb, hml, hown, hts⟩ (c_M_takeFound l dC dI cI cL _ hN_X hN_Xblocks q313 hc) (cw_M_154 hts ⟨Nat.le_of_ble_eq_true rfl, Nat.le_of_ble_eq_true rfl⟩) ⟨zbM, va_recv hK hP (ci := 7) rfl hN_X, (zpM hP hK hZ hD)⟩ rfl rfl hl.1 rfl (lv_room (Nat.le_of_ble_eq_true rfl)) d_M_read_308 ⟨Nat.zero_le _, Nat.zero_le _⟩) hS (fun q _ h => hFc q h) hFc (fun ws t H locs ht hvm hu hB hz1 hk1 hS => ?_)
            obtain ⟨hN_X, hN_Xblocks, hfr⟩ := hu
            obtain ⟨hP, -, hD1⟩ := hB
            rw [ht] at hP
            have hD := hD1.weaken (fun _ _ _ h => hFc _ h)
            have hN_X : ws[21]? = some (aX, .inr (7, [.int (0 : Int32), .int X_side, .ref aXpicture, .ref aXhalf, .int q313.1, .ref aXblocks, .int q281.1, .int X_encodedBits, .ref aXencoded, .int (0 : Int32), .ref aXfed, .int q281.2.1, .int (4 : Int32), .int X_tried, .int q281.2.2.2.1, .ref aXpile, .int X_decoded, .ref aXnews, .ref aXolds, .ref aXhalves, .ref aXds, .ref aXrs, .ref aXbest, .long X_bestError])) := hN_X
            have hN_Xblocks : ws[24]? = some (aXblocks, .inl (cI, Xblocks_n, .inl q313.2)) := hN_Xblocks
            have hN_Xfed := (hfr _ (by decide)).trans hN_Xfed
            have hN_Xpile := (hfr _ (by decide)).trans hN_Xpile
            have hN_Xbest := (hfr _ (by decide)).trans hN_Xbest
            have hw := z_frC (by decide) hw hfr
            refine lv_aload_n hx hb d_M_read_311 rfl (lv_at hl 0 rfl) ?_
            refine gf_M_123 (v := .int q313.1) hx hb hts hown hK hP hN_X rfl d_M_read_312 ?_
            obtain rfl := Option.some.inj hf
            exact W.iret hx hb hr (fun t ht hW => ⟨⟨_, ws, rfl, ⟨rfl, hN_X, hN_Xblocks, hN_Xpile, hN_Xbest, hw⟩, by rw [ht]; exact hP, va_K.moved hW.alike hK, hD⟩, hS.F ht⟩) hS.2.2 d_M_read_315
          · have hf := z_f hc hf
            refine lv_iconst (v := (-1)) hx hb d_M_read_300 (by decide) ?_
            refine lv_aload_n hx hb d_M_read_301 rfl (lv_at hl 0 rfl) ?_
            refine gf_M_166 (v := .int (4 : Int32)) hx hb hts hown hK hP hN_X rfl d_M_read_302 ?_
            refine lv_isub hx hb d_M_read_305 ?_
            obtain rfl := Option.some.inj hf
            exact W.iret hx hb hr (fun t ht hW => ⟨⟨_, ws, rfl, ⟨rfl, hN_X, hN_Xblocks, hN_Xpile, hN_Xbest, hw⟩, by rw [ht]; exact hP, va_K.moved hW.alike hK, hD⟩, hS.F ht⟩) hS.2.2 d_M_read_306
  · have hf := z_f hc hf
    refine lv_iload_n hx hb d_M_read_43 rfl (lv_at hl 1 rfl) ?_
    refine lv_i2l hx hb d_M_read_44 rfl ?_
    refine lv_lconst (v := 1) hx hb d_M_read_45 (by decide) ?_
    refine lv_ldc2 (v := 4) hx hb hown (hts _ lk_M_178) d_M_read_46 ?_
    obtain ⟨q314, hc, hf⟩ := z_b hf
    refine vp_callSi (z_cr (va_runS (As := [.long q275.1.toInt64, .long (1 : Int64), .long (4 : Int64)]) (rest := [.ref aX]) ⟨hx, hb, hml, hown, hts⟩ (c_M_in l q275.1.toInt64 (1 : Int64) (4 : Int64) q314 hc) (cw_M_55 hts ⟨Nat.le_of_ble_eq_true rfl, Nat.le_of_ble_eq_true rfl⟩) ⟨zb0, zp0⟩ rfl rfl hl.1 rfl (lv_room (Nat.le_of_ble_eq_true rfl)) d_M_read_49 ⟨Nat.zero_le _, Nat.zero_le _⟩)) (fun r315 hv => ?_)
    have hv := hv.symm
    subst hv
    refine lv_if_eq (tgt := 65) hx hb d_M_read_52 (by decide) (fun hc => ?_) (fun hc => ?_)
    · have hf := z_t hc hf
      refine lv_iconst (v := 0) hx hb d_M_read_65 (by decide) ?_
      refine lv_goto (tgt := 73) hx hb d_M_read_66 (by decide) ?_
      refine pf_M_166 (v := .int (0 : Int32)) hx hb hts hown hK hP hD hS hN_X rfl rfl (Nat.le_of_ble_eq_true rfl) d_M_read_73 (fun ws H locs hP hD hS hN_X hfr => ?_)
      have hN_X : ws[21]? = some (aX, .inr (7, [.int (0 : Int32), .int X_side, .ref aXpicture, .ref aXhalf, .int X_many, .ref aXblocks, .int (0 : Int32), .int X_encodedBits, .ref aXencoded, .int X_fedMany, .ref aXfed, .int q275.2.1, .int (0 : Int32), .int X_tried, .int (0 : Int32), .ref aXpile, .int X_decoded, .ref aXnews, .ref aXolds, .ref aXhalves, .ref aXds, .ref aXrs, .ref aXbest, .long X_bestError])) := hN_X
      have hN_Xblocks := (hfr _ (by decide)).trans hN_Xblocks
      have hN_Xfed := (hfr _ (by decide)).trans hN_Xfed
      have hN_Xpile := (hfr _ (by decide)).trans hN_Xpile
      have hN_Xbest := (hfr _ (by decide)).trans hN_Xbest
      have hw := z_fr (by decide) hw hfr
      refine lv_aload_n hx hb d_M_read_76 rfl (lv_at hl 2 rfl) ?_
      refine lv_iconst (v := 0) hx hb d_M_read_77 (by decide) ?_
      refine lv_iconst (v := 0) hx hb d_M_read_78 (by decide) ?_
      refine lv_aload_n hx hb d_M_read_79 rfl (lv_at hl 2 rfl) ?_
      refine gf_M_46 (v := .int X_side) hx hb hts hown hK hP hN_X rfl d_M_read_80 ?_
      obtain ⟨q316, hc, hf⟩ := z_b hf
      have hFc := z_free hD hS hA
      refine va_callv (va_runV (As := [.int (0 : Int32), .int (0 : Int32), .int X_side]) (rest := []) ⟨hx, hb, hml, hown, hts⟩ (c_M_pileQuarters l dC dI cI cL _ (0 : Int32) (0 : Int32) X_side hN_X hN_Xpile q316 hc) (cw_M_141 hts ⟨Nat.le_of_ble_eq_true rfl, Nat.le_of_ble_eq_true rfl⟩) ⟨zbM, va_recv hK hP (ci := 7) rfl hN_X, (zpM hP hK hZ hD)⟩ rfl rfl hl.1 rfl (lv_room (Nat.le_of_ble_eq_true rfl)) d_M_read_83 ⟨Nat.zero_le _, Nat.zero_le _⟩) hS (fun q _ h => hFc q h) hFc (fun ws t H locs ht hvm hu hB hz1 hk1 hS => ?_)
      obtain ⟨hN_X, hN_Xpile, hfr⟩ := hu
      obtain ⟨hP, -, hD1⟩ := hB
      rw [ht] at hP
      have hD := hD1.weaken (fun _ _ _ h => hFc _ h)
      have hN_X : ws[21]? = some (aX, .inr (7, [.int (0 : Int32), .int X_side, .ref aXpicture, .ref aXhalf, .int X_many, .ref aXblocks, .int (0 : Int32), .int X_encodedBits, .ref aXencoded, .int X_fedMany, .ref aXfed, .int q275.2.1, .int (0 : Int32), .int X_tried, .int q316.1, .ref aXpile, .int X_decoded, .ref aXnews, .ref aXolds, .ref aXhalves, .ref aXds, .ref aXrs, .ref aXbest, .long X_bestError])) := hN_X
      have hN_Xpile : ws[27]? = some (aXpile, .inl (cI, Xpile_n, .inl q316.2)) := hN_Xpile
      have hN_Xblocks := (hfr _ (by decide)).trans hN_Xblocks
      have hN_Xfed := (hfr _ (by decide)).trans hN_Xfed
      have hN_Xbest := (hfr _ (by decide)).trans hN_Xbest
      have hw := z_frC (by decide) hw hfr
      have lp325 : ∀ (Qx : State → Prop) (n : Nat) (X_found_318 : Int32) (X_readAt_319 : Int32) (X_why_320 : Int32) (X_waiting_321 : Int32) (Xblocks_f_322 : Nat → Int32) (Xpile_f_323 : Nat → Int32) (Xbest_f_324 : Nat → Int32) (ws : va_W) (H : Heap) (locs : List Loc) (ls : Array Slot) (q : Int32 × Int32 × Int32 × Int32 × (Nat → Int32) × (Nat → Int32) × (Nat → Int32)) (hf : f_M_read_86 q275.1 ((1 : Int32) <<< (q275.1 &&& 31)) X_side X_fedMany Xblocks_n Xfed_n Xfed_f Xpile_n Xbest_n n X_found_318 X_readAt_319 X_why_320 X_waiting_321 Xblocks_f_322 Xpile_f_323 Xbest_f_324 = some q) (hl : lv_has ls 6 [(0, .ref aX), (1, .int q275.1), (2, .int ((1 : Int32) <<< (q275.1 &&& 31)))]) (hP : va_P (dC, dI) classes ws H) (hD : va_D A ws) (hS : va_S A s.heap H locs) (hN_X : ws[21]? = some (aX, .inr (7, [.int (0 : Int32), .int X_side, .ref aXpicture, .ref aXhalf, .int X_many, .ref aXblocks, .int X_found_318, .int X_encodedBits, .ref aXencoded, .int X_fedMany, .ref aXfed, .int X_readAt_319, .int X_why_320, .int X_tried, .int X_waiting_321, .ref aXpile, .int X_decoded, .ref aXnews, .ref aXolds, .ref aXhalves, .ref aXds, .ref aXrs, .ref aXbest, .long X_bestError]))) (hN_Xblocks : ws[24]? = some (aXblocks, .inl (cI, Xblocks_n, .inl Xblocks_f_322))) (hN_Xfed : ws[26]? = some (aXfed, .inl (cI, Xfed_n, .inl Xfed_f))) (hN_Xpile : ws[27]? = some (aXpile, .inl (cI, Xpile_n, .inl Xpile_f_323))) (hN_Xbest : ws[33]? = some (aXbest, .inl (cI, Xbest_n, .inl Xbest_f_324))) (hw : ∀ j, j ∉ [21, 24, 27, 33] → ws[j]? = ws0[j]?) (kt0 : ∀ (ws : va_W) (H : Heap) (locs : List Loc) (ls : Array Slot), lv_has ls 6 [(0, .ref aX), (1, .int q275.1), (2, .int ((1 : Int32) <<< (q275.1 &&& 31)))] → (va_P (dC, dI) classes ws H) → (va_D A ws) → (va_S A s.heap H locs) → (ws[21]? = some (aX, .inr (7, [.int (0 : Int32), .int X_side, .ref aXpicture, .ref aXhalf, .int X_many, .ref aXblocks, .int q.1, .int X_encodedBits, .ref aXencoded, .int X_fedMany, .ref aXfed, .int q.2.1, .int q.2.2.1, .int X_tried, .int q.2.2.2.1, .ref aXpile, .int X_decoded, .ref aXnews, .ref aXolds, .ref aXhalves, .ref aXds, .ref aXrs, .ref aXbest, .long X_bestError]))) → (ws[24]? = some (aXblocks, .inl (cI, Xblocks_n, .inl q.2.2.2.2.1))) → (ws[26]? = some (aXfed, .inl (cI, Xfed_n, .inl Xfed_f))) → (ws[27]? = some (aXpile, .inl (cI, Xpile_n, .inl q.2.2.2.2.2.1))) → (ws[33]? = some (aXbest, .inl (cI, Xbest_n, .inl q.2.2.2.2.2.2))) → (∀ j, j ∉ [21, 24, 27, 33] → ws[j]? = ws0[j]?) → W p l e (headSpec w_M_read rm_M_read).room s m ([.ref aX] : List Value).toArray below meth c H locs 0 0 Qx (F0 m 191 ls [])), W p l e (headSpec w_M_read rm_M_read).room s m ([.ref aX] : List Value).toArray below meth c H locs 0 0 Qx (F0 m 86 ls []) := by
        intro Qx n
        induction n with
        | zero => intro X_found_318 X_readAt_319 X_why_320 X_waiting_321 Xblocks_f_322 Xpile_f_323 Xbest_f_324 ws H locs ls q hf; cases hf
        | succ n ih =>
          intro X_found_318 X_readAt_319 X_why_320 X_waiting_321 Xblocks_f_322 Xpile_f_323 Xbest_f_324 ws H locs ls q hf hl hP hD hS hN_X hN_Xblocks hN_Xfed hN_Xpile hN_Xbest hw kt0
          rw [f_M_read_86] at hf
          refine lv_aload_n hx hb d_M_read_86 rfl (lv_at hl 0 rfl) ?_
          refine gf_M_114 (v := .int X_waiting_321) hx hb hts hown hK hP hN_X rfl d_M_read_87 ?_
          refine lv_if_le (tgt := 191) hx hb d_M_read_90 (by decide) (fun hc => ?_) (fun hc => ?_)
          · have hf := z_t hc hf
            obtain rfl := Option.some.inj hf
            exact kt0 _ _ _ ls (lv_sub hl [0, 1, 2] rfl) hP hD hS hN_X hN_Xblocks hN_Xfed hN_Xpile hN_Xbest hw
          · have hf := z_f hc hf
            refine lv_aload_n hx hb d_M_read_93 rfl (lv_at hl 0 rfl) ?_
            refine gf_M_166 (v := .int X_why_320) hx hb hts hown hK hP hN_X rfl d_M_read_94 ?_
            refine lv_if_ge (tgt := 191) hx hb d_M_read_97 (by decide) (fun hc => ?_) (fun hc => ?_)
            · have hf := z_t hc hf
              obtain rfl := Option.some.inj hf
              exact kt0 _ _ _ ls (lv_sub hl [0, 1, 2] rfl) hP hD hS hN_X hN_Xblocks hN_Xfed hN_Xpile hN_Xbest hw
            · have hf := z_f hc hf
              refine lv_aload_n hx hb d_M_read_100 rfl (lv_at hl 0 rfl) ?_
              refine lv_dup hx hb d_M_read_101 rfl ?_
              refine gf_M_114 (v := .int X_waiting_321) hx hb hts hown hK hP hN_X rfl d_M_read_102 ?_
              refine lv_iconst (v := 1) hx hb d_M_read_105 (by decide) ?_
              refine lv_isub hx hb d_M_read_106 ?_
              refine pf_M_114 (v := .int (X_waiting_321 - (1 : Int32))) hx hb hts hown hK hP hD hS hN_X rfl rfl (Nat.le_of_ble_eq_true rfl) d_M_read_107 (fun ws H locs hP hD hS hN_X hfr => ?_)
              have hN_X : ws[21]? = some (aX, .inr (7, [.int (0 : Int32), .int X_side, .ref aXpicture, .ref aXhalf, .int X_many, .ref aXblocks, .int X_found_318, .int X_encodedBits, .ref aXencoded, .int X_fedMany, .ref aXfed, .int X_readAt_319, .int X_why_320, .int X_tried, .int (X_waiting_321 - (1 : Int32)), .ref aXpile, .int X_decoded, .ref aXnews, .ref aXolds, .ref aXhalves, .ref aXds, .ref aXrs, .ref aXbest, .long X_bestError])) := hN_X
              have hN_Xblocks := (hfr _ (by decide)).trans hN_Xblocks
              have hN_Xfed := (hfr _ (by decide)).trans hN_Xfed
              have hN_Xpile := (hfr _ (by decide)).trans hN_Xpile
              have hN_Xbest := (hfr _ (by decide)).trans hN_Xbest
              have hw := z_fr (by decide) hw hfr
              refine lv_aload_n hx hb d_M_read_110 rfl (lv_at hl 0 rfl) ?_
              refine gf_M_25 (v := .ref aXpile) hx hb hts hown hK hP hN_X rfl d_M_read_111 ?_
              refine lv_iconst (v := 3) hx hb d_M_read_114 (by decide) ?_
              refine lv_aload_n hx hb d_M_read_115 rfl (lv_at hl 0 rfl) ?_
              refine gf_M_114 (v := .int (X_waiting_321 - (1 : Int32))) hx hb hts hown hK hP hN_X rfl d_M_read_116 ?_
              refine lv_imul hx hb d_M_read_119 ?_
              obtain ⟨hin, hf⟩ := z_no hf
              refine va_iald hx hb hK hP _ 0 hN_Xpile rfl hin d_M_read_120 ?_
              refine lv_istore_n (lv' := [(3, .int (Xpile_f_323 ((3 : Int32) * (X_waiting_321 - (1 : Int32))).toNatClampNeg)), (0, .ref aX), (1, .int q275.1), (2, .int ((1 : Int32) <<< (q275.1 &&& 31)))]) hx hb d_M_read_121 rfl hl (by decide) rfl (fun ls hl => ?_)
              refine lv_aload_n hx hb d_M_read_122 rfl (lv_at hl 1 rfl) ?_
              refine gf_M_25 (v := .ref aXpile) hx hb hts hown hK hP hN_X rfl d_M_read_123 ?_
              refine lv_iconst (v := 3) hx hb d_M_read_126 (by decide) ?_
              refine lv_aload_n hx hb d_M_read_127 rfl (lv_at hl 1 rfl) ?_
              refine gf_M_114 (v := .int (X_waiting_321 - (1 : Int32))) hx hb hts hown hK hP hN_X rfl d_M_read_128 ?_
              refine lv_imul hx hb d_M_read_131 ?_
              refine lv_iconst (v := 1) hx hb d_M_read_132 (by decide) ?_
              refine lv_iadd hx hb d_M_read_133 ?_
              obtain ⟨hin, hf⟩ := z_no hf
              refine va_iald hx hb hK hP _ 0 hN_Xpile rfl hin d_M_read_134 ?_
              refine lv_istore (lv' := [(4, .int (Xpile_f_323 (((3 : Int32) * (X_waiting_321 - (1 : Int32))) + (1 : Int32)).toNatClampNeg)), (3, .int (Xpile_f_323 ((3 : Int32) * (X_waiting_321 - (1 : Int32))).toNatClampNeg)), (0, .ref aX), (1, .int q275.1), (2, .int ((1 : Int32) <<< (q275.1 &&& 31)))]) hx hb d_M_read_135 hl (by decide) rfl (fun ls hl => ?_)
              refine lv_aload_n hx hb d_M_read_137 rfl (lv_at hl 2 rfl) ?_
              refine gf_M_25 (v := .ref aXpile) hx hb hts hown hK hP hN_X rfl d_M_read_138 ?_
              refine lv_iconst (v := 3) hx hb d_M_read_141 (by decide) ?_
              refine lv_aload_n hx hb d_M_read_142 rfl (lv_at hl 2 rfl) ?_
              refine gf_M_114 (v := .int (X_waiting_321 - (1 : Int32))) hx hb hts hown hK hP hN_X rfl d_M_read_143 ?_
              refine lv_imul hx hb d_M_read_146 ?_
              refine lv_iconst (v := 2) hx hb d_M_read_147 (by decide) ?_
              refine lv_iadd hx hb d_M_read_148 ?_
              obtain ⟨hin, hf⟩ := z_no hf
              refine va_iald hx hb hK hP _ 0 hN_Xpile rfl hin d_M_read_149 ?_
              refine lv_istore (lv' := [(5, .int (Xpile_f_323 (((3 : Int32) * (X_waiting_321 - (1 : Int32))) + (2 : Int32)).toNatClampNeg)), (4, .int (Xpile_f_323 (((3 : Int32) * (X_waiting_321 - (1 : Int32))) + (1 : Int32)).toNatClampNeg)), (3, .int (Xpile_f_323 ((3 : Int32) * (X_waiting_321 - (1 : Int32))).toNatClampNeg)), (0, .ref aX), (1, .int q275.1), (2, .int ((1 : Int32) <<< (q275.1 &&& 31)))]) hx hb d_M_read_150 hl (by decide) rfl (fun ls hl => ?_)
              refine lv_iload hx hb d_M_read_152 (lv_at hl 0 rfl) ?_
              refine lv_iload_n hx hb d_M_read_154 rfl (lv_at hl 5 rfl) ?_
              refine lv_icmp_le (tgt := 179) hx hb d_M_read_155 (by decide) (fun hc => ?_) (fun hc => ?_)
              · have hf := z_t hc hf
                refine lv_aload_n hx hb d_M_read_179 rfl (lv_at hl 3 rfl) ?_
                refine lv_iload_n hx hb d_M_read_180 rfl (lv_at hl 2 rfl) ?_
                refine lv_iload hx hb d_M_read_181 (lv_at hl 1 rfl) ?_
                refine lv_iload hx hb d_M_read_183 (lv_at hl 0 rfl) ?_
                obtain ⟨q326, hc, hf⟩ := z_b hf
                have hFc := z_free hD hS hA
                refine va_callv (va_runV (As := [.int (Xpile_f_323 ((3 : Int32) * (X_waiting_321 - (1 : Int32))).toNatClampNeg), .int (Xpile_f_323 (((3 : Int32) * (X_waiting_321 - (1 : Int32))) + (1 : Int32)).toNatClampNeg), .int (Xpile_f_323 (((3 : Int32) * (X_waiting_321 - (1 : Int32))) + (2 : Int32)).toNatClampNeg)]) (rest := []) ⟨hx, hb, hml, hown, hts⟩ (c_M_readBlock l dC dI cI cL _ (Xpile_f_323 ((3 : Int32) * (X_waiting_321 - (1 : Int32))).toNatClampNeg) (Xpile_f_323 (((3 : Int32) * (X_waiting_321 - (1 : Int32))) + (1 : Int32)).toNatClampNeg) (Xpile_f_323 (((3 : Int32) * (X_waiting_321 - (1 : Int32))) + (2 : Int32)).toNatClampNeg) hN_X hN_Xblocks hN_Xfed hN_Xbest q326 hc) (cw_M_180 hts ⟨Nat.le_of_ble_eq_true rfl, Nat.le_of_ble_eq_true rfl⟩) ⟨zbM, va_recv hK hP (ci := 7) rfl hN_X, (zpM hP hK hZ hD)⟩ rfl rfl hl.1 rfl (lv_room (Nat.le_of_ble_eq_true rfl)) d_M_read_185 ⟨Nat.zero_le _, Nat.zero_le _⟩) hS (fun q _ h => hFc q h) hFc (fun ws t H locs ht hvm hu hB hz1 hk1 hS => ?_)
                obtain ⟨hN_X, hN_Xblocks, hN_Xbest, hfr⟩ := hu
                obtain ⟨hP, -, hD1⟩ := hB
                rw [ht] at hP
                have hD := hD1.weaken (fun _ _ _ h => hFc _ h)
                have hN_X : ws[21]? = some (aX, .inr (7, [.int (0 : Int32), .int X_side, .ref aXpicture, .ref aXhalf, .int X_many, .ref aXblocks, .int q326.1, .int X_encodedBits, .ref aXencoded, .int X_fedMany, .ref aXfed, .int q326.2.1, .int q326.2.2.1, .int X_tried, .int (X_waiting_321 - (1 : Int32)), .ref aXpile, .int X_decoded, .ref aXnews, .ref aXolds, .ref aXhalves, .ref aXds, .ref aXrs, .ref aXbest, .long X_bestError])) := hN_X
                have hN_Xblocks : ws[24]? = some (aXblocks, .inl (cI, Xblocks_n, .inl q326.2.2.2.1)) := hN_Xblocks
                have hN_Xbest : ws[33]? = some (aXbest, .inl (cI, Xbest_n, .inl q326.2.2.2.2)) := hN_Xbest
                have hN_Xfed := (hfr _ (by decide)).trans hN_Xfed
                have hN_Xpile := (hfr _ (by decide)).trans hN_Xpile
                have hw := z_frC (by decide) hw hfr
                refine lv_goto (tgt := 86) hx hb d_M_read_188 (by decide) ?_
                exact ih q326.1 q326.2.1 q326.2.2.1 (X_waiting_321 - (1 : Int32)) q326.2.2.2.1 Xpile_f_323 q326.2.2.2.2 _ _ _ ls _ hf (lv_sub hl [3, 4, 5] rfl) hP hD hS hN_X hN_Xblocks hN_Xfed hN_Xpile hN_Xbest hw kt0
              · have hf := z_f hc hf
                refine lv_aload_n hx hb d_M_read_158 rfl (lv_at hl 3 rfl) ?_
                refine lv_iconst (v := 1) hx hb d_M_read_159 (by decide) ?_
                obtain ⟨q327, hc, hf⟩ := z_b hf
                have hFc := z_free hD hS hA
                refine va_calli (va_runV (As := [.int (1 : Int32)]) (rest := []) ⟨hx, hb, hml, hown, hts⟩ (c_M_take l dC dI cI cL _ (1 : Int32) hN_X hN_Xfed q327 hc) (cw_M_175 hts ⟨Nat.le_of_ble_eq_true rfl, Nat.le_of_ble_eq_true rfl⟩) ⟨zbM, va_recv hK hP (ci := 7) rfl hN_X, (zpM hP hK hZ hD)⟩ rfl rfl hl.1 rfl (lv_room (Nat.le_of_ble_eq_true rfl)) d_M_read_160 ⟨Nat.zero_le _, Nat.zero_le _⟩) hS (fun q _ h => hFc q h) hFc (fun rv ws t H locs ht hvm hu hB hz1 hk1 hS => ?_)
                obtain ⟨hv, hN_X, hfr⟩ := hu
                subst hv
                obtain ⟨hP, -, hD1⟩ := hB
                rw [ht] at hP
                have hD := hD1.weaken (fun _ _ _ h => hFc _ h)
                have hN_X : ws[21]? = some (aX, .inr (7, [.int (0 : Int32), .int X_side, .ref aXpicture, .ref aXhalf, .int X_many, .ref aXblocks, .int X_found_318, .int X_encodedBits, .ref aXencoded, .int X_fedMany, .ref aXfed, .int q327.2.1, .int q327.2.2, .int X_tried, .int (X_waiting_321 - (1 : Int32)), .ref aXpile, .int X_decoded, .ref aXnews, .ref aXolds, .ref aXhalves, .ref aXds, .ref aXrs, .ref aXbest, .long X_bestError])) := hN_X
                have hN_Xblocks := (hfr _ (by decide)).trans hN_Xblocks
                have hN_Xfed := (hfr _ (by decide)).trans hN_Xfed
                have hN_Xpile := (hfr _ (by decide)).trans hN_Xpile
                have hN_Xbest := (hfr _ (by decide)).trans hN_Xbest
                have hw := z_frC (by decide) hw hfr
                refine lv_iconst (v := 1) hx hb d_M_read_163 (by decide) ?_
                refine lv_icmp_ne (tgt := 179) hx hb d_M_read_164 (by decide) (fun hc => ?_) (fun hc => ?_)
                · have hf := z_f hc hf
                  refine lv_aload_n hx hb d_M_read_179 rfl (lv_at hl 3 rfl) ?_
                  refine lv_iload_n hx hb d_M_read_180 rfl (lv_at hl 2 rfl) ?_
                  refine lv_iload hx hb d_M_read_181 (lv_at hl 1 rfl) ?_
                  refine lv_iload hx hb d_M_read_183 (lv_at hl 0 rfl) ?_
                  obtain ⟨q328, hc, hf⟩ := z_b hf
                  have hFc := z_free hD hS hA
                  refine va_callv (va_runV (As := [.int (Xpile_f_323 ((3 : Int32) * (X_waiting_321 - (1 : Int32))).toNatClampNeg), .int (Xpile_f_323 (((3 : Int32) * (X_waiting_321 - (1 : Int32))) + (1 : Int32)).toNatClampNeg), .int (Xpile_f_323 (((3 : Int32) * (X_waiting_321 - (1 : Int32))) + (2 : Int32)).toNatClampNeg)]) (rest := []) ⟨hx, hb, hml, hown, hts⟩ (c_M_readBlock l dC dI cI cL _ (Xpile_f_323 ((3 : Int32) * (X_waiting_321 - (1 : Int32))).toNatClampNeg) (Xpile_f_323 (((3 : Int32) * (X_waiting_321 - (1 : Int32))) + (1 : Int32)).toNatClampNeg) (Xpile_f_323 (((3 : Int32) * (X_waiting_321 - (1 : Int32))) + (2 : Int32)).toNatClampNeg) hN_X hN_Xblocks hN_Xfed hN_Xbest q328 hc) (cw_M_180 hts ⟨Nat.le_of_ble_eq_true rfl, Nat.le_of_ble_eq_true rfl⟩) ⟨zbM, va_recv hK hP (ci := 7) rfl hN_X, (zpM hP hK hZ hD)⟩ rfl rfl hl.1 rfl (lv_room (Nat.le_of_ble_eq_true rfl)) d_M_read_185 ⟨Nat.zero_le _, Nat.zero_le _⟩) hS (fun q _ h => hFc q h) hFc (fun ws t H locs ht hvm hu hB hz1 hk1 hS => ?_)
                  obtain ⟨hN_X, hN_Xblocks, hN_Xbest, hfr⟩ := hu
                  obtain ⟨hP, -, hD1⟩ := hB
                  rw [ht] at hP
                  have hD := hD1.weaken (fun _ _ _ h => hFc _ h)
                  have hN_X : ws[21]? = some (aX, .inr (7, [.int (0 : Int32), .int X_side, .ref aXpicture, .ref aXhalf, .int X_many, .ref aXblocks, .int q328.1, .int X_encodedBits, .ref aXencoded, .int X_fedMany, .ref aXfed, .int q328.2.1, .int q328.2.2.1, .int X_tried, .int (X_waiting_321 - (1 : Int32)), .ref aXpile, .int X_decoded, .ref aXnews, .ref aXolds, .ref aXhalves, .ref aXds, .ref aXrs, .ref aXbest, .long X_bestError])) := hN_X
                  have hN_Xblocks : ws[24]? = some (aXblocks, .inl (cI, Xblocks_n, .inl q328.2.2.2.1)) := hN_Xblocks
                  have hN_Xbest : ws[33]? = some (aXbest, .inl (cI, Xbest_n, .inl q328.2.2.2.2)) := hN_Xbest
                  have hN_Xfed := (hfr _ (by decide)).trans hN_Xfed
                  have hN_Xpile := (hfr _ (by decide)).trans hN_Xpile
                  have hw := z_frC (by decide) hw hfr
                  refine lv_goto (tgt := 86) hx hb d_M_read_188 (by decide) ?_
                  exact ih q328.1 q328.2.1 q328.2.2.1 (X_waiting_321 - (1 : Int32)) q328.2.2.2.1 Xpile_f_323 q328.2.2.2.2 _ _ _ ls _ hf (lv_sub hl [3, 4, 5] rfl) hP hD hS hN_X hN_Xblocks hN_Xfed hN_Xpile hN_Xbest hw kt0
                · have hf := z_t hc hf
                  refine lv_aload_n hx hb d_M_read_167 rfl (lv_at hl 3 rfl) ?_
                  refine lv_iload_n hx hb d_M_read_168 rfl (lv_at hl 2 rfl) ?_
                  refine lv_iload hx hb d_M_read_169 (lv_at hl 1 rfl) ?_
                  refine lv_iload hx hb d_M_read_171 (lv_at hl 0 rfl) ?_
                  obtain ⟨q329, hc, hf⟩ := z_b hf
                  have hFc := z_free hD hS hA
                  refine va_callv (va_runV (As := [.int (Xpile_f_323 ((3 : Int32) * (X_waiting_321 - (1 : Int32))).toNatClampNeg), .int (Xpile_f_323 (((3 : Int32) * (X_waiting_321 - (1 : Int32))) + (1 : Int32)).toNatClampNeg), .int (Xpile_f_323 (((3 : Int32) * (X_waiting_321 - (1 : Int32))) + (2 : Int32)).toNatClampNeg)]) (rest := []) ⟨hx, hb, hml, hown, hts⟩ (c_M_pileQuarters l dC dI cI cL _ (Xpile_f_323 ((3 : Int32) * (X_waiting_321 - (1 : Int32))).toNatClampNeg) (Xpile_f_323 (((3 : Int32) * (X_waiting_321 - (1 : Int32))) + (1 : Int32)).toNatClampNeg) (Xpile_f_323 (((3 : Int32) * (X_waiting_321 - (1 : Int32))) + (2 : Int32)).toNatClampNeg) hN_X hN_Xpile q329 hc) (cw_M_141 hts ⟨Nat.le_of_ble_eq_true rfl, Nat.le_of_ble_eq_true rfl⟩) ⟨zbM, va_recv hK hP (ci := 7) rfl hN_X, (zpM hP hK hZ hD)⟩ rfl rfl hl.1 rfl (lv_room (Nat.le_of_ble_eq_true rfl)) d_M_read_173 ⟨Nat.zero_le _, Nat.zero_le _⟩) hS (fun q _ h => hFc q h) hFc (fun ws t H locs ht hvm hu hB hz1 hk1 hS => ?_)
                  obtain ⟨hN_X, hN_Xpile, hfr⟩ := hu
                  obtain ⟨hP, -, hD1⟩ := hB
                  rw [ht] at hP
                  have hD := hD1.weaken (fun _ _ _ h => hFc _ h)
                  have hN_X : ws[21]? = some (aX, .inr (7, [.int (0 : Int32), .int X_side, .ref aXpicture, .ref aXhalf, .int X_many, .ref aXblocks, .int X_found_318, .int X_encodedBits, .ref aXencoded, .int X_fedMany, .ref aXfed, .int q327.2.1, .int q327.2.2, .int X_tried, .int q329.1, .ref aXpile, .int X_decoded, .ref aXnews, .ref aXolds, .ref aXhalves, .ref aXds, .ref aXrs, .ref aXbest, .long X_bestError])) := hN_X
                  have hN_Xpile : ws[27]? = some (aXpile, .inl (cI, Xpile_n, .inl q329.2)) := hN_Xpile
                  have hN_Xblocks := (hfr _ (by decide)).trans hN_Xblocks
                  have hN_Xfed := (hfr _ (by decide)).trans hN_Xfed
                  have hN_Xbest := (hfr _ (by decide)).trans hN_Xbest
                  have hw := z_frC (by decide) hw hfr
                  refine lv_goto (tgt := 188) hx hb d_M_read_176 (by decide) ?_
                  refine lv_goto (tgt := 86) hx hb d_M_read_188 (by decide) ?_
                  exact ih X_found_318 q327.2.1 q327.2.2 q329.1 Xblocks_f_322 q329.2 Xbest_f_324 _ _ _ ls _ hf (lv_sub hl [3, 4, 5] rfl) hP hD hS hN_X hN_Xblocks hN_Xfed hN_Xpile hN_Xbest hw kt0
      obtain ⟨q317, hc, hf⟩ := z_b hf
      refine lp325 _ FU (0 : Int32) q275.2.1 (0 : Int32) q316.1 Xblocks_f q316.2 Xbest_f _ _ _ ls q317 hc (lv_sub hl [2, 1, 0] rfl) hP hD hS hN_X hN_Xblocks hN_Xfed hN_Xpile hN_Xbest hw (fun ws H locs ls hl hP hD hS hN_X hN_Xblocks hN_Xfed hN_Xpile hN_Xbest hw => ?_)
      refine lv_bipush (v := 8) hx hb d_M_read_191 (by decide) ?_
      refine lv_aload_n hx hb d_M_read_193 rfl (lv_at hl 0 rfl) ?_
      refine gf_M_163 (v := .int X_fedMany) hx hb hts hown hK hP hN_X rfl d_M_read_194 ?_
      refine lv_imul hx hb d_M_read_197 ?_
      refine lv_aload_n hx hb d_M_read_198 rfl (lv_at hl 0 rfl) ?_
      refine gf_M_169 (v := .int q317.2.1) hx hb hts hown hK hP hN_X rfl d_M_read_199 ?_
      refine lv_isub hx hb d_M_read_202 ?_
      refine lv_bipush (v := 7) hx hb d_M_read_203 (by decide) ?_
      refine lv_icmp_le (tgt := 212) hx hb d_M_read_205 (by decide) (fun hc => ?_) (fun hc => ?_)
      · have hf := z_t hc hf
        refine lv_iconst (v := 0) hx hb d_M_read_212 (by decide) ?_
        refine lv_istore_n (lv' := [(3, .int (0 : Int32)), (0, .ref aX), (1, .int q275.1), (2, .int ((1 : Int32) <<< (q275.1 &&& 31)))]) hx hb d_M_read_213 rfl hl (by decide) rfl (fun ls hl => ?_)
        refine lv_aload_n hx hb d_M_read_214 rfl (lv_at hl 1 rfl) ?_
        refine gf_M_169 (v := .int q317.2.1) hx hb hts hown hK hP hN_X rfl d_M_read_215 ?_
        refine lv_istore (lv' := [(4, .int q317.2.1), (3, .int (0 : Int32)), (0, .ref aX), (1, .int q275.1), (2, .int ((1 : Int32) <<< (q275.1 &&& 31)))]) hx hb d_M_read_218 hl (by decide) rfl (fun ls hl => ?_)
        have lp333 : ∀ (Qx : State → Prop) (n : Nat) (v3_331 : Int32) (v4_332 : Int32) (ls : Array Slot) (q : Int32 × Int32) (hf : f_M_read_220 q275.1 ((1 : Int32) <<< (q275.1 &&& 31)) X_fedMany q317.2.2.1 Xfed_n Xfed_f n v3_331 v4_332 = some q) (hl : lv_has ls 6 [(0, .ref aX), (1, .int q275.1), (2, .int ((1 : Int32) <<< (q275.1 &&& 31))), (3, .int v3_331), (4, .int v4_332)]) (kt0 : ∀ (ls : Array Slot), lv_has ls 6 [(0, .ref aX), (1, .int q275.1), (2, .int ((1 : Int32) <<< (q275.1 &&& 31))), (3, .int q.1), (4, .int q.2)] → W p l e (headSpec w_M_read rm_M_read).room s m ([.ref aX] : List Value).toArray below meth c H locs 0 0 Qx (F0 m 265 ls [])), W p l e (headSpec w_M_read rm_M_read).room s m ([.ref aX] : List Value).toArray below meth c H locs 0 0 Qx (F0 m 220 ls []) := by
          intro Qx n
          induction n with
          | zero => intro v3_331 v4_332 ls q hf; cases hf
          | succ n ih =>
            intro v3_331 v4_332 ls q hf hl kt0
            rw [f_M_read_220] at hf
            refine lv_iload hx hb d_M_read_220 (lv_at hl 4 rfl) ?_
            refine lv_bipush (v := 8) hx hb d_M_read_222 (by decide) ?_
            refine lv_aload_n hx hb d_M_read_224 rfl (lv_at hl 0 rfl) ?_
            refine gf_M_163 (v := .int X_fedMany) hx hb hts hown hK hP hN_X rfl d_M_read_225 ?_
            refine lv_imul hx hb d_M_read_228 ?_
            refine lv_icmp_ge (tgt := 265) hx hb d_M_read_229 (by decide) (fun hc => ?_) (fun hc => ?_)
            · have hf := z_t hc hf
              obtain rfl := Option.some.inj hf
              exact kt0 ls (lv_sub hl [0, 1, 2, 3, 4] rfl)
            · have hf := z_f hc hf
              refine lv_aload_n hx hb d_M_read_232 rfl (lv_at hl 0 rfl) ?_
              refine gf_M_166 (v := .int q317.2.2.1) hx hb hts hown hK hP hN_X rfl d_M_read_233 ?_
              refine lv_if_ge (tgt := 265) hx hb d_M_read_236 (by decide) (fun hc => ?_) (fun hc => ?_)
              · have hf := z_t hc hf
                obtain rfl := Option.some.inj hf
                exact kt0 ls (lv_sub hl [0, 1, 2, 3, 4] rfl)
              · have hf := z_f hc hf
                refine lv_iload_n hx hb d_M_read_239 rfl (lv_at hl 3 rfl) ?_
                refine lv_if_ne (tgt := 253) hx hb d_M_read_240 (by decide) (fun hc => ?_) (fun hc => ?_)
                · have hf := z_f hc hf
                  refine lv_iconst (v := 1) hx hb d_M_read_253 (by decide) ?_
                  refine lv_goto (tgt := 258) hx hb d_M_read_254 (by decide) ?_
                  refine lv_istore_n (lv' := [(3, .int (1 : Int32)), (0, .ref aX), (1, .int q275.1), (2, .int ((1 : Int32) <<< (q275.1 &&& 31))), (4, .int v4_332)]) hx hb d_M_read_258 rfl hl (by decide) rfl (fun ls hl => ?_)
                  refine lv_iinc (v := (v4_332 + 1)) (lv' := [(4, .int (v4_332 + 1)), (3, .int (1 : Int32)), (0, .ref aX), (1, .int q275.1), (2, .int ((1 : Int32) <<< (q275.1 &&& 31)))]) hx hb d_M_read_259 hl (k := 4) rfl rfl (by decide) rfl (fun ls hl => ?_)
                  refine lv_goto (tgt := 220) hx hb d_M_read_262 (by decide) ?_
                  exact ih (1 : Int32) (v4_332 + 1) ls _ hf (lv_sub hl [2, 3, 4, 1, 0] rfl) kt0
                · have hf := z_t hc hf
                  refine lv_aload_n hx hb d_M_read_243 rfl (lv_at hl 0 rfl) ?_
                  refine lv_iload hx hb d_M_read_244 (lv_at hl 4 rfl) ?_
                  obtain ⟨q334, hc, hf⟩ := z_b hf
                  refine vp_callSi (z_cr (va_runV (As := [.int v4_332]) (rest := []) ⟨hx, hb, hml, hown, hts⟩ (c_M_bitAt l dC dI cI cL v4_332 hN_X hN_Xfed q334 hc) (cw_M_172 hts ⟨Nat.le_of_ble_eq_true rfl, Nat.le_of_ble_eq_true rfl⟩) ⟨zbR, va_recv hK hP (ci := 7) rfl hN_X, (zpR hP hK hZ)⟩ rfl rfl hl.1 rfl (lv_room (Nat.le_of_ble_eq_true rfl)) d_M_read_246 ⟨Nat.zero_le _, Nat.zero_le _⟩)) (fun r335 hv => ?_)
                  have hv := hv.symm
                  subst hv
                  refine lv_iconst (v := 1) hx hb d_M_read_249 (by decide) ?_
                  refine lv_icmp_ne (tgt := 257) hx hb d_M_read_250 (by decide) (fun hc => ?_) (fun hc => ?_)
                  · have hf := z_f hc hf
                    refine lv_iconst (v := 0) hx hb d_M_read_257 (by decide) ?_
                    refine lv_istore_n (lv' := [(3, .int (0 : Int32)), (0, .ref aX), (1, .int q275.1), (2, .int ((1 : Int32) <<< (q275.1 &&& 31))), (4, .int v4_332)]) hx hb d_M_read_258 rfl hl (by decide) rfl (fun ls hl => ?_)
                    refine lv_iinc (v := (v4_332 + 1)) (lv' := [(4, .int (v4_332 + 1)), (3, .int (0 : Int32)), (0, .ref aX), (1, .int q275.1), (2, .int ((1 : Int32) <<< (q275.1 &&& 31)))]) hx hb d_M_read_259 hl (k := 4) rfl rfl (by decide) rfl (fun ls hl => ?_)
                    refine lv_goto (tgt := 220) hx hb d_M_read_262 (by decide) ?_
                    exact ih (0 : Int32) (v4_332 + 1) ls _ hf (lv_sub hl [2, 3, 4, 1, 0] rfl) kt0
                  · have hf := z_t hc hf
                    refine lv_iconst (v := 1) hx hb d_M_read_253 (by decide) ?_
                    refine lv_goto (tgt := 258) hx hb d_M_read_254 (by decide) ?_
                    refine lv_istore_n (lv' := [(3, .int (1 : Int32)), (0, .ref aX), (1, .int q275.1), (2, .int ((1 : Int32) <<< (q275.1 &&& 31))), (4, .int v4_332)]) hx hb d_M_read_258 rfl hl (by decide) rfl (fun ls hl => ?_)
                    refine lv_iinc (v := (v4_332 + 1)) (lv' := [(4, .int (v4_332 + 1)), (3, .int (1 : Int32)), (0, .ref aX), (1, .int q275.1), (2, .int ((1 : Int32) <<< (q275.1 &&& 31)))]) hx hb d_M_read_259 hl (k := 4) rfl rfl (by decide) rfl (fun ls hl => ?_)
                    refine lv_goto (tgt := 220) hx hb d_M_read_262 (by decide) ?_
                    exact ih (1 : Int32) (v4_332 + 1) ls _ hf (lv_sub hl [2, 3, 4, 1, 0] rfl) kt0
        obtain ⟨q330, hc, hf⟩ := z_b hf
        refine lp333 _ FU (0 : Int32) q317.2.1 ls q330 hc (lv_sub hl [2, 3, 4, 1, 0] rfl) (fun ls hl => ?_)
        refine lv_aload_n hx hb d_M_read_265 rfl (lv_at hl 0 rfl) ?_
        refine lv_aload_n hx hb d_M_read_266 rfl (lv_at hl 0 rfl) ?_
        refine gf_M_166 (v := .int q317.2.2.1) hx hb hts hown hK hP hN_X rfl d_M_read_267 ?_
        refine lv_if_ge (tgt := 281) hx hb d_M_read_270 (by decide) (fun hc => ?_) (fun hc => ?_)
        · have hf := z_t hc hf
          refine lv_aload_n hx hb d_M_read_281 rfl (lv_at hl 0 rfl) ?_
          refine gf_M_166 (v := .int q317.2.2.1) hx hb hts hown hK hP hN_X rfl d_M_read_282 ?_
          refine pf_M_166 (v := .int q317.2.2.1) hx hb hts hown hK hP hD hS hN_X rfl rfl (Nat.le_of_ble_eq_true rfl) d_M_read_285 (fun ws H locs hP hD hS hN_X hfr => ?_)
          have hN_X : ws[21]? = some (aX, .inr (7, [.int (0 : Int32), .int X_side, .ref aXpicture, .ref aXhalf, .int X_many, .ref aXblocks, .int q317.1, .int X_encodedBits, .ref aXencoded, .int X_fedMany, .ref aXfed, .int q317.2.1, .int q317.2.2.1, .int X_tried, .int q317.2.2.2.1, .ref aXpile, .int X_decoded, .ref aXnews, .ref aXolds, .ref aXhalves, .ref aXds, .ref aXrs, .ref aXbest, .long X_bestError])) := hN_X
          have hN_Xblocks := (hfr _ (by decide)).trans hN_Xblocks
          have hN_Xfed := (hfr _ (by decide)).trans hN_Xfed
          have hN_Xpile := (hfr _ (by decide)).trans hN_Xpile
          have hN_Xbest := (hfr _ (by decide)).trans hN_Xbest
          have hw := z_fr (by decide) hw hfr
          refine lv_aload_n hx hb d_M_read_288 rfl (lv_at hl 0 rfl) ?_
          refine lv_iconst (v := 0) hx hb d_M_read_289 (by decide) ?_
          refine pf_M_163 (v := .int (0 : Int32)) hx hb hts hown hK hP hD hS hN_X rfl rfl (Nat.le_of_ble_eq_true rfl) d_M_read_290 (fun ws H locs hP hD hS hN_X hfr => ?_)
          have hN_X : ws[21]? = some (aX, .inr (7, [.int (0 : Int32), .int X_side, .ref aXpicture, .ref aXhalf, .int X_many, .ref aXblocks, .int q317.1, .int X_encodedBits, .ref aXencoded, .int (0 : Int32), .ref aXfed, .int q317.2.1, .int q317.2.2.1, .int X_tried, .int q317.2.2.2.1, .ref aXpile, .int X_decoded, .ref aXnews, .ref aXolds, .ref aXhalves, .ref aXds, .ref aXrs, .ref aXbest, .long X_bestError])) := hN_X
          have hN_Xblocks := (hfr _ (by decide)).trans hN_Xblocks
          have hN_Xfed := (hfr _ (by decide)).trans hN_Xfed
          have hN_Xpile := (hfr _ (by decide)).trans hN_Xpile
          have hN_Xbest := (hfr _ (by decide)).trans hN_Xbest
          have hw := z_fr (by decide) hw hfr
          refine lv_aload_n hx hb d_M_read_293 rfl (lv_at hl 0 rfl) ?_
          refine gf_M_166 (v := .int q317.2.2.1) hx hb hts hown hK hP hN_X rfl d_M_read_294 ?_
          refine lv_if_lt (tgt := 307) hx hb d_M_read_297 (by decide) (fun hc => ?_) (fun hc => ?_)
          · have hf := z_t hc hf
            refine lv_aload_n hx hb d_M_read_307 rfl (lv_at hl 0 rfl) ?_
            obtain ⟨q336, hc, hf⟩ := z_b hf
            have hFc := z_free hD hS hA
            refine va_callv (va_runV (As := []) (rest := []) ⟨hx, hb, hml, hown, hts⟩ (c_M_takeFound l dC dI cI cL _ hN_X hN_Xblocks q336 hc) (cw_M_154 hts ⟨Nat.le_of_ble_eq_true rfl, Nat.le_of_ble_eq_true rfl⟩) ⟨zbM, va_recv hK hP (ci := 7) rfl hN_X, (zpM hP hK hZ hD)⟩ rfl rfl hl.1 rfl (lv_room (Nat.le_of_ble_eq_true rfl)) d_M_read_308 ⟨Nat.zero_le _, Nat.zero_le _⟩) hS (fun q _ h => hFc q h) hFc (fun ws t H locs ht hvm hu hB hz1 hk1 hS => ?_)
            obtain ⟨hN_X, hN_Xblocks, hfr⟩ := hu
            obtain ⟨hP, -, hD1⟩ := hB
            rw [ht] at hP
            have hD := hD1.weaken (fun _ _ _ h => hFc _ h)
            have hN_X : ws[21]? = some (aX, .inr (7, [.int (0 : Int32), .int X_side, .ref aXpicture, .ref aXhalf, .int q336.1, .ref aXblocks, .int q317.1, .int X_encodedBits, .ref aXencoded, .int (0 : Int32), .ref aXfed, .int q317.2.1, .int q317.2.2.1, .int X_tried, .int q317.2.2.2.1, .ref aXpile, .int X_decoded, .ref aXnews, .ref aXolds, .ref aXhalves, .ref aXds, .ref aXrs, .ref aXbest, .long X_bestError])) := hN_X
            have hN_Xblocks : ws[24]? = some (aXblocks, .inl (cI, Xblocks_n, .inl q336.2)) := hN_Xblocks
            have hN_Xfed := (hfr _ (by decide)).trans hN_Xfed
            have hN_Xpile := (hfr _ (by decide)).trans hN_Xpile
            have hN_Xbest := (hfr _ (by decide)).trans hN_Xbest
            have hw := z_frC (by decide) hw hfr
            refine lv_aload_n hx hb d_M_read_311 rfl (lv_at hl 0 rfl) ?_
            refine gf_M_123 (v := .int q336.1) hx hb hts hown hK hP hN_X rfl d_M_read_312 ?_
            obtain rfl := Option.some.inj hf
            exact W.iret hx hb hr (fun t ht hW => ⟨⟨_, ws, rfl, ⟨rfl, hN_X, hN_Xblocks, hN_Xpile, hN_Xbest, hw⟩, by rw [ht]; exact hP, va_K.moved hW.alike hK, hD⟩, hS.F ht⟩) hS.2.2 d_M_read_315
          · have hf := z_f hc hf
            refine lv_iconst (v := (-1)) hx hb d_M_read_300 (by decide) ?_
            refine lv_aload_n hx hb d_M_read_301 rfl (lv_at hl 0 rfl) ?_
            refine gf_M_166 (v := .int q317.2.2.1) hx hb hts hown hK hP hN_X rfl d_M_read_302 ?_
            refine lv_isub hx hb d_M_read_305 ?_
            obtain rfl := Option.some.inj hf
            exact W.iret hx hb hr (fun t ht hW => ⟨⟨_, ws, rfl, ⟨rfl, hN_X, hN_Xblocks, hN_Xpile, hN_Xbest, hw⟩, by rw [ht]; exact hP, va_K.moved hW.alike hK, hD⟩, hS.F ht⟩) hS.2.2 d_M_read_306
        · have hf := z_f hc hf
          refine lv_iload_n hx hb d_M_read_273 rfl (lv_at hl 3 rfl) ?_
          refine lv_if_eq (tgt := 281) hx hb d_M_read_274 (by decide) (fun hc => ?_) (fun hc => ?_)
          · have hf := z_t hc hf
            refine lv_aload_n hx hb d_M_read_281 rfl (lv_at hl 0 rfl) ?_
            refine gf_M_166 (v := .int q317.2.2.1) hx hb hts hown hK hP hN_X rfl d_M_read_282 ?_
            refine pf_M_166 (v := .int q317.2.2.1) hx hb hts hown hK hP hD hS hN_X rfl rfl (Nat.le_of_ble_eq_true rfl) d_M_read_285 (fun ws H locs hP hD hS hN_X hfr => ?_)
            have hN_X : ws[21]? = some (aX, .inr (7, [.int (0 : Int32), .int X_side, .ref aXpicture, .ref aXhalf, .int X_many, .ref aXblocks, .int q317.1, .int X_encodedBits, .ref aXencoded, .int X_fedMany, .ref aXfed, .int q317.2.1, .int q317.2.2.1, .int X_tried, .int q317.2.2.2.1, .ref aXpile, .int X_decoded, .ref aXnews, .ref aXolds, .ref aXhalves, .ref aXds, .ref aXrs, .ref aXbest, .long X_bestError])) := hN_X
            have hN_Xblocks := (hfr _ (by decide)).trans hN_Xblocks
            have hN_Xfed := (hfr _ (by decide)).trans hN_Xfed
            have hN_Xpile := (hfr _ (by decide)).trans hN_Xpile
            have hN_Xbest := (hfr _ (by decide)).trans hN_Xbest
            have hw := z_fr (by decide) hw hfr
            refine lv_aload_n hx hb d_M_read_288 rfl (lv_at hl 0 rfl) ?_
            refine lv_iconst (v := 0) hx hb d_M_read_289 (by decide) ?_
            refine pf_M_163 (v := .int (0 : Int32)) hx hb hts hown hK hP hD hS hN_X rfl rfl (Nat.le_of_ble_eq_true rfl) d_M_read_290 (fun ws H locs hP hD hS hN_X hfr => ?_)
            have hN_X : ws[21]? = some (aX, .inr (7, [.int (0 : Int32), .int X_side, .ref aXpicture, .ref aXhalf, .int X_many, .ref aXblocks, .int q317.1, .int X_encodedBits, .ref aXencoded, .int (0 : Int32), .ref aXfed, .int q317.2.1, .int q317.2.2.1, .int X_tried, .int q317.2.2.2.1, .ref aXpile, .int X_decoded, .ref aXnews, .ref aXolds, .ref aXhalves, .ref aXds, .ref aXrs, .ref aXbest, .long X_bestError])) := hN_X
            have hN_Xblocks := (hfr _ (by decide)).trans hN_Xblocks
            have hN_Xfed := (hfr _ (by decide)).trans hN_Xfed
            have hN_Xpile := (hfr _ (by decide)).trans hN_Xpile
            have hN_Xbest := (hfr _ (by decide)).trans hN_Xbest
            have hw := z_fr (by decide) hw hfr
            refine lv_aload_n hx hb d_M_read_293 rfl (lv_at hl 0 rfl) ?_
            refine gf_M_166 (v := .int q317.2.2.1) hx hb hts hown hK hP hN_X rfl d_M_read_294 ?_
            refine lv_if_lt (tgt := 307) hx hb d_M_read_297 (by decide) (fun hc => ?_) (fun hc => ?_)
            · have hf := z_t hc hf
              refine lv_aload_n hx hb d_M_read_307 rfl (lv_at hl 0 rfl) ?_
              obtain ⟨q337, hc, hf⟩ := z_b hf
              have hFc := z_free hD hS hA
              refine va_callv (va_runV (As := []) (rest := []) ⟨hx, hb, hml, hown, hts⟩ (c_M_takeFound l dC dI cI cL _ hN_X hN_Xblocks q337 hc) (cw_M_154 hts ⟨Nat.le_of_ble_eq_true rfl, Nat.le_of_ble_eq_true rfl⟩) ⟨zbM, va_recv hK hP (ci := 7) rfl hN_X, (zpM hP hK hZ hD)⟩ rfl rfl hl.1 rfl (lv_room (Nat.le_of_ble_eq_true rfl)) d_M_read_308 ⟨Nat.zero_le _, Nat.zero_le _⟩) hS (fun q _ h => hFc q h) hFc (fun ws t H locs ht hvm hu hB hz1 hk1 hS => ?_)
              obtain ⟨hN_X, hN_Xblocks, hfr⟩ := hu
              obtain ⟨hP, -, hD1⟩ := hB
              rw [ht] at hP
              have hD := hD1.weaken (fun _ _ _ h => hFc _ h)
              have hN_X : ws[21]? = some (aX, .inr (7, [.int (0 : Int32), .int X_side, .ref aXpicture, .ref aXhalf, .int q337.1, .ref aXblocks, .int q317.1, .int X_encodedBits, .ref aXencoded, .int (0 : Int32), .ref aXfed, .int q317.2.1, .int q317.2.2.1, .int X_tried, .int q317.2.2.2.1, .ref aXpile, .int X_decoded, .ref aXnews, .ref aXolds, .ref aXhalves, .ref aXds, .ref aXrs, .ref aXbest, .long X_bestError])) := hN_X
              have hN_Xblocks : ws[24]? = some (aXblocks, .inl (cI, Xblocks_n, .inl q337.2)) := hN_Xblocks
              have hN_Xfed := (hfr _ (by decide)).trans hN_Xfed
              have hN_Xpile := (hfr _ (by decide)).trans hN_Xpile
              have hN_Xbest := (hfr _ (by decide)).trans hN_Xbest
              have hw := z_frC (by decide) hw hfr
              refine lv_aload_n hx hb d_M_read_311 rfl (lv_at hl 0 rfl) ?_
              refine gf_M_123 (v := .int q337.1) hx hb hts hown hK hP hN_X rfl d_M_read_312 ?_
              obtain rfl := Option.some.inj hf
              exact W.iret hx hb hr (fun t ht hW => ⟨⟨_, ws, rfl, ⟨rfl, hN_X, hN_Xblocks, hN_Xpile, hN_Xbest, hw⟩, by rw [ht]; exact hP, va_K.moved hW.alike hK, hD⟩, hS.F ht⟩) hS.2.2 d_M_read_315
            · have hf := z_f hc hf
              refine lv_iconst (v := (-1)) hx hb d_M_read_300 (by decide) ?_
              refine lv_aload_n hx hb d_M_read_301 rfl (lv_at hl 0 rfl) ?_
              refine gf_M_166 (v := .int q317.2.2.1) hx hb hts hown hK hP hN_X rfl d_M_read_302 ?_
              refine lv_isub hx hb d_M_read_305 ?_
              obtain rfl := Option.some.inj hf
              exact W.iret hx hb hr (fun t ht hW => ⟨⟨_, ws, rfl, ⟨rfl, hN_X, hN_Xblocks, hN_Xpile, hN_Xbest, hw⟩, by rw [ht]; exact hP, va_K.moved hW.alike hK, hD⟩, hS.F ht⟩) hS.2.2 d_M_read_306
          · have hf := z_f hc hf
            refine lv_iconst (v := 4) hx hb d_M_read_277 (by decide) ?_
            refine lv_goto (tgt := 285) hx hb d_M_read_278 (by decide) ?_
            refine pf_M_166 (v := .int (4 : Int32)) hx hb hts hown hK hP hD hS hN_X rfl rfl (Nat.le_of_ble_eq_true rfl) d_M_read_285 (fun ws H locs hP hD hS hN_X hfr => ?_)
            have hN_X : ws[21]? = some (aX, .inr (7, [.int (0 : Int32), .int X_side, .ref aXpicture, .ref aXhalf, .int X_many, .ref aXblocks, .int q317.1, .int X_encodedBits, .ref aXencoded, .int X_fedMany, .ref aXfed, .int q317.2.1, .int (4 : Int32), .int X_tried, .int q317.2.2.2.1, .ref aXpile, .int X_decoded, .ref aXnews, .ref aXolds, .ref aXhalves, .ref aXds, .ref aXrs, .ref aXbest, .long X_bestError])) := hN_X
            have hN_Xblocks := (hfr _ (by decide)).trans hN_Xblocks
            have hN_Xfed := (hfr _ (by decide)).trans hN_Xfed
            have hN_Xpile := (hfr _ (by decide)).trans hN_Xpile
            have hN_Xbest := (hfr _ (by decide)).trans hN_Xbest
            have hw := z_fr (by decide) hw hfr
            refine lv_aload_n hx hb d_M_read_288 rfl (lv_at hl 0 rfl) ?_
            refine lv_iconst (v := 0) hx hb d_M_read_289 (by decide) ?_
            refine pf_M_163 (v := .int (0 : Int32)) hx hb hts hown hK hP hD hS hN_X rfl rfl (Nat.le_of_ble_eq_true rfl) d_M_read_290 (fun ws H locs hP hD hS hN_X hfr => ?_)
            have hN_X : ws[21]? = some (aX, .inr (7, [.int (0 : Int32), .int X_side, .ref aXpicture, .ref aXhalf, .int X_many, .ref aXblocks, .int q317.1, .int X_encodedBits, .ref aXencoded, .int (0 : Int32), .ref aXfed, .int q317.2.1, .int (4 : Int32), .int X_tried, .int q317.2.2.2.1, .ref aXpile, .int X_decoded, .ref aXnews, .ref aXolds, .ref aXhalves, .ref aXds, .ref aXrs, .ref aXbest, .long X_bestError])) := hN_X
            have hN_Xblocks := (hfr _ (by decide)).trans hN_Xblocks
            have hN_Xfed := (hfr _ (by decide)).trans hN_Xfed
            have hN_Xpile := (hfr _ (by decide)).trans hN_Xpile
            have hN_Xbest := (hfr _ (by decide)).trans hN_Xbest
            have hw := z_fr (by decide) hw hfr
            refine lv_aload_n hx hb d_M_read_293 rfl (lv_at hl 0 rfl) ?_
            refine gf_M_166 (v := .int (4 : Int32)) hx hb hts hown hK hP hN_X rfl d_M_read_294 ?_
            refine lv_if_lt (tgt := 307) hx hb d_M_read_297 (by decide) (fun hc => ?_) (fun hc => ?_)
            · have hf := z_t hc hf
              refine lv_aload_n hx hb d_M_read_307 rfl (lv_at hl 0 rfl) ?_
              obtain ⟨q338, hc, hf⟩ := z_b hf
              have hFc := z_free hD hS hA
              refine va_callv (va_runV (As := []) (rest := []) ⟨hx, hb, hml, hown, hts⟩ (c_M_takeFound l dC dI cI cL _ hN_X hN_Xblocks q338 hc) (cw_M_154 hts ⟨Nat.le_of_ble_eq_true rfl, Nat.le_of_ble_eq_true rfl⟩) ⟨zbM, va_recv hK hP (ci := 7) rfl hN_X, (zpM hP hK hZ hD)⟩ rfl rfl hl.1 rfl (lv_room (Nat.le_of_ble_eq_true rfl)) d_M_read_308 ⟨Nat.zero_le _, Nat.zero_le _⟩) hS (fun q _ h => hFc q h) hFc (fun ws t H locs ht hvm hu hB hz1 hk1 hS => ?_)
              obtain ⟨hN_X, hN_Xblocks, hfr⟩ := hu
              obtain ⟨hP, -, hD1⟩ := hB
              rw [ht] at hP
              have hD := hD1.weaken (fun _ _ _ h => hFc _ h)
              have hN_X : ws[21]? = some (aX, .inr (7, [.int (0 : Int32), .int X_side, .ref aXpicture, .ref aXhalf, .int q338.1, .ref aXblocks, .int q317.1, .int X_encodedBits, .ref aXencoded, .int (0 : Int32), .ref aXfed, .int q317.2.1, .int (4 : Int32), .int X_tried, .int q317.2.2.2.1, .ref aXpile, .int X_decoded, .ref aXnews, .ref aXolds, .ref aXhalves, .ref aXds, .ref aXrs, .ref aXbest, .long X_bestError])) := hN_X
              have hN_Xblocks : ws[24]? = some (aXblocks, .inl (cI, Xblocks_n, .inl q338.2)) := hN_Xblocks
              have hN_Xfed := (hfr _ (by decide)).trans hN_Xfed
              have hN_Xpile := (hfr _ (by decide)).trans hN_Xpile
              have hN_Xbest := (hfr _ (by decide)).trans hN_Xbest
              have hw := z_frC (by decide) hw hfr
              refine lv_aload_n hx hb d_M_read_311 rfl (lv_at hl 0 rfl) ?_
              refine gf_M_123 (v := .int q338.1) hx hb hts hown hK hP hN_X rfl d_M_read_312 ?_
              obtain rfl := Option.some.inj hf
              exact W.iret hx hb hr (fun t ht hW => ⟨⟨_, ws, rfl, ⟨rfl, hN_X, hN_Xblocks, hN_Xpile, hN_Xbest, hw⟩, by rw [ht]; exact hP, va_K.moved hW.alike hK, hD⟩, hS.F ht⟩) hS.2.2 d_M_read_315
            · have hf := z_f hc hf
              refine lv_iconst (v := (-1)) hx hb d_M_read_300 (by decide) ?_
              refine lv_aload_n hx hb d_M_read_301 rfl (lv_at hl 0 rfl) ?_
              refine gf_M_166 (v := .int (4 : Int32)) hx hb hts hown hK hP hN_X rfl d_M_read_302 ?_
              refine lv_isub hx hb d_M_read_305 ?_
              obtain rfl := Option.some.inj hf
              exact W.iret hx hb hr (fun t ht hW => ⟨⟨_, ws, rfl, ⟨rfl, hN_X, hN_Xblocks, hN_Xpile, hN_Xbest, hw⟩, by rw [ht]; exact hP, va_K.moved hW.alike hK, hD⟩, hS.F ht⟩) hS.2.2 d_M_read_306
      · have hf := z_f hc hf
        refine lv_iconst (v := 1) hx hb d_M_read_208 (by decide) ?_
        refine lv_goto (tgt := 213) hx hb d_M_read_209 (by decide) ?_
        refine lv_istore_n (lv' := [(3, .int (1 : Int32)), (0, .ref aX), (1, .int q275.1), (2, .int ((1 : Int32) <<< (q275.1 &&& 31)))]) hx hb d_M_read_213 rfl hl (by decide) rfl (fun ls hl => ?_)
        refine lv_aload_n hx hb d_M_read_214 rfl (lv_at hl 1 rfl) ?_
        refine gf_M_169 (v := .int q317.2.1) hx hb hts hown hK hP hN_X rfl d_M_read_215 ?_
        refine lv_istore (lv' := [(4, .int q317.2.1), (3, .int (1 : Int32)), (0, .ref aX), (1, .int q275.1), (2, .int ((1 : Int32) <<< (q275.1 &&& 31)))]) hx hb d_M_read_218 hl (by decide) rfl (fun ls hl => ?_)
        have lp342 : ∀ (Qx : State → Prop) (n : Nat) (v3_340 : Int32) (v4_341 : Int32) (ls : Array Slot) (q : Int32 × Int32) (hf : f_M_read_220 q275.1 ((1 : Int32) <<< (q275.1 &&& 31)) X_fedMany q317.2.2.1 Xfed_n Xfed_f n v3_340 v4_341 = some q) (hl : lv_has ls 6 [(0, .ref aX), (1, .int q275.1), (2, .int ((1 : Int32) <<< (q275.1 &&& 31))), (3, .int v3_340), (4, .int v4_341)]) (kt0 : ∀ (ls : Array Slot), lv_has ls 6 [(0, .ref aX), (1, .int q275.1), (2, .int ((1 : Int32) <<< (q275.1 &&& 31))), (3, .int q.1), (4, .int q.2)] → W p l e (headSpec w_M_read rm_M_read).room s m ([.ref aX] : List Value).toArray below meth c H locs 0 0 Qx (F0 m 265 ls [])), W p l e (headSpec w_M_read rm_M_read).room s m ([.ref aX] : List Value).toArray below meth c H locs 0 0 Qx (F0 m 220 ls []) := by
          intro Qx n
          induction n with
          | zero => intro v3_340 v4_341 ls q hf; cases hf
          | succ n ih =>
            intro v3_340 v4_341 ls q hf hl kt0
            rw [f_M_read_220] at hf
            refine lv_iload hx hb d_M_read_220 (lv_at hl 4 rfl) ?_
            refine lv_bipush (v := 8) hx hb d_M_read_222 (by decide) ?_
            refine lv_aload_n hx hb d_M_read_224 rfl (lv_at hl 0 rfl) ?_
            refine gf_M_163 (v := .int X_fedMany) hx hb hts hown hK hP hN_X rfl d_M_read_225 ?_
            refine lv_imul hx hb d_M_read_228 ?_
            refine lv_icmp_ge (tgt := 265) hx hb d_M_read_229 (by decide) (fun hc => ?_) (fun hc => ?_)
            · have hf := z_t hc hf
              obtain rfl := Option.some.inj hf
              exact kt0 ls (lv_sub hl [0, 1, 2, 3, 4] rfl)
            · have hf := z_f hc hf
              refine lv_aload_n hx hb d_M_read_232 rfl (lv_at hl 0 rfl) ?_
              refine gf_M_166 (v := .int q317.2.2.1) hx hb hts hown hK hP hN_X rfl d_M_read_233 ?_
              refine lv_if_ge (tgt := 265) hx hb d_M_read_236 (by decide) (fun hc => ?_) (fun hc => ?_)
              · have hf := z_t hc hf
                obtain rfl := Option.some.inj hf
                exact kt0 ls (lv_sub hl [0, 1, 2, 3, 4] rfl)
              · have hf := z_f hc hf
                refine lv_iload_n hx hb d_M_read_239 rfl (lv_at hl 3 rfl) ?_
                refine lv_if_ne (tgt := 253) hx hb d_M_read_240 (by decide) (fun hc => ?_) (fun hc => ?_)
                · have hf := z_f hc hf
                  refine lv_iconst (v := 1) hx hb d_M_read_253 (by decide) ?_
                  refine lv_goto (tgt := 258) hx hb d_M_read_254 (by decide) ?_
                  refine lv_istore_n (lv' := [(3, .int (1 : Int32)), (0, .ref aX), (1, .int q275.1), (2, .int ((1 : Int32) <<< (q275.1 &&& 31))), (4, .int v4_341)]) hx hb d_M_read_258 rfl hl (by decide) rfl (fun ls hl => ?_)
                  refine lv_iinc (v := (v4_341 + 1)) (lv' := [(4, .int (v4_341 + 1)), (3, .int (1 : Int32)), (0, .ref aX), (1, .int q275.1), (2, .int ((1 : Int32) <<< (q275.1 &&& 31)))]) hx hb d_M_read_259 hl (k := 4) rfl rfl (by decide) rfl (fun ls hl => ?_)
                  refine lv_goto (tgt := 220) hx hb d_M_read_262 (by decide) ?_
                  exact ih (1 : Int32) (v4_341 + 1) ls _ hf (lv_sub hl [2, 3, 4, 1, 0] rfl) kt0
                · have hf := z_t hc hf
                  refine lv_aload_n hx hb d_M_read_243 rfl (lv_at hl 0 rfl) ?_
                  refine lv_iload hx hb d_M_read_244 (lv_at hl 4 rfl) ?_
                  obtain ⟨q343, hc, hf⟩ := z_b hf
                  refine vp_callSi (z_cr (va_runV (As := [.int v4_341]) (rest := []) ⟨hx, hb, hml, hown, hts⟩ (c_M_bitAt l dC dI cI cL v4_341 hN_X hN_Xfed q343 hc) (cw_M_172 hts ⟨Nat.le_of_ble_eq_true rfl, Nat.le_of_ble_eq_true rfl⟩) ⟨zbR, va_recv hK hP (ci := 7) rfl hN_X, (zpR hP hK hZ)⟩ rfl rfl hl.1 rfl (lv_room (Nat.le_of_ble_eq_true rfl)) d_M_read_246 ⟨Nat.zero_le _, Nat.zero_le _⟩)) (fun r344 hv => ?_)
                  have hv := hv.symm
                  subst hv
                  refine lv_iconst (v := 1) hx hb d_M_read_249 (by decide) ?_
                  refine lv_icmp_ne (tgt := 257) hx hb d_M_read_250 (by decide) (fun hc => ?_) (fun hc => ?_)
                  · have hf := z_f hc hf
                    refine lv_iconst (v := 0) hx hb d_M_read_257 (by decide) ?_
                    refine lv_istore_n (lv' := [(3, .int (0 : Int32)), (0, .ref aX), (1, .int q275.1), (2, .int ((1 : Int32) <<< (q275.1 &&& 31))), (4, .int v4_341)]) hx hb d_M_read_258 rfl hl (by decide) rfl (fun ls hl => ?_)
                    refine lv_iinc (v := (v4_341 + 1)) (lv' := [(4, .int (v4_341 + 1)), (3, .int (0 : Int32)), (0, .ref aX), (1, .int q275.1), (2, .int ((1 : Int32) <<< (q275.1 &&& 31)))]) hx hb d_M_read_259 hl (k := 4) rfl rfl (by decide) rfl (fun ls hl => ?_)
                    refine lv_goto (tgt := 220) hx hb d_M_read_262 (by decide) ?_
                    exact ih (0 : Int32) (v4_341 + 1) ls _ hf (lv_sub hl [2, 3, 4, 1, 0] rfl) kt0
                  · have hf := z_t hc hf
                    refine lv_iconst (v := 1) hx hb d_M_read_253 (by decide) ?_
                    refine lv_goto (tgt := 258) hx hb d_M_read_254 (by decide) ?_
                    refine lv_istore_n (lv' := [(3, .int (1 : Int32)), (0, .ref aX), (1, .int q275.1), (2, .int ((1 : Int32) <<< (q275.1 &&& 31))), (4, .int v4_341)]) hx hb d_M_read_258 rfl hl (by decide) rfl (fun ls hl => ?_)
                    refine lv_iinc (v := (v4_341 + 1)) (lv' := [(4, .int (v4_341 + 1)), (3, .int (1 : Int32)), (0, .ref aX), (1, .int q275.1), (2, .int ((1 : Int32) <<< (q275.1 &&& 31)))]) hx hb d_M_read_259 hl (k := 4) rfl rfl (by decide) rfl (fun ls hl => ?_)
                    refine lv_goto (tgt := 220) hx hb d_M_read_262 (by decide) ?_
                    exact ih (1 : Int32) (v4_341 + 1) ls _ hf (lv_sub hl [2, 3, 4, 1, 0] rfl) kt0
        obtain ⟨q339, hc, hf⟩ := z_b hf
        refine lp342 _ FU (1 : Int32) q317.2.1 ls q339 hc (lv_sub hl [2, 3, 4, 1, 0] rfl) (fun ls hl => ?_)
        refine lv_aload_n hx hb d_M_read_265 rfl (lv_at hl 0 rfl) ?_
        refine lv_aload_n hx hb d_M_read_266 rfl (lv_at hl 0 rfl) ?_
        refine gf_M_166 (v := .int q317.2.2.1) hx hb hts hown hK hP hN_X rfl d_M_read_267 ?_
        refine lv_if_ge (tgt := 281) hx hb d_M_read_270 (by decide) (fun hc => ?_) (fun hc => ?_)
        · have hf := z_t hc hf
          refine lv_aload_n hx hb d_M_read_281 rfl (lv_at hl 0 rfl) ?_
          refine gf_M_166 (v := .int q317.2.2.1) hx hb hts hown hK hP hN_X rfl d_M_read_282 ?_
          refine pf_M_166 (v := .int q317.2.2.1) hx hb hts hown hK hP hD hS hN_X rfl rfl (Nat.le_of_ble_eq_true rfl) d_M_read_285 (fun ws H locs hP hD hS hN_X hfr => ?_)
          have hN_X : ws[21]? = some (aX, .inr (7, [.int (0 : Int32), .int X_side, .ref aXpicture, .ref aXhalf, .int X_many, .ref aXblocks, .int q317.1, .int X_encodedBits, .ref aXencoded, .int X_fedMany, .ref aXfed, .int q317.2.1, .int q317.2.2.1, .int X_tried, .int q317.2.2.2.1, .ref aXpile, .int X_decoded, .ref aXnews, .ref aXolds, .ref aXhalves, .ref aXds, .ref aXrs, .ref aXbest, .long X_bestError])) := hN_X
          have hN_Xblocks := (hfr _ (by decide)).trans hN_Xblocks
          have hN_Xfed := (hfr _ (by decide)).trans hN_Xfed
          have hN_Xpile := (hfr _ (by decide)).trans hN_Xpile
          have hN_Xbest := (hfr _ (by decide)).trans hN_Xbest
          have hw := z_fr (by decide) hw hfr
          refine lv_aload_n hx hb d_M_read_288 rfl (lv_at hl 0 rfl) ?_
          refine lv_iconst (v := 0) hx hb d_M_read_289 (by decide) ?_
          refine pf_M_163 (v := .int (0 : Int32)) hx hb hts hown hK hP hD hS hN_X rfl rfl (Nat.le_of_ble_eq_true rfl) d_M_read_290 (fun ws H locs hP hD hS hN_X hfr => ?_)
          have hN_X : ws[21]? = some (aX, .inr (7, [.int (0 : Int32), .int X_side, .ref aXpicture, .ref aXhalf, .int X_many, .ref aXblocks, .int q317.1, .int X_encodedBits, .ref aXencoded, .int (0 : Int32), .ref aXfed, .int q317.2.1, .int q317.2.2.1, .int X_tried, .int q317.2.2.2.1, .ref aXpile, .int X_decoded, .ref aXnews, .ref aXolds, .ref aXhalves, .ref aXds, .ref aXrs, .ref aXbest, .long X_bestError])) := hN_X
          have hN_Xblocks := (hfr _ (by decide)).trans hN_Xblocks
          have hN_Xfed := (hfr _ (by decide)).trans hN_Xfed
          have hN_Xpile := (hfr _ (by decide)).trans hN_Xpile
          have hN_Xbest := (hfr _ (by decide)).trans hN_Xbest
          have hw := z_fr (by decide) hw hfr
          refine lv_aload_n hx hb d_M_read_293 rfl (lv_at hl 0 rfl) ?_
          refine gf_M_166 (v := .int q317.2.2.1) hx hb hts hown hK hP hN_X rfl d_M_read_294 ?_
          refine lv_if_lt (tgt := 307) hx hb d_M_read_297 (by decide) (fun hc => ?_) (fun hc => ?_)
          · have hf := z_t hc hf
            refine lv_aload_n hx hb d_M_read_307 rfl (lv_at hl 0 rfl) ?_
            obtain ⟨q345, hc, hf⟩ := z_b hf
            have hFc := z_free hD hS hA
            refine va_callv (va_runV (As := []) (rest := []) ⟨hx, hb, hml, hown, hts⟩ (c_M_takeFound l dC dI cI cL _ hN_X hN_Xblocks q345 hc) (cw_M_154 hts ⟨Nat.le_of_ble_eq_true rfl, Nat.le_of_ble_eq_true rfl⟩) ⟨zbM, va_recv hK hP (ci := 7) rfl hN_X, (zpM hP hK hZ hD)⟩ rfl rfl hl.1 rfl (lv_room (Nat.le_of_ble_eq_true rfl)) d_M_read_308 ⟨Nat.zero_le _, Nat.zero_le _⟩) hS (fun q _ h => hFc q h) hFc (fun ws t H locs ht hvm hu hB hz1 hk1 hS => ?_)
            obtain ⟨hN_X, hN_Xblocks, hfr⟩ := hu
            obtain ⟨hP, -, hD1⟩ := hB
            rw [ht] at hP
            have hD := hD1.weaken (fun _ _ _ h => hFc _ h)
            have hN_X : ws[21]? = some (aX, .inr (7, [.int (0 : Int32), .int X_side, .ref aXpicture, .ref aXhalf, .int q345.1, .ref aXblocks, .int q317.1, .int X_encodedBits, .ref aXencoded, .int (0 : Int32), .ref aXfed, .int q317.2.1, .int q317.2.2.1, .int X_tried, .int q317.2.2.2.1, .ref aXpile, .int X_decoded, .ref aXnews, .ref aXolds, .ref aXhalves, .ref aXds, .ref aXrs, .ref aXbest, .long X_bestError])) := hN_X
            have hN_Xblocks : ws[24]? = some (aXblocks, .inl (cI, Xblocks_n, .inl q345.2)) := hN_Xblocks
            have hN_Xfed := (hfr _ (by decide)).trans hN_Xfed
            have hN_Xpile := (hfr _ (by decide)).trans hN_Xpile
            have hN_Xbest := (hfr _ (by decide)).trans hN_Xbest
            have hw := z_frC (by decide) hw hfr
            refine lv_aload_n hx hb d_M_read_311 rfl (lv_at hl 0 rfl) ?_
            refine gf_M_123 (v := .int q345.1) hx hb hts hown hK hP hN_X rfl d_M_read_312 ?_
            obtain rfl := Option.some.inj hf
            exact W.iret hx hb hr (fun t ht hW => ⟨⟨_, ws, rfl, ⟨rfl, hN_X, hN_Xblocks, hN_Xpile, hN_Xbest, hw⟩, by rw [ht]; exact hP, va_K.moved hW.alike hK, hD⟩, hS.F ht⟩) hS.2.2 d_M_read_315
          · have hf := z_f hc hf
            refine lv_iconst (v := (-1)) hx hb d_M_read_300 (by decide) ?_
            refine lv_aload_n hx hb d_M_read_301 rfl (lv_at hl 0 rfl) ?_
            refine gf_M_166 (v := .int q317.2.2.1) hx hb hts hown hK hP hN_X rfl d_M_read_302 ?_
            refine lv_isub hx hb d_M_read_305 ?_
            obtain rfl := Option.some.inj hf
            exact W.iret hx hb hr (fun t ht hW => ⟨⟨_, ws, rfl, ⟨rfl, hN_X, hN_Xblocks, hN_Xpile, hN_Xbest, hw⟩, by rw [ht]; exact hP, va_K.moved hW.alike hK, hD⟩, hS.F ht⟩) hS.2.2 d_M_read_306
        · have hf := z_f hc hf
          refine lv_iload_n hx hb d_M_read_273 rfl (lv_at hl 3 rfl) ?_
          refine lv_if_eq (tgt := 281) hx hb d_M_read_274 (by decide) (fun hc => ?_) (fun hc => ?_)
          · have hf := z_t hc hf
            refine lv_aload_n hx hb d_M_read_281 rfl (lv_at hl 0 rfl) ?_
            refine gf_M_166 (v := .int q317.2.2.1) hx hb hts hown hK hP hN_X rfl d_M_read_282 ?_
            refine pf_M_166 (v := .int q317.2.2.1) hx hb hts hown hK hP hD hS hN_X rfl rfl (Nat.le_of_ble_eq_true rfl) d_M_read_285 (fun ws H locs hP hD hS hN_X hfr => ?_)
            have hN_X : ws[21]? = some (aX, .inr (7, [.int (0 : Int32), .int X_side, .ref aXpicture, .ref aXhalf, .int X_many, .ref aXblocks, .int q317.1, .int X_encodedBits, .ref aXencoded, .int X_fedMany, .ref aXfed, .int q317.2.1, .int q317.2.2.1, .int X_tried, .int q317.2.2.2.1, .ref aXpile, .int X_decoded, .ref aXnews, .ref aXolds, .ref aXhalves, .ref aXds, .ref aXrs, .ref aXbest, .long X_bestError])) := hN_X
            have hN_Xblocks := (hfr _ (by decide)).trans hN_Xblocks
            have hN_Xfed := (hfr _ (by decide)).trans hN_Xfed
            have hN_Xpile := (hfr _ (by decide)).trans hN_Xpile
            have hN_Xbest := (hfr _ (by decide)).trans hN_Xbest
            have hw := z_fr (by decide) hw hfr
            refine lv_aload_n hx hb d_M_read_288 rfl (lv_at hl 0 rfl) ?_
            refine lv_iconst (v := 0) hx hb d_M_read_289 (by decide) ?_
            refine pf_M_163 (v := .int (0 : Int32)) hx hb hts hown hK hP hD hS hN_X rfl rfl (Nat.le_of_ble_eq_true rfl) d_M_read_290 (fun ws H locs hP hD hS hN_X hfr => ?_)
            have hN_X : ws[21]? = some (aX, .inr (7, [.int (0 : Int32), .int X_side, .ref aXpicture, .ref aXhalf, .int X_many, .ref aXblocks, .int q317.1, .int X_encodedBits, .ref aXencoded, .int (0 : Int32), .ref aXfed, .int q317.2.1, .int q317.2.2.1, .int X_tried, .int q317.2.2.2.1, .ref aXpile, .int X_decoded, .ref aXnews, .ref aXolds, .ref aXhalves, .ref aXds, .ref aXrs, .ref aXbest, .long X_bestError])) := hN_X
            have hN_Xblocks := (hfr _ (by decide)).trans hN_Xblocks
            have hN_Xfed := (hfr _ (by decide)).trans hN_Xfed
            have hN_Xpile := (hfr _ (by decide)).trans hN_Xpile
            have hN_Xbest := (hfr _ (by decide)).trans hN_Xbest
            have hw := z_fr (by decide) hw hfr
            refine lv_aload_n hx hb d_M_read_293 rfl (lv_at hl 0 rfl) ?_
            refine gf_M_166 (v := .int q317.2.2.1) hx hb hts hown hK hP hN_X rfl d_M_read_294 ?_
            refine lv_if_lt (tgt := 307) hx hb d_M_read_297 (by decide) (fun hc => ?_) (fun hc => ?_)
            · have hf := z_t hc hf
              refine lv_aload_n hx hb d_M_read_307 rfl (lv_at hl 0 rfl) ?_
              obtain ⟨q346, hc, hf⟩ := z_b hf
              have hFc := z_free hD hS hA
              refine va_callv (va_runV (As := []) (rest := []) ⟨hx, hb, hml, hown, hts⟩ (c_M_takeFound l dC dI cI cL _ hN_X hN_Xblocks q346 hc) (cw_M_154 hts ⟨Nat.le_of_ble_eq_true rfl, Nat.le_of_ble_eq_true rfl⟩) ⟨zbM, va_recv hK hP (ci := 7) rfl hN_X, (zpM hP hK hZ hD)⟩ rfl rfl hl.1 rfl (lv_room (Nat.le_of_ble_eq_true rfl)) d_M_read_308 ⟨Nat.zero_le _, Nat.zero_le _⟩) hS (fun q _ h => hFc q h) hFc (fun ws t H locs ht hvm hu hB hz1 hk1 hS => ?_)
              obtain ⟨hN_X, hN_Xblocks, hfr⟩ := hu
              obtain ⟨hP, -, hD1⟩ := hB
              rw [ht] at hP
              have hD := hD1.weaken (fun _ _ _ h => hFc _ h)
              have hN_X : ws[21]? = some (aX, .inr (7, [.int (0 : Int32), .int X_side, .ref aXpicture, .ref aXhalf, .int q346.1, .ref aXblocks, .int q317.1, .int X_encodedBits, .ref aXencoded, .int (0 : Int32), .ref aXfed, .int q317.2.1, .int q317.2.2.1, .int X_tried, .int q317.2.2.2.1, .ref aXpile, .int X_decoded, .ref aXnews, .ref aXolds, .ref aXhalves, .ref aXds, .ref aXrs, .ref aXbest, .long X_bestError])) := hN_X
              have hN_Xblocks : ws[24]? = some (aXblocks, .inl (cI, Xblocks_n, .inl q346.2)) := hN_Xblocks
              have hN_Xfed := (hfr _ (by decide)).trans hN_Xfed
              have hN_Xpile := (hfr _ (by decide)).trans hN_Xpile
              have hN_Xbest := (hfr _ (by decide)).trans hN_Xbest
              have hw := z_frC (by decide) hw hfr
              refine lv_aload_n hx hb d_M_read_311 rfl (lv_at hl 0 rfl) ?_
              refine gf_M_123 (v := .int q346.1) hx hb hts hown hK hP hN_X rfl d_M_read_312 ?_
              obtain rfl := Option.some.inj hf
              exact W.iret hx hb hr (fun t ht hW => ⟨⟨_, ws, rfl, ⟨rfl, hN_X, hN_Xblocks, hN_Xpile, hN_Xbest, hw⟩, by rw [ht]; exact hP, va_K.moved hW.alike hK, hD⟩, hS.F ht⟩) hS.2.2 d_M_read_315
            · have hf := z_f hc hf
              refine lv_iconst (v := (-1)) hx hb d_M_read_300 (by decide) ?_
              refine lv_aload_n hx hb d_M_read_301 rfl (lv_at hl 0 rfl) ?_
              refine gf_M_166 (v := .int q317.2.2.1) hx hb hts hown hK hP hN_X rfl d_M_read_302 ?_
              refine lv_isub hx hb d_M_read_305 ?_
              obtain rfl := Option.some.inj hf
              exact W.iret hx hb hr (fun t ht hW => ⟨⟨_, ws, rfl, ⟨rfl, hN_X, hN_Xblocks, hN_Xpile, hN_Xbest, hw⟩, by rw [ht]; exact hP, va_K.moved hW.alike hK, hD⟩, hS.F ht⟩) hS.2.2 d_M_read_306
          · have hf := z_f hc hf
            refine lv_iconst (v := 4) hx hb d_M_read_277 (by decide) ?_
            refine lv_goto (tgt := 285) hx hb d_M_read_278 (by decide) ?_
            refine pf_M_166 (v := .int (4 : Int32)) hx hb hts hown hK hP hD hS hN_X rfl rfl (Nat.le_of_ble_eq_true rfl) d_M_read_285 (fun ws H locs hP hD hS hN_X hfr => ?_)
            have hN_X : ws[21]? = some (aX, .inr (7, [.int (0 : Int32), .int X_side, .ref aXpicture, .ref aXhalf, .int X_many, .ref aXblocks, .int q317.1, .int X_encodedBits, .ref aXencoded, .int X_fedMany, .ref aXfed, .int q317.2.1, .int (4 : Int32), .int X_tried, .int q317.2.2.2.1, .ref aXpile, .int X_decoded, .ref aXnews, .ref aXolds, .ref aXhalves, .ref aXds, .ref aXrs, .ref aXbest, .long X_bestError])) := hN_X
            have hN_Xblocks := (hfr _ (by decide)).trans hN_Xblocks
            have hN_Xfed := (hfr _ (by decide)).trans hN_Xfed
            have hN_Xpile := (hfr _ (by decide)).trans hN_Xpile
            have hN_Xbest := (hfr _ (by decide)).trans hN_Xbest
            have hw := z_fr (by decide) hw hfr
            refine lv_aload_n hx hb d_M_read_288 rfl (lv_at hl 0 rfl) ?_
            refine lv_iconst (v := 0) hx hb d_M_read_289 (by decide) ?_
            refine pf_M_163 (v := .int (0 : Int32)) hx hb hts hown hK hP hD hS hN_X rfl rfl (Nat.le_of_ble_eq_true rfl) d_M_read_290 (fun ws H locs hP hD hS hN_X hfr => ?_)
            have hN_X : ws[21]? = some (aX, .inr (7, [.int (0 : Int32), .int X_side, .ref aXpicture, .ref aXhalf, .int X_many, .ref aXblocks, .int q317.1, .int X_encodedBits, .ref aXencoded, .int (0 : Int32), .ref aXfed, .int q317.2.1, .int (4 : Int32), .int X_tried, .int q317.2.2.2.1, .ref aXpile, .int X_decoded, .ref aXnews, .ref aXolds, .ref aXhalves, .ref aXds, .ref aXrs, .ref aXbest, .long X_bestError])) := hN_X
            have hN_Xblocks := (hfr _ (by decide)).trans hN_Xblocks
            have hN_Xfed := (hfr _ (by decide)).trans hN_Xfed
            have hN_Xpile := (hfr _ (by decide)).trans hN_Xpile
            have hN_Xbest := (hfr _ (by decide)).trans hN_Xbest
            have hw := z_fr (by decide) hw hfr
            refine lv_aload_n hx hb d_M_read_293 rfl (lv_at hl 0 rfl) ?_
            refine gf_M_166 (v := .int (4 : Int32)) hx hb hts hown hK hP hN_X rfl d_M_read_294 ?_
            refine lv_if_lt (tgt := 307) hx hb d_M_read_297 (by decide) (fun hc => ?_) (fun hc => ?_)
            · have hf := z_t hc hf
              refine lv_aload_n hx hb d_M_read_307 rfl (lv_at hl 0 rfl) ?_
              obtain ⟨q347, hc, hf⟩ := z_b hf
              have hFc := z_free hD hS hA
              refine va_callv (va_runV (As := []) (rest := []) ⟨hx, hb, hml, hown, hts⟩ (c_M_takeFound l dC dI cI cL _ hN_X hN_Xblocks q347 hc) (cw_M_154 hts ⟨Nat.le_of_ble_eq_true rfl, Nat.le_of_ble_eq_true rfl⟩) ⟨zbM, va_recv hK hP (ci := 7) rfl hN_X, (zpM hP hK hZ hD)⟩ rfl rfl hl.1 rfl (lv_room (Nat.le_of_ble_eq_true rfl)) d_M_read_308 ⟨Nat.zero_le _, Nat.zero_le _⟩) hS (fun q _ h => hFc q h) hFc (fun ws t H locs ht hvm hu hB hz1 hk1 hS => ?_)
              obtain ⟨hN_X, hN_Xblocks, hfr⟩ := hu
              obtain ⟨hP, -, hD1⟩ := hB
              rw [ht] at hP
              have hD := hD1.weaken (fun _ _ _ h => hFc _ h)
              have hN_X : ws[21]? = some (aX, .inr (7, [.int (0 : Int32), .int X_side, .ref aXpicture, .ref aXhalf, .int q347.1, .ref aXblocks, .int q317.1, .int X_encodedBits, .ref aXencoded, .int (0 : Int32), .ref aXfed, .int q317.2.1, .int (4 : Int32), .int X_tried, .int q317.2.2.2.1, .ref aXpile, .int X_decoded, .ref aXnews, .ref aXolds, .ref aXhalves, .ref aXds, .ref aXrs, .ref aXbest, .long X_bestError])) := hN_X
              have hN_Xblocks : ws[24]? = some (aXblocks, .inl (cI, Xblocks_n, .inl q347.2)) := hN_Xblocks
              have hN_Xfed := (hfr _ (by decide)).trans hN_Xfed
              have hN_Xpile := (hfr _ (by decide)).trans hN_Xpile
              have hN_Xbest := (hfr _ (by decide)).trans hN_Xbest
              have hw := z_frC (by decide) hw hfr
              refine lv_aload_n hx hb d_M_read_311 rfl (lv_at hl 0 rfl) ?_
              refine gf_M_123 (v := .int q347.1) hx hb hts hown hK hP hN_X rfl d_M_read_312 ?_
              obtain rfl := Option.some.inj hf
              exact W.iret hx hb hr (fun t ht hW => ⟨⟨_, ws, rfl, ⟨rfl, hN_X, hN_Xblocks, hN_Xpile, hN_Xbest, hw⟩, by rw [ht]; exact hP, va_K.moved hW.alike hK, hD⟩, hS.F ht⟩) hS.2.2 d_M_read_315
            · have hf := z_f hc hf
              refine lv_iconst (v := (-1)) hx hb d_M_read_300 (by decide) ?_
              refine lv_aload_n hx hb d_M_read_301 rfl (lv_at hl 0 rfl) ?_
              refine gf_M_166 (v := .int (4 : Int32)) hx hb hts hown hK hP hN_X rfl d_M_read_302 ?_
              refine lv_isub hx hb d_M_read_305 ?_
              obtain rfl := Option.some.inj hf
              exact W.iret hx hb hr (fun t ht hW => ⟨⟨_, ws, rfl, ⟨rfl, hN_X, hN_Xblocks, hN_Xpile, hN_Xbest, hw⟩, by rw [ht]; exact hP, va_K.moved hW.alike hK, hD⟩, hS.F ht⟩) hS.2.2 d_M_read_306
    · have hf := z_f hc hf
      refine lv_iconst (v := 2) hx hb d_M_read_55 (by decide) ?_
      refine lv_iload_n hx hb d_M_read_56 rfl (lv_at hl 0 rfl) ?_
      refine lv_imul hx hb d_M_read_57 ?_
      refine lv_aload_n hx hb d_M_read_58 rfl (lv_at hl 2 rfl) ?_
      refine gf_M_46 (v := .int X_side) hx hb hts hown hK hP hN_X rfl d_M_read_59 ?_
      refine lv_icmp_le (tgt := 69) hx hb d_M_read_62 (by decide) (fun hc => ?_) (fun hc => ?_)
      · have hf := z_t hc hf
        refine lv_aload_n hx hb d_M_read_69 rfl (lv_at hl 2 rfl) ?_
        refine gf_M_166 (v := .int q275.2.2) hx hb hts hown hK hP hN_X rfl d_M_read_70 ?_
        refine pf_M_166 (v := .int q275.2.2) hx hb hts hown hK hP hD hS hN_X rfl rfl (Nat.le_of_ble_eq_true rfl) d_M_read_73 (fun ws H locs hP hD hS hN_X hfr => ?_)
        have hN_X : ws[21]? = some (aX, .inr (7, [.int (0 : Int32), .int X_side, .ref aXpicture, .ref aXhalf, .int X_many, .ref aXblocks, .int (0 : Int32), .int X_encodedBits, .ref aXencoded, .int X_fedMany, .ref aXfed, .int q275.2.1, .int q275.2.2, .int X_tried, .int (0 : Int32), .ref aXpile, .int X_decoded, .ref aXnews, .ref aXolds, .ref aXhalves, .ref aXds, .ref aXrs, .ref aXbest, .long X_bestError])) := hN_X
        have hN_Xblocks := (hfr _ (by decide)).trans hN_Xblocks
        have hN_Xfed := (hfr _ (by decide)).trans hN_Xfed
        have hN_Xpile := (hfr _ (by decide)).trans hN_Xpile
        have hN_Xbest := (hfr _ (by decide)).trans hN_Xbest
        have hw := z_fr (by decide) hw hfr
        refine lv_aload_n hx hb d_M_read_76 rfl (lv_at hl 2 rfl) ?_
        refine lv_iconst (v := 0) hx hb d_M_read_77 (by decide) ?_
        refine lv_iconst (v := 0) hx hb d_M_read_78 (by decide) ?_
        refine lv_aload_n hx hb d_M_read_79 rfl (lv_at hl 2 rfl) ?_
        refine gf_M_46 (v := .int X_side) hx hb hts hown hK hP hN_X rfl d_M_read_80 ?_
        obtain ⟨q348, hc, hf⟩ := z_b hf
        have hFc := z_free hD hS hA
        refine va_callv (va_runV (As := [.int (0 : Int32), .int (0 : Int32), .int X_side]) (rest := []) ⟨hx, hb, hml, hown, hts⟩ (c_M_pileQuarters l dC dI cI cL _ (0 : Int32) (0 : Int32) X_side hN_X hN_Xpile q348 hc) (cw_M_141 hts ⟨Nat.le_of_ble_eq_true rfl, Nat.le_of_ble_eq_true rfl⟩) ⟨zbM, va_recv hK hP (ci := 7) rfl hN_X, (zpM hP hK hZ hD)⟩ rfl rfl hl.1 rfl (lv_room (Nat.le_of_ble_eq_true rfl)) d_M_read_83 ⟨Nat.zero_le _, Nat.zero_le _⟩) hS (fun q _ h => hFc q h) hFc (fun ws t H locs ht hvm hu hB hz1 hk1 hS => ?_)
        obtain ⟨hN_X, hN_Xpile, hfr⟩ := hu
        obtain ⟨hP, -, hD1⟩ := hB
        rw [ht] at hP
        have hD := hD1.weaken (fun _ _ _ h => hFc _ h)
        have hN_X : ws[21]? = some (aX, .inr (7, [.int (0 : Int32), .int X_side, .ref aXpicture, .ref aXhalf, .int X_many, .ref aXblocks, .int (0 : Int32), .int X_encodedBits, .ref aXencoded, .int X_fedMany, .ref aXfed, .int q275.2.1, .int q275.2.2, .int X_tried, .int q348.1, .ref aXpile, .int X_decoded, .ref aXnews, .ref aXolds, .ref aXhalves, .ref aXds, .ref aXrs, .ref aXbest, .long X_bestError])) := hN_X
        have hN_Xpile : ws[27]? = some (aXpile, .inl (cI, Xpile_n, .inl q348.2)) := hN_Xpile
        have hN_Xblocks := (hfr _ (by decide)).trans hN_Xblocks
        have hN_Xfed := (hfr _ (by decide)).trans hN_Xfed
        have hN_Xbest := (hfr _ (by decide)).trans hN_Xbest
        have hw := z_frC (by decide) hw hfr
        have lp357 : ∀ (Qx : State → Prop) (n : Nat) (X_found_350 : Int32) (X_readAt_351 : Int32) (X_why_352 : Int32) (X_waiting_353 : Int32) (Xblocks_f_354 : Nat → Int32) (Xpile_f_355 : Nat → Int32) (Xbest_f_356 : Nat → Int32) (ws : va_W) (H : Heap) (locs : List Loc) (ls : Array Slot) (q : Int32 × Int32 × Int32 × Int32 × (Nat → Int32) × (Nat → Int32) × (Nat → Int32)) (hf : f_M_read_86 q275.1 ((1 : Int32) <<< (q275.1 &&& 31)) X_side X_fedMany Xblocks_n Xfed_n Xfed_f Xpile_n Xbest_n n X_found_350 X_readAt_351 X_why_352 X_waiting_353 Xblocks_f_354 Xpile_f_355 Xbest_f_356 = some q) (hl : lv_has ls 6 [(0, .ref aX), (1, .int q275.1), (2, .int ((1 : Int32) <<< (q275.1 &&& 31)))]) (hP : va_P (dC, dI) classes ws H) (hD : va_D A ws) (hS : va_S A s.heap H locs) (hN_X : ws[21]? = some (aX, .inr (7, [.int (0 : Int32), .int X_side, .ref aXpicture, .ref aXhalf, .int X_many, .ref aXblocks, .int X_found_350, .int X_encodedBits, .ref aXencoded, .int X_fedMany, .ref aXfed, .int X_readAt_351, .int X_why_352, .int X_tried, .int X_waiting_353, .ref aXpile, .int X_decoded, .ref aXnews, .ref aXolds, .ref aXhalves, .ref aXds, .ref aXrs, .ref aXbest, .long X_bestError]))) (hN_Xblocks : ws[24]? = some (aXblocks, .inl (cI, Xblocks_n, .inl Xblocks_f_354))) (hN_Xfed : ws[26]? = some (aXfed, .inl (cI, Xfed_n, .inl Xfed_f))) (hN_Xpile : ws[27]? = some (aXpile, .inl (cI, Xpile_n, .inl Xpile_f_355))) (hN_Xbest : ws[33]? = some (aXbest, .inl (cI, Xbest_n, .inl Xbest_f_356))) (hw : ∀ j, j ∉ [21, 24, 27, 33] → ws[j]? = ws0[j]?) (kt0 : ∀ (ws : va_W) (H : Heap) (locs : List Loc) (ls : Array Slot), lv_has ls 6 [(0, .ref aX), (1, .int q275.1), (2, .int ((1 : Int32) <<< (q275.1 &&& 31)))] → (va_P (dC, dI) classes ws H) → (va_D A ws) → (va_S A s.heap H locs) → (ws[21]? = some (aX, .inr (7, [.int (0 : Int32), .int X_side, .ref aXpicture, .ref aXhalf, .int X_many, .ref aXblocks, .int q.1, .int X_encodedBits, .ref aXencoded, .int X_fedMany, .ref aXfed, .int q.2.1, .int q.2.2.1, .int X_tried, .int q.2.2.2.1, .ref aXpile, .int X_decoded, .ref aXnews, .ref aXolds, .ref aXhalves, .ref aXds, .ref aXrs, .ref aXbest, .long X_bestError]))) → (ws[24]? = some (aXblocks, .inl (cI, Xblocks_n, .inl q.2.2.2.2.1))) → (ws[26]? = some (aXfed, .inl (cI, Xfed_n, .inl Xfed_f))) → (ws[27]? = some (aXpile, .inl (cI, Xpile_n, .inl q.2.2.2.2.2.1))) → (ws[33]? = some (aXbest, .inl (cI, Xbest_n, .inl q.2.2.2.2.2.2))) → (∀ j, j ∉ [21, 24, 27, 33] → ws[j]? = ws0[j]?) → W p l e (headSpec w_M_read rm_M_read).room s m ([.ref aX] : List Value).toArray below meth c H locs 0 0 Qx (F0 m 191 ls [])), W p l e (headSpec w_M_read rm_M_read).room s m ([.ref aX] : List Value).toArray below meth c H locs 0 0 Qx (F0 m 86 ls []) := by
          intro Qx n
          induction n with
          | zero => intro X_found_350 X_readAt_351 X_why_352 X_waiting_353 Xblocks_f_354 Xpile_f_355 Xbest_f_356 ws H locs ls q hf; cases hf
          | succ n ih =>
            intro X_found_350 X_readAt_351 X_why_352 X_waiting_353 Xblocks_f_354 Xpile_f_355 Xbest_f_356 ws H locs ls q hf hl hP hD hS hN_X hN_Xblocks hN_Xfed hN_Xpile hN_Xbest hw kt0
            rw [f_M_read_86] at hf
            refine lv_aload_n hx hb d_M_read_86 rfl (lv_at hl 0 rfl) ?_
            refine gf_M_114 (v := .int X_waiting_353) hx hb hts hown hK hP hN_X rfl d_M_read_87 ?_
            refine lv_if_le (tgt := 191) hx hb d_M_read_90 (by decide) (fun hc => ?_) (fun hc => ?_)
            · have hf := z_t hc hf
              obtain rfl := Option.some.inj hf
              exact kt0 _ _ _ ls (lv_sub hl [0, 1, 2] rfl) hP hD hS hN_X hN_Xblocks hN_Xfed hN_Xpile hN_Xbest hw
            · have hf := z_f hc hf
              refine lv_aload_n hx hb d_M_read_93 rfl (lv_at hl 0 rfl) ?_
              refine gf_M_166 (v := .int X_why_352) hx hb hts hown hK hP hN_X rfl d_M_read_94 ?_
              refine lv_if_ge (tgt := 191) hx hb d_M_read_97 (by decide) (fun hc => ?_) (fun hc => ?_)
              · have hf := z_t hc hf
                obtain rfl := Option.some.inj hf
                exact kt0 _ _ _ ls (lv_sub hl [0, 1, 2] rfl) hP hD hS hN_X hN_Xblocks hN_Xfed hN_Xpile hN_Xbest hw
              · have hf := z_f hc hf
                refine lv_aload_n hx hb d_M_read_100 rfl (lv_at hl 0 rfl) ?_
                refine lv_dup hx hb d_M_read_101 rfl ?_
                refine gf_M_114 (v := .int X_waiting_353) hx hb hts hown hK hP hN_X rfl d_M_read_102 ?_
                refine lv_iconst (v := 1) hx hb d_M_read_105 (by decide) ?_
                refine lv_isub hx hb d_M_read_106 ?_
                refine pf_M_114 (v := .int (X_waiting_353 - (1 : Int32))) hx hb hts hown hK hP hD hS hN_X rfl rfl (Nat.le_of_ble_eq_true rfl) d_M_read_107 (fun ws H locs hP hD hS hN_X hfr => ?_)
                have hN_X : ws[21]? = some (aX, .inr (7, [.int (0 : Int32), .int X_side, .ref aXpicture, .ref aXhalf, .int X_many, .ref aXblocks, .int X_found_350, .int X_encodedBits, .ref aXencoded, .int X_fedMany, .ref aXfed, .int X_readAt_351, .int X_why_352, .int X_tried, .int (X_waiting_353 - (1 : Int32)), .ref aXpile, .int X_decoded, .ref aXnews, .ref aXolds, .ref aXhalves, .ref aXds, .ref aXrs, .ref aXbest, .long X_bestError])) := hN_X
                have hN_Xblocks := (hfr _ (by decide)).trans hN_Xblocks
                have hN_Xfed := (hfr _ (by decide)).trans hN_Xfed
                have hN_Xpile := (hfr _ (by decide)).trans hN_Xpile
                have hN_Xbest := (hfr _ (by decide)).trans hN_Xbest
                have hw := z_fr (by decide) hw hfr
                refine lv_aload_n hx hb d_M_read_110 rfl (lv_at hl 0 rfl) ?_
                refine gf_M_25 (v := .ref aXpile) hx hb hts hown hK hP hN_X rfl d_M_read_111 ?_
                refine lv_iconst (v := 3) hx hb d_M_read_114 (by decide) ?_
                refine lv_aload_n hx hb d_M_read_115 rfl (lv_at hl 0 rfl) ?_
                refine gf_M_114 (v := .int (X_waiting_353 - (1 : Int32))) hx hb hts hown hK hP hN_X rfl d_M_read_116 ?_
                refine lv_imul hx hb d_M_read_119 ?_
                obtain ⟨hin, hf⟩ := z_no hf
                refine va_iald hx hb hK hP _ 0 hN_Xpile rfl hin d_M_read_120 ?_
                refine lv_istore_n (lv' := [(3, .int (Xpile_f_355 ((3 : Int32) * (X_waiting_353 - (1 : Int32))).toNatClampNeg)), (0, .ref aX), (1, .int q275.1), (2, .int ((1 : Int32) <<< (q275.1 &&& 31)))]) hx hb d_M_read_121 rfl hl (by decide) rfl (fun ls hl => ?_)
                refine lv_aload_n hx hb d_M_read_122 rfl (lv_at hl 1 rfl) ?_
                refine gf_M_25 (v := .ref aXpile) hx hb hts hown hK hP hN_X rfl d_M_read_123 ?_
                refine lv_iconst (v := 3) hx hb d_M_read_126 (by decide) ?_
                refine lv_aload_n hx hb d_M_read_127 rfl (lv_at hl 1 rfl) ?_
                refine gf_M_114 (v := .int (X_waiting_353 - (1 : Int32))) hx hb hts hown hK hP hN_X rfl d_M_read_128 ?_
                refine lv_imul hx hb d_M_read_131 ?_
                refine lv_iconst (v := 1) hx hb d_M_read_132 (by decide) ?_
                refine lv_iadd hx hb d_M_read_133 ?_
                obtain ⟨hin, hf⟩ := z_no hf
                refine va_iald hx hb hK hP _ 0 hN_Xpile rfl hin d_M_read_134 ?_
                refine lv_istore (lv' := [(4, .int (Xpile_f_355 (((3 : Int32) * (X_waiting_353 - (1 : Int32))) + (1 : Int32)).toNatClampNeg)), (3, .int (Xpile_f_355 ((3 : Int32) * (X_waiting_353 - (1 : Int32))).toNatClampNeg)), (0, .ref aX), (1, .int q275.1), (2, .int ((1 : Int32) <<< (q275.1 &&& 31)))]) hx hb d_M_read_135 hl (by decide) rfl (fun ls hl => ?_)
                refine lv_aload_n hx hb d_M_read_137 rfl (lv_at hl 2 rfl) ?_
                refine gf_M_25 (v := .ref aXpile) hx hb hts hown hK hP hN_X rfl d_M_read_138 ?_
                refine lv_iconst (v := 3) hx hb d_M_read_141 (by decide) ?_
                refine lv_aload_n hx hb d_M_read_142 rfl (lv_at hl 2 rfl) ?_
                refine gf_M_114 (v := .int (X_waiting_353 - (1 : Int32))) hx hb hts hown hK hP hN_X rfl d_M_read_143 ?_
                refine lv_imul hx hb d_M_read_146 ?_
                refine lv_iconst (v := 2) hx hb d_M_read_147 (by decide) ?_
                refine lv_iadd hx hb d_M_read_148 ?_
                obtain ⟨hin, hf⟩ := z_no hf
                refine va_iald hx hb hK hP _ 0 hN_Xpile rfl hin d_M_read_149 ?_
                refine lv_istore (lv' := [(5, .int (Xpile_f_355 (((3 : Int32) * (X_waiting_353 - (1 : Int32))) + (2 : Int32)).toNatClampNeg)), (4, .int (Xpile_f_355 (((3 : Int32) * (X_waiting_353 - (1 : Int32))) + (1 : Int32)).toNatClampNeg)), (3, .int (Xpile_f_355 ((3 : Int32) * (X_waiting_353 - (1 : Int32))).toNatClampNeg)), (0, .ref aX), (1, .int q275.1), (2, .int ((1 : Int32) <<< (q275.1 &&& 31)))]) hx hb d_M_read_150 hl (by decide) rfl (fun ls hl => ?_)
                refine lv_iload hx hb d_M_read_152 (lv_at hl 0 rfl) ?_
                refine lv_iload_n hx hb d_M_read_154 rfl (lv_at hl 5 rfl) ?_
                refine lv_icmp_le (tgt := 179) hx hb d_M_read_155 (by decide) (fun hc => ?_) (fun hc => ?_)
                · have hf := z_t hc hf
                  refine lv_aload_n hx hb d_M_read_179 rfl (lv_at hl 3 rfl) ?_
                  refine lv_iload_n hx hb d_M_read_180 rfl (lv_at hl 2 rfl) ?_
                  refine lv_iload hx hb d_M_read_181 (lv_at hl 1 rfl) ?_
                  refine lv_iload hx hb d_M_read_183 (lv_at hl 0 rfl) ?_
                  obtain ⟨q358, hc, hf⟩ := z_b hf
                  have hFc := z_free hD hS hA
                  refine va_callv (va_runV (As := [.int (Xpile_f_355 ((3 : Int32) * (X_waiting_353 - (1 : Int32))).toNatClampNeg), .int (Xpile_f_355 (((3 : Int32) * (X_waiting_353 - (1 : Int32))) + (1 : Int32)).toNatClampNeg), .int (Xpile_f_355 (((3 : Int32) * (X_waiting_353 - (1 : Int32))) + (2 : Int32)).toNatClampNeg)]) (rest := []) ⟨hx, hb, hml, hown, hts⟩ (c_M_readBlock l dC dI cI cL _ (Xpile_f_355 ((3 : Int32) * (X_waiting_353 - (1 : Int32))).toNatClampNeg) (Xpile_f_355 (((3 : Int32) * (X_waiting_353 - (1 : Int32))) + (1 : Int32)).toNatClampNeg) (Xpile_f_355 (((3 : Int32) * (X_waiting_353 - (1 : Int32))) + (2 : Int32)).toNatClampNeg) hN_X hN_Xblocks hN_Xfed hN_Xbest q358 hc) (cw_M_180 hts ⟨Nat.le_of_ble_eq_true rfl, Nat.le_of_ble_eq_true rfl⟩) ⟨zbM, va_recv hK hP (ci := 7) rfl hN_X, (zpM hP hK hZ hD)⟩ rfl rfl hl.1 rfl (lv_room (Nat.le_of_ble_eq_true rfl)) d_M_read_185 ⟨Nat.zero_le _, Nat.zero_le _⟩) hS (fun q _ h => hFc q h) hFc (fun ws t H locs ht hvm hu hB hz1 hk1 hS => ?_)
                  obtain ⟨hN_X, hN_Xblocks, hN_Xbest, hfr⟩ := hu
                  obtain ⟨hP, -, hD1⟩ := hB
                  rw [ht] at hP
                  have hD := hD1.weaken (fun _ _ _ h => hFc _ h)
                  have hN_X : ws[21]? = some (aX, .inr (7, [.int (0 : Int32), .int X_side, .ref aXpicture, .ref aXhalf, .int X_many, .ref aXblocks, .int q358.1, .int X_encodedBits, .ref aXencoded, .int X_fedMany, .ref aXfed, .int q358.2.1, .int q358.2.2.1, .int X_tried, .int (X_waiting_353 - (1 : Int32)), .ref aXpile, .int X_decoded, .ref aXnews, .ref aXolds, .ref aXhalves, .ref aXds, .ref aXrs, .ref aXbest, .long X_bestError])) := hN_X
                  have hN_Xblocks : ws[24]? = some (aXblocks, .inl (cI, Xblocks_n, .inl q358.2.2.2.1)) := hN_Xblocks
                  have hN_Xbest : ws[33]? = some (aXbest, .inl (cI, Xbest_n, .inl q358.2.2.2.2)) := hN_Xbest
                  have hN_Xfed := (hfr _ (by decide)).trans hN_Xfed
                  have hN_Xpile := (hfr _ (by decide)).trans hN_Xpile
                  have hw := z_frC (by decide) hw hfr
                  refine lv_goto (tgt := 86) hx hb d_M_read_188 (by decide) ?_
                  exact ih q358.1 q358.2.1 q358.2.2.1 (X_waiting_353 - (1 : Int32)) q358.2.2.2.1 Xpile_f_355 q358.2.2.2.2 _ _ _ ls _ hf (lv_sub hl [3, 4, 5] rfl) hP hD hS hN_X hN_Xblocks hN_Xfed hN_Xpile hN_Xbest hw kt0
                · have hf := z_f hc hf
                  refine lv_aload_n hx hb d_M_read_158 rfl (lv_at hl 3 rfl) ?_
                  refine lv_iconst (v := 1) hx hb d_M_read_159 (by decide) ?_
                  obtain ⟨q359, hc, hf⟩ := z_b hf
                  have hFc := z_free hD hS hA
                  refine va_calli (va_runV (As := [.int (1 : Int32)]) (rest := []) ⟨hx, hb, hml, hown, hts⟩ (c_M_take l dC dI cI cL _ (1 : Int32) hN_X hN_Xfed q359 hc) (cw_M_175 hts ⟨Nat.le_of_ble_eq_true rfl, Nat.le_of_ble_eq_true rfl⟩) ⟨zbM, va_recv hK hP (ci := 7) rfl hN_X, (zpM hP hK hZ hD)⟩ rfl rfl hl.1 rfl (lv_room (Nat.le_of_ble_eq_true rfl)) d_M_read_160 ⟨Nat.zero_le _, Nat.zero_le _⟩) hS (fun q _ h => hFc q h) hFc (fun rv ws t H locs ht hvm hu hB hz1 hk1 hS => ?_)
                  obtain ⟨hv, hN_X, hfr⟩ := hu
                  subst hv
                  obtain ⟨hP, -, hD1⟩ := hB
                  rw [ht] at hP
                  have hD := hD1.weaken (fun _ _ _ h => hFc _ h)
                  have hN_X : ws[21]? = some (aX, .inr (7, [.int (0 : Int32), .int X_side, .ref aXpicture, .ref aXhalf, .int X_many, .ref aXblocks, .int X_found_350, .int X_encodedBits, .ref aXencoded, .int X_fedMany, .ref aXfed, .int q359.2.1, .int q359.2.2, .int X_tried, .int (X_waiting_353 - (1 : Int32)), .ref aXpile, .int X_decoded, .ref aXnews, .ref aXolds, .ref aXhalves, .ref aXds, .ref aXrs, .ref aXbest, .long X_bestError])) := hN_X
                  have hN_Xblocks := (hfr _ (by decide)).trans hN_Xblocks
                  have hN_Xfed := (hfr _ (by decide)).trans hN_Xfed
                  have hN_Xpile := (hfr _ (by decide)).trans hN_Xpile
                  have hN_Xbest := (hfr _ (by decide)).trans hN_Xbest
                  have hw := z_frC (by decide) hw hfr
                  refine lv_iconst (v := 1) hx hb d_M_read_163 (by decide) ?_
                  refine lv_icmp_ne (tgt := 179) hx hb d_M_read_164 (by decide) (fun hc => ?_) (fun hc => ?_)
                  · have hf := z_f hc hf
                    refine lv_aload_n hx hb d_M_read_179 rfl (lv_at hl 3 rfl) ?_
                    refine lv_iload_n hx hb d_M_read_180 rfl (lv_at hl 2 rfl) ?_
                    refine lv_iload hx hb d_M_read_181 (lv_at hl 1 rfl) ?_
                    refine lv_iload hx hb d_M_read_183 (lv_at hl 0 rfl) ?_
                    obtain ⟨q360, hc, hf⟩ := z_b hf
                    have hFc := z_free hD hS hA
                    refine va_callv (va_runV (As := [.int (Xpile_f_355 ((3 : Int32) * (X_waiting_353 - (1 : Int32))).toNatClampNeg), .int (Xpile_f_355 (((3 : Int32) * (X_waiting_353 - (1 : Int32))) + (1 : Int32)).toNatClampNeg), .int (Xpile_f_355 (((3 : Int32) * (X_waiting_353 - (1 : Int32))) + (2 : Int32)).toNatClampNeg)]) (rest := []) ⟨hx, hb, hml, hown, hts⟩ (c_M_readBlock l dC dI cI cL _ (Xpile_f_355 ((3 : Int32) * (X_waiting_353 - (1 : Int32))).toNatClampNeg) (Xpile_f_355 (((3 : Int32) * (X_waiting_353 - (1 : Int32))) + (1 : Int32)).toNatClampNeg) (Xpile_f_355 (((3 : Int32) * (X_waiting_353 - (1 : Int32))) + (2 : Int32)).toNatClampNeg) hN_X hN_Xblocks hN_Xfed hN_Xbest q360 hc) (cw_M_180 hts ⟨Nat.le_of_ble_eq_true rfl, Nat.le_of_ble_eq_true rfl⟩) ⟨zbM, va_recv hK hP (ci := 7) rfl hN_X, (zpM hP hK hZ hD)⟩ rfl rfl hl.1 rfl (lv_room (Nat.le_of_ble_eq_true rfl)) d_M_read_185 ⟨Nat.zero_le _, Nat.zero_le _⟩) hS (fun q _ h => hFc q h) hFc (fun ws t H locs ht hvm hu hB hz1 hk1 hS => ?_)
                    obtain ⟨hN_X, hN_Xblocks, hN_Xbest, hfr⟩ := hu
                    obtain ⟨hP, -, hD1⟩ := hB
                    rw [ht] at hP
                    have hD := hD1.weaken (fun _ _ _ h => hFc _ h)
                    have hN_X : ws[21]? = some (aX, .inr (7, [.int (0 : Int32), .int X_side, .ref aXpicture, .ref aXhalf, .int X_many, .ref aXblocks, .int q360.1, .int X_encodedBits, .ref aXencoded, .int X_fedMany, .ref aXfed, .int q360.2.1, .int q360.2.2.1, .int X_tried, .int (X_waiting_353 - (1 : Int32)), .ref aXpile, .int X_decoded, .ref aXnews, .ref aXolds, .ref aXhalves, .ref aXds, .ref aXrs, .ref aXbest, .long X_bestError])) := hN_X
                    have hN_Xblocks : ws[24]? = some (aXblocks, .inl (cI, Xblocks_n, .inl q360.2.2.2.1)) := hN_Xblocks
                    have hN_Xbest : ws[33]? = some (aXbest, .inl (cI, Xbest_n, .inl q360.2.2.2.2)) := hN_Xbest
                    have hN_Xfed := (hfr _ (by decide)).trans hN_Xfed
                    have hN_Xpile := (hfr _ (by decide)).trans hN_Xpile
                    have hw := z_frC (by decide) hw hfr
                    refine lv_goto (tgt := 86) hx hb d_M_read_188 (by decide) ?_
                    exact ih q360.1 q360.2.1 q360.2.2.1 (X_waiting_353 - (1 : Int32)) q360.2.2.2.1 Xpile_f_355 q360.2.2.2.2 _ _ _ ls _ hf (lv_sub hl [3, 4, 5] rfl) hP hD hS hN_X hN_Xblocks hN_Xfed hN_Xpile hN_Xbest hw kt0
                  · have hf := z_t hc hf
                    refine lv_aload_n hx hb d_M_read_167 rfl (lv_at hl 3 rfl) ?_
                    refine lv_iload_n hx hb d_M_read_168 rfl (lv_at hl 2 rfl) ?_
                    refine lv_iload hx hb d_M_read_169 (lv_at hl 1 rfl) ?_
                    refine lv_iload hx hb d_M_read_171 (lv_at hl 0 rfl) ?_
                    obtain ⟨q361, hc, hf⟩ := z_b hf
                    have hFc := z_free hD hS hA
                    refine va_callv (va_runV (As := [.int (Xpile_f_355 ((3 : Int32) * (X_waiting_353 - (1 : Int32))).toNatClampNeg), .int (Xpile_f_355 (((3 : Int32) * (X_waiting_353 - (1 : Int32))) + (1 : Int32)).toNatClampNeg), .int (Xpile_f_355 (((3 : Int32) * (X_waiting_353 - (1 : Int32))) + (2 : Int32)).toNatClampNeg)]) (rest := []) ⟨hx, hb, hml, hown, hts⟩ (c_M_pileQuarters l dC dI cI cL _ (Xpile_f_355 ((3 : Int32) * (X_waiting_353 - (1 : Int32))).toNatClampNeg) (Xpile_f_355 (((3 : Int32) * (X_waiting_353 - (1 : Int32))) + (1 : Int32)).toNatClampNeg) (Xpile_f_355 (((3 : Int32) * (X_waiting_353 - (1 : Int32))) + (2 : Int32)).toNatClampNeg) hN_X hN_Xpile q361 hc) (cw_M_141 hts ⟨Nat.le_of_ble_eq_true rfl, Nat.le_of_ble_eq_true rfl⟩) ⟨zbM, va_recv hK hP (ci := 7) rfl hN_X, (zpM hP hK hZ hD)⟩ rfl rfl hl.1 rfl (lv_room (Nat.le_of_ble_eq_true rfl)) d_M_read_173 ⟨Nat.zero_le _, Nat.zero_le _⟩) hS (fun q _ h => hFc q h) hFc (fun ws t H locs ht hvm hu hB hz1 hk1 hS => ?_)
                    obtain ⟨hN_X, hN_Xpile, hfr⟩ := hu
                    obtain ⟨hP, -, hD1⟩ := hB
                    rw [ht] at hP
                    have hD := hD1.weaken (fun _ _ _ h => hFc _ h)
                    have hN_X : ws[21]? = some (aX, .inr (7, [.int (0 : Int32), .int X_side, .ref aXpicture, .ref aXhalf, .int X_many, .ref aXblocks, .int X_found_350, .int X_encodedBits, .ref aXencoded, .int X_fedMany, .ref aXfed, .int q359.2.1, .int q359.2.2, .int X_tried, .int q361.1, .ref aXpile, .int X_decoded, .ref aXnews, .ref aXolds, .ref aXhalves, .ref aXds, .ref aXrs, .ref aXbest, .long X_bestError])) := hN_X
                    have hN_Xpile : ws[27]? = some (aXpile, .inl (cI, Xpile_n, .inl q361.2)) := hN_Xpile
                    have hN_Xblocks := (hfr _ (by decide)).trans hN_Xblocks
                    have hN_Xfed := (hfr _ (by decide)).trans hN_Xfed
                    have hN_Xbest := (hfr _ (by decide)).trans hN_Xbest
                    have hw := z_frC (by decide) hw hfr
                    refine lv_goto (tgt := 188) hx hb d_M_read_176 (by decide) ?_
                    refine lv_goto (tgt := 86) hx hb d_M_read_188 (by decide) ?_
                    exact ih X_found_350 q359.2.1 q359.2.2 q361.1 Xblocks_f_354 q361.2 Xbest_f_356 _ _ _ ls _ hf (lv_sub hl [3, 4, 5] rfl) hP hD hS hN_X hN_Xblocks hN_Xfed hN_Xpile hN_Xbest hw kt0
        obtain ⟨q349, hc, hf⟩ := z_b hf
        refine lp357 _ FU (0 : Int32) q275.2.1 q275.2.2 q348.1 Xblocks_f q348.2 Xbest_f _ _ _ ls q349 hc (lv_sub hl [2, 1, 0] rfl) hP hD hS hN_X hN_Xblocks hN_Xfed hN_Xpile hN_Xbest hw (fun ws H locs ls hl hP hD hS hN_X hN_Xblocks hN_Xfed hN_Xpile hN_Xbest hw => ?_)
        refine lv_bipush (v := 8) hx hb d_M_read_191 (by decide) ?_
        refine lv_aload_n hx hb d_M_read_193 rfl (lv_at hl 0 rfl) ?_
        refine gf_M_163 (v := .int X_fedMany) hx hb hts hown hK hP hN_X rfl d_M_read_194 ?_
        refine lv_imul hx hb d_M_read_197 ?_
        refine lv_aload_n hx hb d_M_read_198 rfl (lv_at hl 0 rfl) ?_
        refine gf_M_169 (v := .int q349.2.1) hx hb hts hown hK hP hN_X rfl d_M_read_199 ?_
        refine lv_isub hx hb d_M_read_202 ?_
        refine lv_bipush (v := 7) hx hb d_M_read_203 (by decide) ?_
        refine lv_icmp_le (tgt := 212) hx hb d_M_read_205 (by decide) (fun hc => ?_) (fun hc => ?_)
        · have hf := z_t hc hf
          refine lv_iconst (v := 0) hx hb d_M_read_212 (by decide) ?_
          refine lv_istore_n (lv' := [(3, .int (0 : Int32)), (0, .ref aX), (1, .int q275.1), (2, .int ((1 : Int32) <<< (q275.1 &&& 31)))]) hx hb d_M_read_213 rfl hl (by decide) rfl (fun ls hl => ?_)
          refine lv_aload_n hx hb d_M_read_214 rfl (lv_at hl 1 rfl) ?_
          refine gf_M_169 (v := .int q349.2.1) hx hb hts hown hK hP hN_X rfl d_M_read_215 ?_
          refine lv_istore (lv' := [(4, .int q349.2.1), (3, .int (0 : Int32)), (0, .ref aX), (1, .int q275.1), (2, .int ((1 : Int32) <<< (q275.1 &&& 31)))]) hx hb d_M_read_218 hl (by decide) rfl (fun ls hl => ?_)
          have lp365 : ∀ (Qx : State → Prop) (n : Nat) (v3_363 : Int32) (v4_364 : Int32) (ls : Array Slot) (q : Int32 × Int32) (hf : f_M_read_220 q275.1 ((1 : Int32) <<< (q275.1 &&& 31)) X_fedMany q349.2.2.1 Xfed_n Xfed_f n v3_363 v4_364 = some q) (hl : lv_has ls 6 [(0, .ref aX), (1, .int q275.1), (2, .int ((1 : Int32) <<< (q275.1 &&& 31))), (3, .int v3_363), (4, .int v4_364)]) (kt0 : ∀ (ls : Array Slot), lv_has ls 6 [(0, .ref aX), (1, .int q275.1), (2, .int ((1 : Int32) <<< (q275.1 &&& 31))), (3, .int q.1), (4, .int q.2)] → W p l e (headSpec w_M_read rm_M_read).room s m ([.ref aX] : List Value).toArray below meth c H locs 0 0 Qx (F0 m 265 ls [])), W p l e (headSpec w_M_read rm_M_read).room s m ([.ref aX] : List Value).toArray below meth c H locs 0 0 Qx (F0 m 220 ls []) := by
            intro Qx n
            induction n with
            | zero => intro v3_363 v4_364 ls q hf; cases hf
            | succ n ih =>
              intro v3_363 v4_364 ls q hf hl kt0
              rw [f_M_read_220] at hf
              refine lv_iload hx hb d_M_read_220 (lv_at hl 4 rfl) ?_
              refine lv_bipush (v := 8) hx hb d_M_read_222 (by decide) ?_
              refine lv_aload_n hx hb d_M_read_224 rfl (lv_at hl 0 rfl) ?_
              refine gf_M_163 (v := .int X_fedMany) hx hb hts hown hK hP hN_X rfl d_M_read_225 ?_
              refine lv_imul hx hb d_M_read_228 ?_
              refine lv_icmp_ge (tgt := 265) hx hb d_M_read_229 (by decide) (fun hc => ?_) (fun hc => ?_)
              · have hf := z_t hc hf
                obtain rfl := Option.some.inj hf
                exact kt0 ls (lv_sub hl [0, 1, 2, 3, 4] rfl)
              · have hf := z_f hc hf
                refine lv_aload_n hx hb d_M_read_232 rfl (lv_at hl 0 rfl) ?_
                refine gf_M_166 (v := .int q349.2.2.1) hx hb hts hown hK hP hN_X rfl d_M_read_233 ?_
                refine lv_if_ge (tgt := 265) hx hb d_M_read_236 (by decide) (fun hc => ?_) (fun hc => ?_)
                · have hf := z_t hc hf
                  obtain rfl := Option.some.inj hf
                  exact kt0 ls (lv_sub hl [0, 1, 2, 3, 4] rfl)
                · have hf := z_f hc hf
                  refine lv_iload_n hx hb d_M_read_239 rfl (lv_at hl 3 rfl) ?_
                  refine lv_if_ne (tgt := 253) hx hb d_M_read_240 (by decide) (fun hc => ?_) (fun hc => ?_)
                  · have hf := z_f hc hf
                    refine lv_iconst (v := 1) hx hb d_M_read_253 (by decide) ?_
                    refine lv_goto (tgt := 258) hx hb d_M_read_254 (by decide) ?_
                    refine lv_istore_n (lv' := [(3, .int (1 : Int32)), (0, .ref aX), (1, .int q275.1), (2, .int ((1 : Int32) <<< (q275.1 &&& 31))), (4, .int v4_364)]) hx hb d_M_read_258 rfl hl (by decide) rfl (fun ls hl => ?_)
                    refine lv_iinc (v := (v4_364 + 1)) (lv' := [(4, .int (v4_364 + 1)), (3, .int (1 : Int32)), (0, .ref aX), (1, .int q275.1), (2, .int ((1 : Int32) <<< (q275.1 &&& 31)))]) hx hb d_M_read_259 hl (k := 4) rfl rfl (by decide) rfl (fun ls hl => ?_)
                    refine lv_goto (tgt := 220) hx hb d_M_read_262 (by decide) ?_
                    exact ih (1 : Int32) (v4_364 + 1) ls _ hf (lv_sub hl [2, 3, 4, 1, 0] rfl) kt0
                  · have hf := z_t hc hf
                    refine lv_aload_n hx hb d_M_read_243 rfl (lv_at hl 0 rfl) ?_
                    refine lv_iload hx hb d_M_read_244 (lv_at hl 4 rfl) ?_
                    obtain ⟨q366, hc, hf⟩ := z_b hf
                    refine vp_callSi (z_cr (va_runV (As := [.int v4_364]) (rest := []) ⟨hx, hb, hml, hown, hts⟩ (c_M_bitAt l dC dI cI cL v4_364 hN_X hN_Xfed q366 hc) (cw_M_172 hts ⟨Nat.le_of_ble_eq_true rfl, Nat.le_of_ble_eq_true rfl⟩) ⟨zbR, va_recv hK hP (ci := 7) rfl hN_X, (zpR hP hK hZ)⟩ rfl rfl hl.1 rfl (lv_room (Nat.le_of_ble_eq_true rfl)) d_M_read_246 ⟨Nat.zero_le _, Nat.zero_le _⟩)) (fun r367 hv => ?_)
                    have hv := hv.symm
                    subst hv
                    refine lv_iconst (v := 1) hx hb d_M_read_249 (by decide) ?_
                    refine lv_icmp_ne (tgt := 257) hx hb d_M_read_250 (by decide) (fun hc => ?_) (fun hc => ?_)
                    · have hf := z_f hc hf
                      refine lv_iconst (v := 0) hx hb d_M_read_257 (by decide) ?_
                      refine lv_istore_n (lv' := [(3, .int (0 : Int32)), (0, .ref aX), (1, .int q275.1), (2, .int ((1 : Int32) <<< (q275.1 &&& 31))), (4, .int v4_364)]) hx hb d_M_read_258 rfl hl (by decide) rfl (fun ls hl => ?_)
                      refine lv_iinc (v := (v4_364 + 1)) (lv' := [(4, .int (v4_364 + 1)), (3, .int (0 : Int32)), (0, .ref aX), (1, .int q275.1), (2, .int ((1 : Int32) <<< (q275.1 &&& 31)))]) hx hb d_M_read_259 hl (k := 4) rfl rfl (by decide) rfl (fun ls hl => ?_)
                      refine lv_goto (tgt := 220) hx hb d_M_read_262 (by decide) ?_
                      exact ih (0 : Int32) (v4_364 + 1) ls _ hf (lv_sub hl [2, 3, 4, 1, 0] rfl) kt0
                    · have hf := z_t hc hf
                      refine lv_iconst (v := 1) hx hb d_M_read_253 (by decide) ?_
                      refine lv_goto (tgt := 258) hx hb d_M_read_254 (by decide) ?_
                      refine lv_istore_n (lv' := [(3, .int (1 : Int32)), (0, .ref aX), (1, .int q275.1), (2, .int ((1 : Int32) <<< (q275.1 &&& 31))), (4, .int v4_364)]) hx hb d_M_read_258 rfl hl (by decide) rfl (fun ls hl => ?_)
                      refine lv_iinc (v := (v4_364 + 1)) (lv' := [(4, .int (v4_364 + 1)), (3, .int (1 : Int32)), (0, .ref aX), (1, .int q275.1), (2, .int ((1 : Int32) <<< (q275.1 &&& 31)))]) hx hb d_M_read_259 hl (k := 4) rfl rfl (by decide) rfl (fun ls hl => ?_)
                      refine lv_goto (tgt := 220) hx hb d_M_read_262 (by decide) ?_
                      exact ih (1 : Int32) (v4_364 + 1) ls _ hf (lv_sub hl [2, 3, 4, 1, 0] rfl) kt0
          obtain ⟨q362, hc, hf⟩ := z_b hf
          refine lp365 _ FU (0 : Int32) q349.2.1 ls q362 hc (lv_sub hl [2, 3, 4, 1, 0] rfl) (fun ls hl => ?_)
          refine lv_aload_n hx hb d_M_read_265 rfl (lv_at hl 0 rfl) ?_
          refine lv_aload_n hx hb d_M_read_266 rfl (lv_at hl 0 rfl) ?_
          refine gf_M_166 (v := .int q349.2.2.1) hx hb hts hown hK hP hN_X rfl d_M_read_267 ?_
          refine lv_if_ge (tgt := 281) hx hb d_M_read_270 (by decide) (fun hc => ?_) (fun hc => ?_)
          · have hf := z_t hc hf
            refine lv_aload_n hx hb d_M_read_281 rfl (lv_at hl 0 rfl) ?_
            refine gf_M_166 (v := .int q349.2.2.1) hx hb hts hown hK hP hN_X rfl d_M_read_282 ?_
            refine pf_M_166 (v := .int q349.2.2.1) hx hb hts hown hK hP hD hS hN_X rfl rfl (Nat.le_of_ble_eq_true rfl) d_M_read_285 (fun ws H locs hP hD hS hN_X hfr => ?_)
            have hN_X : ws[21]? = some (aX, .inr (7, [.int (0 : Int32), .int X_side, .ref aXpicture, .ref aXhalf, .int X_many, .ref aXblocks, .int q349.1, .int X_encodedBits, .ref aXencoded, .int X_fedMany, .ref aXfed, .int q349.2.1, .int q349.2.2.1, .int X_tried, .int q349.2.2.2.1, .ref aXpile, .int X_decoded, .ref aXnews, .ref aXolds, .ref aXhalves, .ref aXds, .ref aXrs, .ref aXbest, .long X_bestError])) := hN_X
            have hN_Xblocks := (hfr _ (by decide)).trans hN_Xblocks
            have hN_Xfed := (hfr _ (by decide)).trans hN_Xfed
            have hN_Xpile := (hfr _ (by decide)).trans hN_Xpile
            have hN_Xbest := (hfr _ (by decide)).trans hN_Xbest
            have hw := z_fr (by decide) hw hfr
            refine lv_aload_n hx hb d_M_read_288 rfl (lv_at hl 0 rfl) ?_
            refine lv_iconst (v := 0) hx hb d_M_read_289 (by decide) ?_
            refine pf_M_163 (v := .int (0 : Int32)) hx hb hts hown hK hP hD hS hN_X rfl rfl (Nat.le_of_ble_eq_true rfl) d_M_read_290 (fun ws H locs hP hD hS hN_X hfr => ?_)
            have hN_X : ws[21]? = some (aX, .inr (7, [.int (0 : Int32), .int X_side, .ref aXpicture, .ref aXhalf, .int X_many, .ref aXblocks, .int q349.1, .int X_encodedBits, .ref aXencoded, .int (0 : Int32), .ref aXfed, .int q349.2.1, .int q349.2.2.1, .int X_tried, .int q349.2.2.2.1, .ref aXpile, .int X_decoded, .ref aXnews, .ref aXolds, .ref aXhalves, .ref aXds, .ref aXrs, .ref aXbest, .long X_bestError])) := hN_X
            have hN_Xblocks := (hfr _ (by decide)).trans hN_Xblocks
            have hN_Xfed := (hfr _ (by decide)).trans hN_Xfed
            have hN_Xpile := (hfr _ (by decide)).trans hN_Xpile
            have hN_Xbest := (hfr _ (by decide)).trans hN_Xbest
            have hw := z_fr (by decide) hw hfr
            refine lv_aload_n hx hb d_M_read_293 rfl (lv_at hl 0 rfl) ?_
            refine gf_M_166 (v := .int q349.2.2.1) hx hb hts hown hK hP hN_X rfl d_M_read_294 ?_
            refine lv_if_lt (tgt := 307) hx hb d_M_read_297 (by decide) (fun hc => ?_) (fun hc => ?_)
            · have hf := z_t hc hf
              refine lv_aload_n hx hb d_M_read_307 rfl (lv_at hl 0 rfl) ?_
              obtain ⟨q368, hc, hf⟩ := z_b hf
              have hFc := z_free hD hS hA
              refine va_callv (va_runV (As := []) (rest := []) ⟨hx, hb, hml, hown, hts⟩ (c_M_takeFound l dC dI cI cL _ hN_X hN_Xblocks q368 hc) (cw_M_154 hts ⟨Nat.le_of_ble_eq_true rfl, Nat.le_of_ble_eq_true rfl⟩) ⟨zbM, va_recv hK hP (ci := 7) rfl hN_X, (zpM hP hK hZ hD)⟩ rfl rfl hl.1 rfl (lv_room (Nat.le_of_ble_eq_true rfl)) d_M_read_308 ⟨Nat.zero_le _, Nat.zero_le _⟩) hS (fun q _ h => hFc q h) hFc (fun ws t H locs ht hvm hu hB hz1 hk1 hS => ?_)
              obtain ⟨hN_X, hN_Xblocks, hfr⟩ := hu
              obtain ⟨hP, -, hD1⟩ := hB
              rw [ht] at hP
              have hD := hD1.weaken (fun _ _ _ h => hFc _ h)
              have hN_X : ws[21]? = some (aX, .inr (7, [.int (0 : Int32), .int X_side, .ref aXpicture, .ref aXhalf, .int q368.1, .ref aXblocks, .int q349.1, .int X_encodedBits, .ref aXencoded, .int (0 : Int32), .ref aXfed, .int q349.2.1, .int q349.2.2.1, .int X_tried, .int q349.2.2.2.1, .ref aXpile, .int X_decoded, .ref aXnews, .ref aXolds, .ref aXhalves, .ref aXds, .ref aXrs, .ref aXbest, .long X_bestError])) := hN_X
              have hN_Xblocks : ws[24]? = some (aXblocks, .inl (cI, Xblocks_n, .inl q368.2)) := hN_Xblocks
              have hN_Xfed := (hfr _ (by decide)).trans hN_Xfed
              have hN_Xpile := (hfr _ (by decide)).trans hN_Xpile
              have hN_Xbest := (hfr _ (by decide)).trans hN_Xbest
              have hw := z_frC (by decide) hw hfr
              refine lv_aload_n hx hb d_M_read_311 rfl (lv_at hl 0 rfl) ?_
              refine gf_M_123 (v := .int q368.1) hx hb hts hown hK hP hN_X rfl d_M_read_312 ?_
              obtain rfl := Option.some.inj hf
              exact W.iret hx hb hr (fun t ht hW => ⟨⟨_, ws, rfl, ⟨rfl, hN_X, hN_Xblocks, hN_Xpile, hN_Xbest, hw⟩, by rw [ht]; exact hP, va_K.moved hW.alike hK, hD⟩, hS.F ht⟩) hS.2.2 d_M_read_315
            · have hf := z_f hc hf
              refine lv_iconst (v := (-1)) hx hb d_M_read_300 (by decide) ?_
              refine lv_aload_n hx hb d_M_read_301 rfl (lv_at hl 0 rfl) ?_
              refine gf_M_166 (v := .int q349.2.2.1) hx hb hts hown hK hP hN_X rfl d_M_read_302 ?_
              refine lv_isub hx hb d_M_read_305 ?_
              obtain rfl := Option.some.inj hf
              exact W.iret hx hb hr (fun t ht hW => ⟨⟨_, ws, rfl, ⟨rfl, hN_X, hN_Xblocks, hN_Xpile, hN_Xbest, hw⟩, by rw [ht]; exact hP, va_K.moved hW.alike hK, hD⟩, hS.F ht⟩) hS.2.2 d_M_read_306
          · have hf := z_f hc hf
            refine lv_iload_n hx hb d_M_read_273 rfl (lv_at hl 3 rfl) ?_
            refine lv_if_eq (tgt := 281) hx hb d_M_read_274 (by decide) (fun hc => ?_) (fun hc => ?_)
            · have hf := z_t hc hf
              refine lv_aload_n hx hb d_M_read_281 rfl (lv_at hl 0 rfl) ?_
              refine gf_M_166 (v := .int q349.2.2.1) hx hb hts hown hK hP hN_X rfl d_M_read_282 ?_
              refine pf_M_166 (v := .int q349.2.2.1) hx hb hts hown hK hP hD hS hN_X rfl rfl (Nat.le_of_ble_eq_true rfl) d_M_read_285 (fun ws H locs hP hD hS hN_X hfr => ?_)
              have hN_X : ws[21]? = some (aX, .inr (7, [.int (0 : Int32), .int X_side, .ref aXpicture, .ref aXhalf, .int X_many, .ref aXblocks, .int q349.1, .int X_encodedBits, .ref aXencoded, .int X_fedMany, .ref aXfed, .int q349.2.1, .int q349.2.2.1, .int X_tried, .int q349.2.2.2.1, .ref aXpile, .int X_decoded, .ref aXnews, .ref aXolds, .ref aXhalves, .ref aXds, .ref aXrs, .ref aXbest, .long X_bestError])) := hN_X
              have hN_Xblocks := (hfr _ (by decide)).trans hN_Xblocks
              have hN_Xfed := (hfr _ (by decide)).trans hN_Xfed
              have hN_Xpile := (hfr _ (by decide)).trans hN_Xpile
              have hN_Xbest := (hfr _ (by decide)).trans hN_Xbest
              have hw := z_fr (by decide) hw hfr
              refine lv_aload_n hx hb d_M_read_288 rfl (lv_at hl 0 rfl) ?_
              refine lv_iconst (v := 0) hx hb d_M_read_289 (by decide) ?_
              refine pf_M_163 (v := .int (0 : Int32)) hx hb hts hown hK hP hD hS hN_X rfl rfl (Nat.le_of_ble_eq_true rfl) d_M_read_290 (fun ws H locs hP hD hS hN_X hfr => ?_)
              have hN_X : ws[21]? = some (aX, .inr (7, [.int (0 : Int32), .int X_side, .ref aXpicture, .ref aXhalf, .int X_many, .ref aXblocks, .int q349.1, .int X_encodedBits, .ref aXencoded, .int (0 : Int32), .ref aXfed, .int q349.2.1, .int q349.2.2.1, .int X_tried, .int q349.2.2.2.1, .ref aXpile, .int X_decoded, .ref aXnews, .ref aXolds, .ref aXhalves, .ref aXds, .ref aXrs, .ref aXbest, .long X_bestError])) := hN_X
              have hN_Xblocks := (hfr _ (by decide)).trans hN_Xblocks
              have hN_Xfed := (hfr _ (by decide)).trans hN_Xfed
              have hN_Xpile := (hfr _ (by decide)).trans hN_Xpile
              have hN_Xbest := (hfr _ (by decide)).trans hN_Xbest
              have hw := z_fr (by decide) hw hfr
              refine lv_aload_n hx hb d_M_read_293 rfl (lv_at hl 0 rfl) ?_
              refine gf_M_166 (v := .int q349.2.2.1) hx hb hts hown hK hP hN_X rfl d_M_read_294 ?_
              refine lv_if_lt (tgt := 307) hx hb d_M_read_297 (by decide) (fun hc => ?_) (fun hc => ?_)
              · have hf := z_t hc hf
                refine lv_aload_n hx hb d_M_read_307 rfl (lv_at hl 0 rfl) ?_
                obtain ⟨q369, hc, hf⟩ := z_b hf
                have hFc := z_free hD hS hA
                refine va_callv (va_runV (As := []) (rest := []) ⟨hx, hb, hml, hown, hts⟩ (c_M_takeFound l dC dI cI cL _ hN_X hN_Xblocks q369 hc) (cw_M_154 hts ⟨Nat.le_of_ble_eq_true rfl, Nat.le_of_ble_eq_true rfl⟩) ⟨zbM, va_recv hK hP (ci := 7) rfl hN_X, (zpM hP hK hZ hD)⟩ rfl rfl hl.1 rfl (lv_room (Nat.le_of_ble_eq_true rfl)) d_M_read_308 ⟨Nat.zero_le _, Nat.zero_le _⟩) hS (fun q _ h => hFc q h) hFc (fun ws t H locs ht hvm hu hB hz1 hk1 hS => ?_)
                obtain ⟨hN_X, hN_Xblocks, hfr⟩ := hu
                obtain ⟨hP, -, hD1⟩ := hB
                rw [ht] at hP
                have hD := hD1.weaken (fun _ _ _ h => hFc _ h)
                have hN_X : ws[21]? = some (aX, .inr (7, [.int (0 : Int32), .int X_side, .ref aXpicture, .ref aXhalf, .int q369.1, .ref aXblocks, .int q349.1, .int X_encodedBits, .ref aXencoded, .int (0 : Int32), .ref aXfed, .int q349.2.1, .int q349.2.2.1, .int X_tried, .int q349.2.2.2.1, .ref aXpile, .int X_decoded, .ref aXnews, .ref aXolds, .ref aXhalves, .ref aXds, .ref aXrs, .ref aXbest, .long X_bestError])) := hN_X
                have hN_Xblocks : ws[24]? = some (aXblocks, .inl (cI, Xblocks_n, .inl q369.2)) := hN_Xblocks
                have hN_Xfed := (hfr _ (by decide)).trans hN_Xfed
                have hN_Xpile := (hfr _ (by decide)).trans hN_Xpile
                have hN_Xbest := (hfr _ (by decide)).trans hN_Xbest
                have hw := z_frC (by decide) hw hfr
                refine lv_aload_n hx hb d_M_read_311 rfl (lv_at hl 0 rfl) ?_
                refine gf_M_123 (v := .int q369.1) hx hb hts hown hK hP hN_X rfl d_M_read_312 ?_
                obtain rfl := Option.some.inj hf
                exact W.iret hx hb hr (fun t ht hW => ⟨⟨_, ws, rfl, ⟨rfl, hN_X, hN_Xblocks, hN_Xpile, hN_Xbest, hw⟩, by rw [ht]; exact hP, va_K.moved hW.alike hK, hD⟩, hS.F ht⟩) hS.2.2 d_M_read_315
              · have hf := z_f hc hf
                refine lv_iconst (v := (-1)) hx hb d_M_read_300 (by decide) ?_
                refine lv_aload_n hx hb d_M_read_301 rfl (lv_at hl 0 rfl) ?_
                refine gf_M_166 (v := .int q349.2.2.1) hx hb hts hown hK hP hN_X rfl d_M_read_302 ?_
                refine lv_isub hx hb d_M_read_305 ?_
                obtain rfl := Option.some.inj hf
                exact W.iret hx hb hr (fun t ht hW => ⟨⟨_, ws, rfl, ⟨rfl, hN_X, hN_Xblocks, hN_Xpile, hN_Xbest, hw⟩, by rw [ht]; exact hP, va_K.moved hW.alike hK, hD⟩, hS.F ht⟩) hS.2.2 d_M_read_306
            · have hf := z_f hc hf
              refine lv_iconst (v := 4) hx hb d_M_read_277 (by decide) ?_
              refine lv_goto (tgt := 285) hx hb d_M_read_278 (by decide) ?_
              refine pf_M_166 (v := .int (4 : Int32)) hx hb hts hown hK hP hD hS hN_X rfl rfl (Nat.le_of_ble_eq_true rfl) d_M_read_285 (fun ws H locs hP hD hS hN_X hfr => ?_)
              have hN_X : ws[21]? = some (aX, .inr (7, [.int (0 : Int32), .int X_side, .ref aXpicture, .ref aXhalf, .int X_many, .ref aXblocks, .int q349.1, .int X_encodedBits, .ref aXencoded, .int X_fedMany, .ref aXfed, .int q349.2.1, .int (4 : Int32), .int X_tried, .int q349.2.2.2.1, .ref aXpile, .int X_decoded, .ref aXnews, .ref aXolds, .ref aXhalves, .ref aXds, .ref aXrs, .ref aXbest, .long X_bestError])) := hN_X
              have hN_Xblocks := (hfr _ (by decide)).trans hN_Xblocks
              have hN_Xfed := (hfr _ (by decide)).trans hN_Xfed
              have hN_Xpile := (hfr _ (by decide)).trans hN_Xpile
              have hN_Xbest := (hfr _ (by decide)).trans hN_Xbest
              have hw := z_fr (by decide) hw hfr
              refine lv_aload_n hx hb d_M_read_288 rfl (lv_at hl 0 rfl) ?_
              refine lv_iconst (v := 0) hx hb d_M_read_289 (by decide) ?_
              refine pf_M_163 (v := .int (0 : Int32)) hx hb hts hown hK hP hD hS hN_X rfl rfl (Nat.le_of_ble_eq_true rfl) d_M_read_290 (fun ws H locs hP hD hS hN_X hfr => ?_)
              have hN_X : ws[21]? = some (aX, .inr (7, [.int (0 : Int32), .int X_side, .ref aXpicture, .ref aXhalf, .int X_many, .ref aXblocks, .int q349.1, .int X_encodedBits, .ref aXencoded, .int (0 : Int32), .ref aXfed, .int q349.2.1, .int (4 : Int32), .int X_tried, .int q349.2.2.2.1, .ref aXpile, .int X_decoded, .ref aXnews, .ref aXolds, .ref aXhalves, .ref aXds, .ref aXrs, .ref aXbest, .long X_bestError])) := hN_X
              have hN_Xblocks := (hfr _ (by decide)).trans hN_Xblocks
              have hN_Xfed := (hfr _ (by decide)).trans hN_Xfed
              have hN_Xpile := (hfr _ (by decide)).trans hN_Xpile
              have hN_Xbest := (hfr _ (by decide)).trans hN_Xbest
              have hw := z_fr (by decide) hw hfr
              refine lv_aload_n hx hb d_M_read_293 rfl (lv_at hl 0 rfl) ?_
              refine gf_M_166 (v := .int (4 : Int32)) hx hb hts hown hK hP hN_X rfl d_M_read_294 ?_
              refine lv_if_lt (tgt := 307) hx hb d_M_read_297 (by decide) (fun hc => ?_) (fun hc => ?_)
              · have hf := z_t hc hf
                refine lv_aload_n hx hb d_M_read_307 rfl (lv_at hl 0 rfl) ?_
                obtain ⟨q370, hc, hf⟩ := z_b hf
                have hFc := z_free hD hS hA
                refine va_callv (va_runV (As := []) (rest := []) ⟨hx, hb, hml, hown, hts⟩ (c_M_takeFound l dC dI cI cL _ hN_X hN_Xblocks q370 hc) (cw_M_154 hts ⟨Nat.le_of_ble_eq_true rfl, Nat.le_of_ble_eq_true rfl⟩) ⟨zbM, va_recv hK hP (ci := 7) rfl hN_X, (zpM hP hK hZ hD)⟩ rfl rfl hl.1 rfl (lv_room (Nat.le_of_ble_eq_true rfl)) d_M_read_308 ⟨Nat.zero_le _, Nat.zero_le _⟩) hS (fun q _ h => hFc q h) hFc (fun ws t H locs ht hvm hu hB hz1 hk1 hS => ?_)
                obtain ⟨hN_X, hN_Xblocks, hfr⟩ := hu
                obtain ⟨hP, -, hD1⟩ := hB
                rw [ht] at hP
                have hD := hD1.weaken (fun _ _ _ h => hFc _ h)
                have hN_X : ws[21]? = some (aX, .inr (7, [.int (0 : Int32), .int X_side, .ref aXpicture, .ref aXhalf, .int q370.1, .ref aXblocks, .int q349.1, .int X_encodedBits, .ref aXencoded, .int (0 : Int32), .ref aXfed, .int q349.2.1, .int (4 : Int32), .int X_tried, .int q349.2.2.2.1, .ref aXpile, .int X_decoded, .ref aXnews, .ref aXolds, .ref aXhalves, .ref aXds, .ref aXrs, .ref aXbest, .long X_bestError])) := hN_X
                have hN_Xblocks : ws[24]? = some (aXblocks, .inl (cI, Xblocks_n, .inl q370.2)) := hN_Xblocks
                have hN_Xfed := (hfr _ (by decide)).trans hN_Xfed
                have hN_Xpile := (hfr _ (by decide)).trans hN_Xpile
                have hN_Xbest := (hfr _ (by decide)).trans hN_Xbest
                have hw := z_frC (by decide) hw hfr
                refine lv_aload_n hx hb d_M_read_311 rfl (lv_at hl 0 rfl) ?_
                refine gf_M_123 (v := .int q370.1) hx hb hts hown hK hP hN_X rfl d_M_read_312 ?_
                obtain rfl := Option.some.inj hf
                exact W.iret hx hb hr (fun t ht hW => ⟨⟨_, ws, rfl, ⟨rfl, hN_X, hN_Xblocks, hN_Xpile, hN_Xbest, hw⟩, by rw [ht]; exact hP, va_K.moved hW.alike hK, hD⟩, hS.F ht⟩) hS.2.2 d_M_read_315
              · have hf := z_f hc hf
                refine lv_iconst (v := (-1)) hx hb d_M_read_300 (by decide) ?_
                refine lv_aload_n hx hb d_M_read_301 rfl (lv_at hl 0 rfl) ?_
                refine gf_M_166 (v := .int (4 : Int32)) hx hb hts hown hK hP hN_X rfl d_M_read_302 ?_
                refine lv_isub hx hb d_M_read_305 ?_
                obtain rfl := Option.some.inj hf
                exact W.iret hx hb hr (fun t ht hW => ⟨⟨_, ws, rfl, ⟨rfl, hN_X, hN_Xblocks, hN_Xpile, hN_Xbest, hw⟩, by rw [ht]; exact hP, va_K.moved hW.alike hK, hD⟩, hS.F ht⟩) hS.2.2 d_M_read_306
        · have hf := z_f hc hf
          refine lv_iconst (v := 1) hx hb d_M_read_208 (by decide) ?_
          refine lv_goto (tgt := 213) hx hb d_M_read_209 (by decide) ?_
          refine lv_istore_n (lv' := [(3, .int (1 : Int32)), (0, .ref aX), (1, .int q275.1), (2, .int ((1 : Int32) <<< (q275.1 &&& 31)))]) hx hb d_M_read_213 rfl hl (by decide) rfl (fun ls hl => ?_)
          refine lv_aload_n hx hb d_M_read_214 rfl (lv_at hl 1 rfl) ?_
          refine gf_M_169 (v := .int q349.2.1) hx hb hts hown hK hP hN_X rfl d_M_read_215 ?_
          refine lv_istore (lv' := [(4, .int q349.2.1), (3, .int (1 : Int32)), (0, .ref aX), (1, .int q275.1), (2, .int ((1 : Int32) <<< (q275.1 &&& 31)))]) hx hb d_M_read_218 hl (by decide) rfl (fun ls hl => ?_)
          have lp374 : ∀ (Qx : State → Prop) (n : Nat) (v3_372 : Int32) (v4_373 : Int32) (ls : Array Slot) (q : Int32 × Int32) (hf : f_M_read_220 q275.1 ((1 : Int32) <<< (q275.1 &&& 31)) X_fedMany q349.2.2.1 Xfed_n Xfed_f n v3_372 v4_373 = some q) (hl : lv_has ls 6 [(0, .ref aX), (1, .int q275.1), (2, .int ((1 : Int32) <<< (q275.1 &&& 31))), (3, .int v3_372), (4, .int v4_373)]) (kt0 : ∀ (ls : Array Slot), lv_has ls 6 [(0, .ref aX), (1, .int q275.1), (2, .int ((1 : Int32) <<< (q275.1 &&& 31))), (3, .int q.1), (4, .int q.2)] → W p l e (headSpec w_M_read rm_M_read).room s m ([.ref aX] : List Value).toArray below meth c H locs 0 0 Qx (F0 m 265 ls [])), W p l e (headSpec w_M_read rm_M_read).room s m ([.ref aX] : List Value).toArray below meth c H locs 0 0 Qx (F0 m 220 ls []) := by
            intro Qx n
            induction n with
            | zero => intro v3_372 v4_373 ls q hf; cases hf
            | succ n ih =>
              intro v3_372 v4_373 ls q hf hl kt0
              rw [f_M_read_220] at hf
              refine lv_iload hx hb d_M_read_220 (lv_at hl 4 rfl) ?_
              refine lv_bipush (v := 8) hx hb d_M_read_222 (by decide) ?_
              refine lv_aload_n hx hb d_M_read_224 rfl (lv_at hl 0 rfl) ?_
              refine gf_M_163 (v := .int X_fedMany) hx hb hts hown hK hP hN_X rfl d_M_read_225 ?_
              refine lv_imul hx hb d_M_read_228 ?_
              refine lv_icmp_ge (tgt := 265) hx hb d_M_read_229 (by decide) (fun hc => ?_) (fun hc => ?_)
              · have hf := z_t hc hf
                obtain rfl := Option.some.inj hf
                exact kt0 ls (lv_sub hl [0, 1, 2, 3, 4] rfl)
              · have hf := z_f hc hf
                refine lv_aload_n hx hb d_M_read_232 rfl (lv_at hl 0 rfl) ?_
                refine gf_M_166 (v := .int q349.2.2.1) hx hb hts hown hK hP hN_X rfl d_M_read_233 ?_
                refine lv_if_ge (tgt := 265) hx hb d_M_read_236 (by decide) (fun hc => ?_) (fun hc => ?_)
                · have hf := z_t hc hf
                  obtain rfl := Option.some.inj hf
                  exact kt0 ls (lv_sub hl [0, 1, 2, 3, 4] rfl)
                · have hf := z_f hc hf
                  refine lv_iload_n hx hb d_M_read_239 rfl (lv_at hl 3 rfl) ?_
                  refine lv_if_ne (tgt := 253) hx hb d_M_read_240 (by decide) (fun hc => ?_) (fun hc => ?_)
                  · have hf := z_f hc hf
                    refine lv_iconst (v := 1) hx hb d_M_read_253 (by decide) ?_
                    refine lv_goto (tgt := 258) hx hb d_M_read_254 (by decide) ?_
                    refine lv_istore_n (lv' := [(3, .int (1 : Int32)), (0, .ref aX), (1, .int q275.1), (2, .int ((1 : Int32) <<< (q275.1 &&& 31))), (4, .int v4_373)]) hx hb d_M_read_258 rfl hl (by decide) rfl (fun ls hl => ?_)
                    refine lv_iinc (v := (v4_373 + 1)) (lv' := [(4, .int (v4_373 + 1)), (3, .int (1 : Int32)), (0, .ref aX), (1, .int q275.1), (2, .int ((1 : Int32) <<< (q275.1 &&& 31)))]) hx hb d_M_read_259 hl (k := 4) rfl rfl (by decide) rfl (fun ls hl => ?_)
                    refine lv_goto (tgt := 220) hx hb d_M_read_262 (by decide) ?_
                    exact ih (1 : Int32) (v4_373 + 1) ls _ hf (lv_sub hl [2, 3, 4, 1, 0] rfl) kt0
                  · have hf := z_t hc hf
                    refine lv_aload_n hx hb d_M_read_243 rfl (lv_at hl 0 rfl) ?_
                    refine lv_iload hx hb d_M_read_244 (lv_at hl 4 rfl) ?_
                    obtain ⟨q375, hc, hf⟩ := z_b hf
                    refine vp_callSi (z_cr (va_runV (As := [.int v4_373]) (rest := []) ⟨hx, hb, hml, hown, hts⟩ (c_M_bitAt l dC dI cI cL v4_373 hN_X hN_Xfed q375 hc) (cw_M_172 hts ⟨Nat.le_of_ble_eq_true rfl, Nat.le_of_ble_eq_true rfl⟩) ⟨zbR, va_recv hK hP (ci := 7) rfl hN_X, (zpR hP hK hZ)⟩ rfl rfl hl.1 rfl (lv_room (Nat.le_of_ble_eq_true rfl)) d_M_read_246 ⟨Nat.zero_le _, Nat.zero_le _⟩)) (fun r376 hv => ?_)
                    have hv := hv.symm
                    subst hv
                    refine lv_iconst (v := 1) hx hb d_M_read_249 (by decide) ?_
                    refine lv_icmp_ne (tgt := 257) hx hb d_M_read_250 (by decide) (fun hc => ?_) (fun hc => ?_)
                    · have hf := z_f hc hf
                      refine lv_iconst (v := 0) hx hb d_M_read_257 (by decide) ?_
                      refine lv_istore_n (lv' := [(3, .int (0 : Int32)), (0, .ref aX), (1, .int q275.1), (2, .int ((1 : Int32) <<< (q275.1 &&& 31))), (4, .int v4_373)]) hx hb d_M_read_258 rfl hl (by decide) rfl (fun ls hl => ?_)
                      refine lv_iinc (v := (v4_373 + 1)) (lv' := [(4, .int (v4_373 + 1)), (3, .int (0 : Int32)), (0, .ref aX), (1, .int q275.1), (2, .int ((1 : Int32) <<< (q275.1 &&& 31)))]) hx hb d_M_read_259 hl (k := 4) rfl rfl (by decide) rfl (fun ls hl => ?_)
                      refine lv_goto (tgt := 220) hx hb d_M_read_262 (by decide) ?_
                      exact ih (0 : Int32) (v4_373 + 1) ls _ hf (lv_sub hl [2, 3, 4, 1, 0] rfl) kt0
                    · have hf := z_t hc hf
                      refine lv_iconst (v := 1) hx hb d_M_read_253 (by decide) ?_
                      refine lv_goto (tgt := 258) hx hb d_M_read_254 (by decide) ?_
                      refine lv_istore_n (lv' := [(3, .int (1 : Int32)), (0, .ref aX), (1, .int q275.1), (2, .int ((1 : Int32) <<< (q275.1 &&& 31))), (4, .int v4_373)]) hx hb d_M_read_258 rfl hl (by decide) rfl (fun ls hl => ?_)
                      refine lv_iinc (v := (v4_373 + 1)) (lv' := [(4, .int (v4_373 + 1)), (3, .int (1 : Int32)), (0, .ref aX), (1, .int q275.1), (2, .int ((1 : Int32) <<< (q275.1 &&& 31)))]) hx hb d_M_read_259 hl (k := 4) rfl rfl (by decide) rfl (fun ls hl => ?_)
                      refine lv_goto (tgt := 220) hx hb d_M_read_262 (by decide) ?_
                      exact ih (1 : Int32) (v4_373 + 1) ls _ hf (lv_sub hl [2, 3, 4, 1, 0] rfl) kt0
          obtain ⟨q371, hc, hf⟩ := z_b hf
          refine lp374 _ FU (1 : Int32) q349.2.1 ls q371 hc (lv_sub hl [2, 3, 4, 1, 0] rfl) (fun ls hl => ?_)
          refine lv_aload_n hx hb d_M_read_265 rfl (lv_at hl 0 rfl) ?_
          refine lv_aload_n hx hb d_M_read_266 rfl (lv_at hl 0 rfl) ?_
          refine gf_M_166 (v := .int q349.2.2.1) hx hb hts hown hK hP hN_X rfl d_M_read_267 ?_
          refine lv_if_ge (tgt := 281) hx hb d_M_read_270 (by decide) (fun hc => ?_) (fun hc => ?_)
          · have hf := z_t hc hf
            refine lv_aload_n hx hb d_M_read_281 rfl (lv_at hl 0 rfl) ?_
            refine gf_M_166 (v := .int q349.2.2.1) hx hb hts hown hK hP hN_X rfl d_M_read_282 ?_
            refine pf_M_166 (v := .int q349.2.2.1) hx hb hts hown hK hP hD hS hN_X rfl rfl (Nat.le_of_ble_eq_true rfl) d_M_read_285 (fun ws H locs hP hD hS hN_X hfr => ?_)
            have hN_X : ws[21]? = some (aX, .inr (7, [.int (0 : Int32), .int X_side, .ref aXpicture, .ref aXhalf, .int X_many, .ref aXblocks, .int q349.1, .int X_encodedBits, .ref aXencoded, .int X_fedMany, .ref aXfed, .int q349.2.1, .int q349.2.2.1, .int X_tried, .int q349.2.2.2.1, .ref aXpile, .int X_decoded, .ref aXnews, .ref aXolds, .ref aXhalves, .ref aXds, .ref aXrs, .ref aXbest, .long X_bestError])) := hN_X
            have hN_Xblocks := (hfr _ (by decide)).trans hN_Xblocks
            have hN_Xfed := (hfr _ (by decide)).trans hN_Xfed
            have hN_Xpile := (hfr _ (by decide)).trans hN_Xpile
            have hN_Xbest := (hfr _ (by decide)).trans hN_Xbest
            have hw := z_fr (by decide) hw hfr
            refine lv_aload_n hx hb d_M_read_288 rfl (lv_at hl 0 rfl) ?_
            refine lv_iconst (v := 0) hx hb d_M_read_289 (by decide) ?_
            refine pf_M_163 (v := .int (0 : Int32)) hx hb hts hown hK hP hD hS hN_X rfl rfl (Nat.le_of_ble_eq_true rfl) d_M_read_290 (fun ws H locs hP hD hS hN_X hfr => ?_)
            have hN_X : ws[21]? = some (aX, .inr (7, [.int (0 : Int32), .int X_side, .ref aXpicture, .ref aXhalf, .int X_many, .ref aXblocks, .int q349.1, .int X_encodedBits, .ref aXencoded, .int (0 : Int32), .ref aXfed, .int q349.2.1, .int q349.2.2.1, .int X_tried, .int q349.2.2.2.1, .ref aXpile, .int X_decoded, .ref aXnews, .ref aXolds, .ref aXhalves, .ref aXds, .ref aXrs, .ref aXbest, .long X_bestError])) := hN_X
            have hN_Xblocks := (hfr _ (by decide)).trans hN_Xblocks
            have hN_Xfed := (hfr _ (by decide)).trans hN_Xfed
            have hN_Xpile := (hfr _ (by decide)).trans hN_Xpile
            have hN_Xbest := (hfr _ (by decide)).trans hN_Xbest
            have hw := z_fr (by decide) hw hfr
            refine lv_aload_n hx hb d_M_read_293 rfl (lv_at hl 0 rfl) ?_
            refine gf_M_166 (v := .int q349.2.2.1) hx hb hts hown hK hP hN_X rfl d_M_read_294 ?_
            refine lv_if_lt (tgt := 307) hx hb d_M_read_297 (by decide) (fun hc => ?_) (fun hc => ?_)
            · have hf := z_t hc hf
              refine lv_aload_n hx hb d_M_read_307 rfl (lv_at hl 0 rfl) ?_
              obtain ⟨q377, hc, hf⟩ := z_b hf
              have hFc := z_free hD hS hA
              refine va_callv (va_runV (As := []) (rest := []) ⟨hx, hb, hml, hown, hts⟩ (c_M_takeFound l dC dI cI cL _ hN_X hN_Xblocks q377 hc) (cw_M_154 hts ⟨Nat.le_of_ble_eq_true rfl, Nat.le_of_ble_eq_true rfl⟩) ⟨zbM, va_recv hK hP (ci := 7) rfl hN_X, (zpM hP hK hZ hD)⟩ rfl rfl hl.1 rfl (lv_room (Nat.le_of_ble_eq_true rfl)) d_M_read_308 ⟨Nat.zero_le _, Nat.zero_le _⟩) hS (fun q _ h => hFc q h) hFc (fun ws t H locs ht hvm hu hB hz1 hk1 hS => ?_)
              obtain ⟨hN_X, hN_Xblocks, hfr⟩ := hu
              obtain ⟨hP, -, hD1⟩ := hB
              rw [ht] at hP
              have hD := hD1.weaken (fun _ _ _ h => hFc _ h)
              have hN_X : ws[21]? = some (aX, .inr (7, [.int (0 : Int32), .int X_side, .ref aXpicture, .ref aXhalf, .int q377.1, .ref aXblocks, .int q349.1, .int X_encodedBits, .ref aXencoded, .int (0 : Int32), .ref aXfed, .int q349.2.1, .int q349.2.2.1, .int X_tried, .int q349.2.2.2.1, .ref aXpile, .int X_decoded, .ref aXnews, .ref aXolds, .ref aXhalves, .ref aXds, .ref aXrs, .ref aXbest, .long X_bestError])) := hN_X
              have hN_Xblocks : ws[24]? = some (aXblocks, .inl (cI, Xblocks_n, .inl q377.2)) := hN_Xblocks
              have hN_Xfed := (hfr _ (by decide)).trans hN_Xfed
              have hN_Xpile := (hfr _ (by decide)).trans hN_Xpile
              have hN_Xbest := (hfr _ (by decide)).trans hN_Xbest
              have hw := z_frC (by decide) hw hfr
              refine lv_aload_n hx hb d_M_read_311 rfl (lv_at hl 0 rfl) ?_
              refine gf_M_123 (v := .int q377.1) hx hb hts hown hK hP hN_X rfl d_M_read_312 ?_
              obtain rfl := Option.some.inj hf
              exact W.iret hx hb hr (fun t ht hW => ⟨⟨_, ws, rfl, ⟨rfl, hN_X, hN_Xblocks, hN_Xpile, hN_Xbest, hw⟩, by rw [ht]; exact hP, va_K.moved hW.alike hK, hD⟩, hS.F ht⟩) hS.2.2 d_M_read_315
            · have hf := z_f hc hf
              refine lv_iconst (v := (-1)) hx hb d_M_read_300 (by decide) ?_
              refine lv_aload_n hx hb d_M_read_301 rfl (lv_at hl 0 rfl) ?_
              refine gf_M_166 (v := .int q349.2.2.1) hx hb hts hown hK hP hN_X rfl d_M_read_302 ?_
              refine lv_isub hx hb d_M_read_305 ?_
              obtain rfl := Option.some.inj hf
              exact W.iret hx hb hr (fun t ht hW => ⟨⟨_, ws, rfl, ⟨rfl, hN_X, hN_Xblocks, hN_Xpile, hN_Xbest, hw⟩, by rw [ht]; exact hP, va_K.moved hW.alike hK, hD⟩, hS.F ht⟩) hS.2.2 d_M_read_306
          · have hf := z_f hc hf
            refine lv_iload_n hx hb d_M_read_273 rfl (lv_at hl 3 rfl) ?_
            refine lv_if_eq (tgt := 281) hx hb d_M_read_274 (by decide) (fun hc => ?_) (fun hc => ?_)
            · have hf := z_t hc hf
              refine lv_aload_n hx hb d_M_read_281 rfl (lv_at hl 0 rfl) ?_
              refine gf_M_166 (v := .int q349.2.2.1) hx hb hts hown hK hP hN_X rfl d_M_read_282 ?_
              refine pf_M_166 (v := .int q349.2.2.1) hx hb hts hown hK hP hD hS hN_X rfl rfl (Nat.le_of_ble_eq_true rfl) d_M_read_285 (fun ws H locs hP hD hS hN_X hfr => ?_)
              have hN_X : ws[21]? = some (aX, .inr (7, [.int (0 : Int32), .int X_side, .ref aXpicture, .ref aXhalf, .int X_many, .ref aXblocks, .int q349.1, .int X_encodedBits, .ref aXencoded, .int X_fedMany, .ref aXfed, .int q349.2.1, .int q349.2.2.1, .int X_tried, .int q349.2.2.2.1, .ref aXpile, .int X_decoded, .ref aXnews, .ref aXolds, .ref aXhalves, .ref aXds, .ref aXrs, .ref aXbest, .long X_bestError])) := hN_X
              have hN_Xblocks := (hfr _ (by decide)).trans hN_Xblocks
              have hN_Xfed := (hfr _ (by decide)).trans hN_Xfed
              have hN_Xpile := (hfr _ (by decide)).trans hN_Xpile
              have hN_Xbest := (hfr _ (by decide)).trans hN_Xbest
              have hw := z_fr (by decide) hw hfr
              refine lv_aload_n hx hb d_M_read_288 rfl (lv_at hl 0 rfl) ?_
              refine lv_iconst (v := 0) hx hb d_M_read_289 (by decide) ?_
              refine pf_M_163 (v := .int (0 : Int32)) hx hb hts hown hK hP hD hS hN_X rfl rfl (Nat.le_of_ble_eq_true rfl) d_M_read_290 (fun ws H locs hP hD hS hN_X hfr => ?_)
              have hN_X : ws[21]? = some (aX, .inr (7, [.int (0 : Int32), .int X_side, .ref aXpicture, .ref aXhalf, .int X_many, .ref aXblocks, .int q349.1, .int X_encodedBits, .ref aXencoded, .int (0 : Int32), .ref aXfed, .int q349.2.1, .int q349.2.2.1, .int X_tried, .int q349.2.2.2.1, .ref aXpile, .int X_decoded, .ref aXnews, .ref aXolds, .ref aXhalves, .ref aXds, .ref aXrs, .ref aXbest, .long X_bestError])) := hN_X
              have hN_Xblocks := (hfr _ (by decide)).trans hN_Xblocks
              have hN_Xfed := (hfr _ (by decide)).trans hN_Xfed
              have hN_Xpile := (hfr _ (by decide)).trans hN_Xpile
              have hN_Xbest := (hfr _ (by decide)).trans hN_Xbest
              have hw := z_fr (by decide) hw hfr
              refine lv_aload_n hx hb d_M_read_293 rfl (lv_at hl 0 rfl) ?_
              refine gf_M_166 (v := .int q349.2.2.1) hx hb hts hown hK hP hN_X rfl d_M_read_294 ?_
              refine lv_if_lt (tgt := 307) hx hb d_M_read_297 (by decide) (fun hc => ?_) (fun hc => ?_)
              · have hf := z_t hc hf
                refine lv_aload_n hx hb d_M_read_307 rfl (lv_at hl 0 rfl) ?_
                obtain ⟨q378, hc, hf⟩ := z_b hf
                have hFc := z_free hD hS hA
                refine va_callv (va_runV (As := []) (rest := []) ⟨hx, hb, hml, hown, hts⟩ (c_M_takeFound l dC dI cI cL _ hN_X hN_Xblocks q378 hc) (cw_M_154 hts ⟨Nat.le_of_ble_eq_true rfl, Nat.le_of_ble_eq_true rfl⟩) ⟨zbM, va_recv hK hP (ci := 7) rfl hN_X, (zpM hP hK hZ hD)⟩ rfl rfl hl.1 rfl (lv_room (Nat.le_of_ble_eq_true rfl)) d_M_read_308 ⟨Nat.zero_le _, Nat.zero_le _⟩) hS (fun q _ h => hFc q h) hFc (fun ws t H locs ht hvm hu hB hz1 hk1 hS => ?_)
                obtain ⟨hN_X, hN_Xblocks, hfr⟩ := hu
                obtain ⟨hP, -, hD1⟩ := hB
                rw [ht] at hP
                have hD := hD1.weaken (fun _ _ _ h => hFc _ h)
                have hN_X : ws[21]? = some (aX, .inr (7, [.int (0 : Int32), .int X_side, .ref aXpicture, .ref aXhalf, .int q378.1, .ref aXblocks, .int q349.1, .int X_encodedBits, .ref aXencoded, .int (0 : Int32), .ref aXfed, .int q349.2.1, .int q349.2.2.1, .int X_tried, .int q349.2.2.2.1, .ref aXpile, .int X_decoded, .ref aXnews, .ref aXolds, .ref aXhalves, .ref aXds, .ref aXrs, .ref aXbest, .long X_bestError])) := hN_X
                have hN_Xblocks : ws[24]? = some (aXblocks, .inl (cI, Xblocks_n, .inl q378.2)) := hN_Xblocks
                have hN_Xfed := (hfr _ (by decide)).trans hN_Xfed
                have hN_Xpile := (hfr _ (by decide)).trans hN_Xpile
                have hN_Xbest := (hfr _ (by decide)).trans hN_Xbest
                have hw := z_frC (by decide) hw hfr
                refine lv_aload_n hx hb d_M_read_311 rfl (lv_at hl 0 rfl) ?_
                refine gf_M_123 (v := .int q378.1) hx hb hts hown hK hP hN_X rfl d_M_read_312 ?_
                obtain rfl := Option.some.inj hf
                exact W.iret hx hb hr (fun t ht hW => ⟨⟨_, ws, rfl, ⟨rfl, hN_X, hN_Xblocks, hN_Xpile, hN_Xbest, hw⟩, by rw [ht]; exact hP, va_K.moved hW.alike hK, hD⟩, hS.F ht⟩) hS.2.2 d_M_read_315
              · have hf := z_f hc hf
                refine lv_iconst (v := (-1)) hx hb d_M_read_300 (by decide) ?_
                refine lv_aload_n hx hb d_M_read_301 rfl (lv_at hl 0 rfl) ?_
                refine gf_M_166 (v := .int q349.2.2.1) hx hb hts hown hK hP hN_X rfl d_M_read_302 ?_
                refine lv_isub hx hb d_M_read_305 ?_
                obtain rfl := Option.some.inj hf
                exact W.iret hx hb hr (fun t ht hW => ⟨⟨_, ws, rfl, ⟨rfl, hN_X, hN_Xblocks, hN_Xpile, hN_Xbest, hw⟩, by rw [ht]; exact hP, va_K.moved hW.alike hK, hD⟩, hS.F ht⟩) hS.2.2 d_M_read_306
            · have hf := z_f hc hf
              refine lv_iconst (v := 4) hx hb d_M_read_277 (by decide) ?_
              refine lv_goto (tgt := 285) hx hb d_M_read_278 (by decide) ?_
              refine pf_M_166 (v := .int (4 : Int32)) hx hb hts hown hK hP hD hS hN_X rfl rfl (Nat.le_of_ble_eq_true rfl) d_M_read_285 (fun ws H locs hP hD hS hN_X hfr => ?_)
              have hN_X : ws[21]? = some (aX, .inr (7, [.int (0 : Int32), .int X_side, .ref aXpicture, .ref aXhalf, .int X_many, .ref aXblocks, .int q349.1, .int X_encodedBits, .ref aXencoded, .int X_fedMany, .ref aXfed, .int q349.2.1, .int (4 : Int32), .int X_tried, .int q349.2.2.2.1, .ref aXpile, .int X_decoded, .ref aXnews, .ref aXolds, .ref aXhalves, .ref aXds, .ref aXrs, .ref aXbest, .long X_bestError])) := hN_X
              have hN_Xblocks := (hfr _ (by decide)).trans hN_Xblocks
              have hN_Xfed := (hfr _ (by decide)).trans hN_Xfed
              have hN_Xpile := (hfr _ (by decide)).trans hN_Xpile
              have hN_Xbest := (hfr _ (by decide)).trans hN_Xbest
              have hw := z_fr (by decide) hw hfr
              refine lv_aload_n hx hb d_M_read_288 rfl (lv_at hl 0 rfl) ?_
              refine lv_iconst (v := 0) hx hb d_M_read_289 (by decide) ?_
              refine pf_M_163 (v := .int (0 : Int32)) hx hb hts hown hK hP hD hS hN_X rfl rfl (Nat.le_of_ble_eq_true rfl) d_M_read_290 (fun ws H locs hP hD hS hN_X hfr => ?_)
              have hN_X : ws[21]? = some (aX, .inr (7, [.int (0 : Int32), .int X_side, .ref aXpicture, .ref aXhalf, .int X_many, .ref aXblocks, .int q349.1, .int X_encodedBits, .ref aXencoded, .int (0 : Int32), .ref aXfed, .int q349.2.1, .int (4 : Int32), .int X_tried, .int q349.2.2.2.1, .ref aXpile, .int X_decoded, .ref aXnews, .ref aXolds, .ref aXhalves, .ref aXds, .ref aXrs, .ref aXbest, .long X_bestError])) := hN_X
              have hN_Xblocks := (hfr _ (by decide)).trans hN_Xblocks
              have hN_Xfed := (hfr _ (by decide)).trans hN_Xfed
              have hN_Xpile := (hfr _ (by decide)).trans hN_Xpile
              have hN_Xbest := (hfr _ (by decide)).trans hN_Xbest
              have hw := z_fr (by decide) hw hfr
              refine lv_aload_n hx hb d_M_read_293 rfl (lv_at hl 0 rfl) ?_
              refine gf_M_166 (v := .int (4 : Int32)) hx hb hts hown hK hP hN_X rfl d_M_read_294 ?_
              refine lv_if_lt (tgt := 307) hx hb d_M_read_297 (by decide) (fun hc => ?_) (fun hc => ?_)
              · have hf := z_t hc hf
                refine lv_aload_n hx hb d_M_read_307 rfl (lv_at hl 0 rfl) ?_
                obtain ⟨q379, hc, hf⟩ := z_b hf
                have hFc := z_free hD hS hA
                refine va_callv (va_runV (As := []) (rest := []) ⟨hx, hb, hml, hown, hts⟩ (c_M_takeFound l dC dI cI cL _ hN_X hN_Xblocks q379 hc) (cw_M_154 hts ⟨Nat.le_of_ble_eq_true rfl, Nat.le_of_ble_eq_true rfl⟩) ⟨zbM, va_recv hK hP (ci := 7) rfl hN_X, (zpM hP hK hZ hD)⟩ rfl rfl hl.1 rfl (lv_room (Nat.le_of_ble_eq_true rfl)) d_M_read_308 ⟨Nat.zero_le _, Nat.zero_le _⟩) hS (fun q _ h => hFc q h) hFc (fun ws t H locs ht hvm hu hB hz1 hk1 hS => ?_)
                obtain ⟨hN_X, hN_Xblocks, hfr⟩ := hu
                obtain ⟨hP, -, hD1⟩ := hB
                rw [ht] at hP
                have hD := hD1.weaken (fun _ _ _ h => hFc _ h)
                have hN_X : ws[21]? = some (aX, .inr (7, [.int (0 : Int32), .int X_side, .ref aXpicture, .ref aXhalf, .int q379.1, .ref aXblocks, .int q349.1, .int X_encodedBits, .ref aXencoded, .int (0 : Int32), .ref aXfed, .int q349.2.1, .int (4 : Int32), .int X_tried, .int q349.2.2.2.1, .ref aXpile, .int X_decoded, .ref aXnews, .ref aXolds, .ref aXhalves, .ref aXds, .ref aXrs, .ref aXbest, .long X_bestError])) := hN_X
                have hN_Xblocks : ws[24]? = some (aXblocks, .inl (cI, Xblocks_n, .inl q379.2)) := hN_Xblocks
                have hN_Xfed := (hfr _ (by decide)).trans hN_Xfed
                have hN_Xpile := (hfr _ (by decide)).trans hN_Xpile
                have hN_Xbest := (hfr _ (by decide)).trans hN_Xbest
                have hw := z_frC (by decide) hw hfr
                refine lv_aload_n hx hb d_M_read_311 rfl (lv_at hl 0 rfl) ?_
                refine gf_M_123 (v := .int q379.1) hx hb hts hown hK hP hN_X rfl d_M_read_312 ?_
                obtain rfl := Option.some.inj hf
                exact W.iret hx hb hr (fun t ht hW => ⟨⟨_, ws, rfl, ⟨rfl, hN_X, hN_Xblocks, hN_Xpile, hN_Xbest, hw⟩, by rw [ht]; exact hP, va_K.moved hW.alike hK, hD⟩, hS.F ht⟩) hS.2.2 d_M_read_315
              · have hf := z_f hc hf
                refine lv_iconst (v := (-1)) hx hb d_M_read_300 (by decide) ?_
                refine lv_aload_n hx hb d_M_read_301 rfl (lv_at hl 0 rfl) ?_
                refine gf_M_166 (v := .int (4 : Int32)) hx hb hts hown hK hP hN_X rfl d_M_read_302 ?_
                refine lv_isub hx hb d_M_read_305 ?_
                obtain rfl := Option.some.inj hf
                exact W.iret hx hb hr (fun t ht hW => ⟨⟨_, ws, rfl, ⟨rfl, hN_X, hN_Xblocks, hN_Xpile, hN_Xbest, hw⟩, by rw [ht]; exact hP, va_K.moved hW.alike hK, hD⟩, hS.F ht⟩) hS.2.2 d_M_read_306
      · have hf := z_f hc hf
        refine lv_iconst (v := 0) hx hb d_M_read_65 (by decide) ?_
        refine lv_goto (tgt := 73) hx hb d_M_read_66 (by decide) ?_
        refine pf_M_166 (v := .int (0 : Int32)) hx hb hts hown hK hP hD hS hN_X rfl rfl (Nat.le_of_ble_eq_true rfl) d_M_read_73 (fun ws H locs hP hD hS hN_X hfr => ?_)
        have hN_X : ws[21]? = some (aX, .inr (7, [.int (0 : Int32), .int X_side, .ref aXpicture, .ref aXhalf, .int X_many, .ref aXblocks, .int (0 : Int32), .int X_encodedBits, .ref aXencoded, .int X_fedMany, .ref aXfed, .int q275.2.1, .int (0 : Int32), .int X_tried, .int (0 : Int32), .ref aXpile, .int X_decoded, .ref aXnews, .ref aXolds, .ref aXhalves, .ref aXds, .ref aXrs, .ref aXbest, .long X_bestError])) := hN_X
        have hN_Xblocks := (hfr _ (by decide)).trans hN_Xblocks
        have hN_Xfed := (hfr _ (by decide)).trans hN_Xfed
        have hN_Xpile := (hfr _ (by decide)).trans hN_Xpile
        have hN_Xbest := (hfr _ (by decide)).trans hN_Xbest
        have hw := z_fr (by decide) hw hfr
        refine lv_aload_n hx hb d_M_read_76 rfl (lv_at hl 2 rfl) ?_
        refine lv_iconst (v := 0) hx hb d_M_read_77 (by decide) ?_
        refine lv_iconst (v := 0) hx hb d_M_read_78 (by decide) ?_
        refine lv_aload_n hx hb d_M_read_79 rfl (lv_at hl 2 rfl) ?_
        refine gf_M_46 (v := .int X_side) hx hb hts hown hK hP hN_X rfl d_M_read_80 ?_
        obtain ⟨q380, hc, hf⟩ := z_b hf
        have hFc := z_free hD hS hA
        refine va_callv (va_runV (As := [.int (0 : Int32), .int (0 : Int32), .int X_side]) (rest := []) ⟨hx, hb, hml, hown, hts⟩ (c_M_pileQuarters l dC dI cI cL _ (0 : Int32) (0 : Int32) X_side hN_X hN_Xpile q380 hc) (cw_M_141 hts ⟨Nat.le_of_ble_eq_true rfl, Nat.le_of_ble_eq_true rfl⟩) ⟨zbM, va_recv hK hP (ci := 7) rfl hN_X, (zpM hP hK hZ hD)⟩ rfl rfl hl.1 rfl (lv_room (Nat.le_of_ble_eq_true rfl)) d_M_read_83 ⟨Nat.zero_le _, Nat.zero_le _⟩) hS (fun q _ h => hFc q h) hFc (fun ws t H locs ht hvm hu hB hz1 hk1 hS => ?_)
        obtain ⟨hN_X, hN_Xpile, hfr⟩ := hu
        obtain ⟨hP, -, hD1⟩ := hB
        rw [ht] at hP
        have hD := hD1.weaken (fun _ _ _ h => hFc _ h)
        have hN_X : ws[21]? = some (aX, .inr (7, [.int (0 : Int32), .int X_side, .ref aXpicture, .ref aXhalf, .int X_many, .ref aXblocks, .int (0 : Int32), .int X_encodedBits, .ref aXencoded, .int X_fedMany, .ref aXfed, .int q275.2.1, .int (0 : Int32), .int X_tried, .int q380.1, .ref aXpile, .int X_decoded, .ref aXnews, .ref aXolds, .ref aXhalves, .ref aXds, .ref aXrs, .ref aXbest, .long X_bestError])) := hN_X
        have hN_Xpile : ws[27]? = some (aXpile, .inl (cI, Xpile_n, .inl q380.2)) := hN_Xpile
        have hN_Xblocks := (hfr _ (by decide)).trans hN_Xblocks
        have hN_Xfed := (hfr _ (by decide)).trans hN_Xfed
        have hN_Xbest := (hfr _ (by decide)).trans hN_Xbest
        have hw := z_frC (by decide) hw hfr
        have lp389 : ∀ (Qx : State → Prop) (n : Nat) (X_found_382 : Int32) (X_readAt_383 : Int32) (X_why_384 : Int32) (X_waiting_385 : Int32) (Xblocks_f_386 : Nat → Int32) (Xpile_f_387 : Nat → Int32) (Xbest_f_388 : Nat → Int32) (ws : va_W) (H : Heap) (locs : List Loc) (ls : Array Slot) (q : Int32 × Int32 × Int32 × Int32 × (Nat → Int32) × (Nat → Int32) × (Nat → Int32)) (hf : f_M_read_86 q275.1 ((1 : Int32) <<< (q275.1 &&& 31)) X_side X_fedMany Xblocks_n Xfed_n Xfed_f Xpile_n Xbest_n n X_found_382 X_readAt_383 X_why_384 X_waiting_385 Xblocks_f_386 Xpile_f_387 Xbest_f_388 = some q) (hl : lv_has ls 6 [(0, .ref aX), (1, .int q275.1), (2, .int ((1 : Int32) <<< (q275.1 &&& 31)))]) (hP : va_P (dC, dI) classes ws H) (hD : va_D A ws) (hS : va_S A s.heap H locs) (hN_X : ws[21]? = some (aX, .inr (7, [.int (0 : Int32), .int X_side, .ref aXpicture, .ref aXhalf, .int X_many, .ref aXblocks, .int X_found_382, .int X_encodedBits, .ref aXencoded, .int X_fedMany, .ref aXfed, .int X_readAt_383, .int X_why_384, .int X_tried, .int X_waiting_385, .ref aXpile, .int X_decoded, .ref aXnews, .ref aXolds, .ref aXhalves, .ref aXds, .ref aXrs, .ref aXbest, .long X_bestError]))) (hN_Xblocks : ws[24]? = some (aXblocks, .inl (cI, Xblocks_n, .inl Xblocks_f_386))) (hN_Xfed : ws[26]? = some (aXfed, .inl (cI, Xfed_n, .inl Xfed_f))) (hN_Xpile : ws[27]? = some (aXpile, .inl (cI, Xpile_n, .inl Xpile_f_387))) (hN_Xbest : ws[33]? = some (aXbest, .inl (cI, Xbest_n, .inl Xbest_f_388))) (hw : ∀ j, j ∉ [21, 24, 27, 33] → ws[j]? = ws0[j]?) (kt0 : ∀ (ws : va_W) (H : Heap) (locs : List Loc) (ls : Array Slot), lv_has ls 6 [(0, .ref aX), (1, .int q275.1), (2, .int ((1 : Int32) <<< (q275.1 &&& 31)))] → (va_P (dC, dI) classes ws H) → (va_D A ws) → (va_S A s.heap H locs) → (ws[21]? = some (aX, .inr (7, [.int (0 : Int32), .int X_side, .ref aXpicture, .ref aXhalf, .int X_many, .ref aXblocks, .int q.1, .int X_encodedBits, .ref aXencoded, .int X_fedMany, .ref aXfed, .int q.2.1, .int q.2.2.1, .int X_tried, .int q.2.2.2.1, .ref aXpile, .int X_decoded, .ref aXnews, .ref aXolds, .ref aXhalves, .ref aXds, .ref aXrs, .ref aXbest, .long X_bestError]))) → (ws[24]? = some (aXblocks, .inl (cI, Xblocks_n, .inl q.2.2.2.2.1))) → (ws[26]? = some (aXfed, .inl (cI, Xfed_n, .inl Xfed_f))) → (ws[27]? = some (aXpile, .inl (cI, Xpile_n, .inl q.2.2.2.2.2.1))) → (ws[33]? = some (aXbest, .inl (cI, Xbest_n, .inl q.2.2.2.2.2.2))) → (∀ j, j ∉ [21, 24, 27, 33] → ws[j]? = ws0[j]?) → W p l e (headSpec w_M_read rm_M_read).room s m ([.ref aX] : List Value).toArray below meth c H locs 0 0 Qx (F0 m 191 ls [])), W p l e (headSpec w_M_read rm_M_read).room s m ([.ref aX] : List Value).toArray below meth c H locs 0 0 Qx (F0 m 86 ls []) := by
          intro Qx n
          induction n with
          | zero => intro X_found_382 X_readAt_383 X_why_384 X_waiting_385 Xblocks_f_386 Xpile_f_387 Xbest_f_388 ws H locs ls q hf; cases hf
          | succ n ih =>
            intro X_found_382 X_readAt_383 X_why_384 X_waiting_385 Xblocks_f_386 Xpile_f_387 Xbest_f_388 ws H locs ls q hf hl hP hD hS hN_X hN_Xblocks hN_Xfed hN_Xpile hN_Xbest hw kt0
            rw [f_M_read_86] at hf
            refine lv_aload_n hx hb d_M_read_86 rfl (lv_at hl 0 rfl) ?_
            refine gf_M_114 (v := .int X_waiting_385) hx hb hts hown hK hP hN_X rfl d_M_read_87 ?_
            refine lv_if_le (tgt := 191) hx hb d_M_read_90 (by decide) (fun hc => ?_) (fun hc => ?_)
            · have hf := z_t hc hf
              obtain rfl := Option.some.inj hf
              exact kt0 _ _ _ ls (lv_sub hl [0, 1, 2] rfl) hP hD hS hN_X hN_Xblocks hN_Xfed hN_Xpile hN_Xbest hw
            · have hf := z_f hc hf
              refine lv_aload_n hx hb d_M_read_93 rfl (lv_at hl 0 rfl) ?_
              refine gf_M_166 (v := .int X_why_384) hx hb hts hown hK hP hN_X rfl d_M_read_94 ?_
              refine lv_if_ge (tgt := 191) hx hb d_M_read_97 (by decide) (fun hc => ?_) (fun hc => ?_)
              · have hf := z_t hc hf
                obtain rfl := Option.some.inj hf
                exact kt0 _ _ _ ls (lv_sub hl [0, 1, 2] rfl) hP hD hS hN_X hN_Xblocks hN_Xfed hN_Xpile hN_Xbest hw
              · have hf := z_f hc hf
                refine lv_aload_n hx hb d_M_read_100 rfl (lv_at hl 0 rfl) ?_
                refine lv_dup hx hb d_M_read_101 rfl ?_
                refine gf_M_114 (v := .int X_waiting_385) hx hb hts hown hK hP hN_X rfl d_M_read_102 ?_
                refine lv_iconst (v := 1) hx hb d_M_read_105 (by decide) ?_
                refine lv_isub hx hb d_M_read_106 ?_
                refine pf_M_114 (v := .int (X_waiting_385 - (1 : Int32))) hx hb hts hown hK hP hD hS hN_X rfl rfl (Nat.le_of_ble_eq_true rfl) d_M_read_107 (fun ws H locs hP hD hS hN_X hfr => ?_)
                have hN_X : ws[21]? = some (aX, .inr (7, [.int (0 : Int32), .int X_side, .ref aXpicture, .ref aXhalf, .int X_many, .ref aXblocks, .int X_found_382, .int X_encodedBits, .ref aXencoded, .int X_fedMany, .ref aXfed, .int X_readAt_383, .int X_why_384, .int X_tried, .int (X_waiting_385 - (1 : Int32)), .ref aXpile, .int X_decoded, .ref aXnews, .ref aXolds, .ref aXhalves, .ref aXds, .ref aXrs, .ref aXbest, .long X_bestError])) := hN_X
                have hN_Xblocks := (hfr _ (by decide)).trans hN_Xblocks
                have hN_Xfed := (hfr _ (by decide)).trans hN_Xfed
                have hN_Xpile := (hfr _ (by decide)).trans hN_Xpile
                have hN_Xbest := (hfr _ (by decide)).trans hN_Xbest
                have hw := z_fr (by decide) hw hfr
                refine lv_aload_n hx hb d_M_read_110 rfl (lv_at hl 0 rfl) ?_
                refine gf_M_25 (v := .ref aXpile) hx hb hts hown hK hP hN_X rfl d_M_read_111 ?_
                refine lv_iconst (v := 3) hx hb d_M_read_114 (by decide) ?_
                refine lv_aload_n hx hb d_M_read_115 rfl (lv_at hl 0 rfl) ?_
                refine gf_M_114 (v := .int (X_waiting_385 - (1 : Int32))) hx hb hts hown hK hP hN_X rfl d_M_read_116 ?_
                refine lv_imul hx hb d_M_read_119 ?_
                obtain ⟨hin, hf⟩ := z_no hf
                refine va_iald hx hb hK hP _ 0 hN_Xpile rfl hin d_M_read_120 ?_
                refine lv_istore_n (lv' := [(3, .int (Xpile_f_387 ((3 : Int32) * (X_waiting_385 - (1 : Int32))).toNatClampNeg)), (0, .ref aX), (1, .int q275.1), (2, .int ((1 : Int32) <<< (q275.1 &&& 31)))]) hx hb d_M_read_121 rfl hl (by decide) rfl (fun ls hl => ?_)
                refine lv_aload_n hx hb d_M_read_122 rfl (lv_at hl 1 rfl) ?_
                refine gf_M_25 (v := .ref aXpile) hx hb hts hown hK hP hN_X rfl d_M_read_123 ?_
                refine lv_iconst (v := 3) hx hb d_M_read_126 (by decide) ?_
                refine lv_aload_n hx hb d_M_read_127 rfl (lv_at hl 1 rfl) ?_
                refine gf_M_114 (v := .int (X_waiting_385 - (1 : Int32))) hx hb hts hown hK hP hN_X rfl d_M_read_128 ?_
                refine lv_imul hx hb d_M_read_131 ?_
                refine lv_iconst (v := 1) hx hb d_M_read_132 (by decide) ?_
                refine lv_iadd hx hb d_M_read_133 ?_
                obtain ⟨hin, hf⟩ := z_no hf
                refine va_iald hx hb hK hP _ 0 hN_Xpile rfl hin d_M_read_134 ?_
                refine lv_istore (lv' := [(4, .int (Xpile_f_387 (((3 : Int32) * (X_waiting_385 - (1 : Int32))) + (1 : Int32)).toNatClampNeg)), (3, .int (Xpile_f_387 ((3 : Int32) * (X_waiting_385 - (1 : Int32))).toNatClampNeg)), (0, .ref aX), (1, .int q275.1), (2, .int ((1 : Int32) <<< (q275.1 &&& 31)))]) hx hb d_M_read_135 hl (by decide) rfl (fun ls hl => ?_)
                refine lv_aload_n hx hb d_M_read_137 rfl (lv_at hl 2 rfl) ?_
                refine gf_M_25 (v := .ref aXpile) hx hb hts hown hK hP hN_X rfl d_M_read_138 ?_
                refine lv_iconst (v := 3) hx hb d_M_read_141 (by decide) ?_
                refine lv_aload_n hx hb d_M_read_142 rfl (lv_at hl 2 rfl) ?_
                refine gf_M_114 (v := .int (X_waiting_385 - (1 : Int32))) hx hb hts hown hK hP hN_X rfl d_M_read_143 ?_
                refine lv_imul hx hb d_M_read_146 ?_
                refine lv_iconst (v := 2) hx hb d_M_read_147 (by decide) ?_
                refine lv_iadd hx hb d_M_read_148 ?_
                obtain ⟨hin, hf⟩ := z_no hf
                refine va_iald hx hb hK hP _ 0 hN_Xpile rfl hin d_M_read_149 ?_
                refine lv_istore (lv' := [(5, .int (Xpile_f_387 (((3 : Int32) * (X_waiting_385 - (1 : Int32))) + (2 : Int32)).toNatClampNeg)), (4, .int (Xpile_f_387 (((3 : Int32) * (X_waiting_385 - (1 : Int32))) + (1 : Int32)).toNatClampNeg)), (3, .int (Xpile_f_387 ((3 : Int32) * (X_waiting_385 - (1 : Int32))).toNatClampNeg)), (0, .ref aX), (1, .int q275.1), (2, .int ((1 : Int32) <<< (q275.1 &&& 31)))]) hx hb d_M_read_150 hl (by decide) rfl (fun ls hl => ?_)
                refine lv_iload hx hb d_M_read_152 (lv_at hl 0 rfl) ?_
                refine lv_iload_n hx hb d_M_read_154 rfl (lv_at hl 5 rfl) ?_
                refine lv_icmp_le (tgt := 179) hx hb d_M_read_155 (by decide) (fun hc => ?_) (fun hc => ?_)
                · have hf := z_t hc hf
                  refine lv_aload_n hx hb d_M_read_179 rfl (lv_at hl 3 rfl) ?_
                  refine lv_iload_n hx hb d_M_read_180 rfl (lv_at hl 2 rfl) ?_
                  refine lv_iload hx hb d_M_read_181 (lv_at hl 1 rfl) ?_
                  refine lv_iload hx hb d_M_read_183 (lv_at hl 0 rfl) ?_
                  obtain ⟨q390, hc, hf⟩ := z_b hf
                  have hFc := z_free hD hS hA
                  refine va_callv (va_runV (As := [.int (Xpile_f_387 ((3 : Int32) * (X_waiting_385 - (1 : Int32))).toNatClampNeg), .int (Xpile_f_387 (((3 : Int32) * (X_waiting_385 - (1 : Int32))) + (1 : Int32)).toNatClampNeg), .int (Xpile_f_387 (((3 : Int32) * (X_waiting_385 - (1 : Int32))) + (2 : Int32)).toNatClampNeg)]) (rest := []) ⟨hx, hb, hml, hown, hts⟩ (c_M_readBlock l dC dI cI cL _ (Xpile_f_387 ((3 : Int32) * (X_waiting_385 - (1 : Int32))).toNatClampNeg) (Xpile_f_387 (((3 : Int32) * (X_waiting_385 - (1 : Int32))) + (1 : Int32)).toNatClampNeg) (Xpile_f_387 (((3 : Int32) * (X_waiting_385 - (1 : Int32))) + (2 : Int32)).toNatClampNeg) hN_X hN_Xblocks hN_Xfed hN_Xbest q390 hc) (cw_M_180 hts ⟨Nat.le_of_ble_eq_true rfl, Nat.le_of_ble_eq_true rfl⟩) ⟨zbM, va_recv hK hP (ci := 7) rfl hN_X, (zpM hP hK hZ hD)⟩ rfl rfl hl.1 rfl (lv_room (Nat.le_of_ble_eq_true rfl)) d_M_read_185 ⟨Nat.zero_le _, Nat.zero_le _⟩) hS (fun q _ h => hFc q h) hFc (fun ws t H locs ht hvm hu hB hz1 hk1 hS => ?_)
                  obtain ⟨hN_X, hN_Xblocks, hN_Xbest, hfr⟩ := hu
                  obtain ⟨hP, -, hD1⟩ := hB
                  rw [ht] at hP
                  have hD := hD1.weaken (fun _ _ _ h => hFc _ h)
                  have hN_X : ws[21]? = some (aX, .inr (7, [.int (0 : Int32), .int X_side, .ref aXpicture, .ref aXhalf, .int X_many, .ref aXblocks, .int q390.1, .int X_encodedBits, .ref aXencoded, .int X_fedMany, .ref aXfed, .int q390.2.1, .int q390.2.2.1, .int X_tried, .int (X_waiting_385 - (1 : Int32)), .ref aXpile, .int X_decoded, .ref aXnews, .ref aXolds, .ref aXhalves, .ref aXds, .ref aXrs, .ref aXbest, .long X_bestError])) := hN_X
                  have hN_Xblocks : ws[24]? = some (aXblocks, .inl (cI, Xblocks_n, .inl q390.2.2.2.1)) := hN_Xblocks
                  have hN_Xbest : ws[33]? = some (aXbest, .inl (cI, Xbest_n, .inl q390.2.2.2.2)) := hN_Xbest
                  have hN_Xfed := (hfr _ (by decide)).trans hN_Xfed
                  have hN_Xpile := (hfr _ (by decide)).trans hN_Xpile
                  have hw := z_frC (by decide) hw hfr
                  refine lv_goto (tgt := 86) hx hb d_M_read_188 (by decide) ?_
                  exact ih q390.1 q390.2.1 q390.2.2.1 (X_waiting_385 - (1 : Int32)) q390.2.2.2.1 Xpile_f_387 q390.2.2.2.2 _ _ _ ls _ hf (lv_sub hl [3, 4, 5] rfl) hP hD hS hN_X hN_Xblocks hN_Xfed hN_Xpile hN_Xbest hw kt0
                · have hf := z_f hc hf
                  refine lv_aload_n hx hb d_M_read_158 rfl (lv_at hl 3 rfl) ?_
                  refine lv_iconst (v := 1) hx hb d_M_read_159 (by decide) ?_
                  obtain ⟨q391, hc, hf⟩ := z_b hf
                  have hFc := z_free hD hS hA
                  refine va_calli (va_runV (As := [.int (1 : Int32)]) (rest := []) ⟨hx, hb, hml, hown, hts⟩ (c_M_take l dC dI cI cL _ (1 : Int32) hN_X hN_Xfed q391 hc) (cw_M_175 hts ⟨Nat.le_of_ble_eq_true rfl, Nat.le_of_ble_eq_true rfl⟩) ⟨zbM, va_recv hK hP (ci := 7) rfl hN_X, (zpM hP hK hZ hD)⟩ rfl rfl hl.1 rfl (lv_room (Nat.le_of_ble_eq_true rfl)) d_M_read_160 ⟨Nat.zero_le _, Nat.zero_le _⟩) hS (fun q _ h => hFc q h) hFc (fun rv ws t H locs ht hvm hu hB hz1 hk1 hS => ?_)
                  obtain ⟨hv, hN_X, hfr⟩ := hu
                  subst hv
                  obtain ⟨hP, -, hD1⟩ := hB
                  rw [ht] at hP
                  have hD := hD1.weaken (fun _ _ _ h => hFc _ h)
                  have hN_X : ws[21]? = some (aX, .inr (7, [.int (0 : Int32), .int X_side, .ref aXpicture, .ref aXhalf, .int X_many, .ref aXblocks, .int X_found_382, .int X_encodedBits, .ref aXencoded, .int X_fedMany, .ref aXfed, .int q391.2.1, .int q391.2.2, .int X_tried, .int (X_waiting_385 - (1 : Int32)), .ref aXpile, .int X_decoded, .ref aXnews, .ref aXolds, .ref aXhalves, .ref aXds, .ref aXrs, .ref aXbest, .long X_bestError])) := hN_X
                  have hN_Xblocks := (hfr _ (by decide)).trans hN_Xblocks
                  have hN_Xfed := (hfr _ (by decide)).trans hN_Xfed
                  have hN_Xpile := (hfr _ (by decide)).trans hN_Xpile
                  have hN_Xbest := (hfr _ (by decide)).trans hN_Xbest
                  have hw := z_frC (by decide) hw hfr
                  refine lv_iconst (v := 1) hx hb d_M_read_163 (by decide) ?_
                  refine lv_icmp_ne (tgt := 179) hx hb d_M_read_164 (by decide) (fun hc => ?_) (fun hc => ?_)
                  · have hf := z_f hc hf
                    refine lv_aload_n hx hb d_M_read_179 rfl (lv_at hl 3 rfl) ?_
                    refine lv_iload_n hx hb d_M_read_180 rfl (lv_at hl 2 rfl) ?_
                    refine lv_iload hx hb d_M_read_181 (lv_at hl 1 rfl) ?_
                    refine lv_iload hx hb d_M_read_183 (lv_at hl 0 rfl) ?_
                    obtain ⟨q392, hc, hf⟩ := z_b hf
                    have hFc := z_free hD hS hA
                    refine va_callv (va_runV (As := [.int (Xpile_f_387 ((3 : Int32) * (X_waiting_385 - (1 : Int32))).toNatClampNeg), .int (Xpile_f_387 (((3 : Int32) * (X_waiting_385 - (1 : Int32))) + (1 : Int32)).toNatClampNeg), .int (Xpile_f_387 (((3 : Int32) * (X_waiting_385 - (1 : Int32))) + (2 : Int32)).toNatClampNeg)]) (rest := []) ⟨hx, hb, hml, hown, hts⟩ (c_M_readBlock l dC dI cI cL _ (Xpile_f_387 ((3 : Int32) * (X_waiting_385 - (1 : Int32))).toNatClampNeg) (Xpile_f_387 (((3 : Int32) * (X_waiting_385 - (1 : Int32))) + (1 : Int32)).toNatClampNeg) (Xpile_f_387 (((3 : Int32) * (X_waiting_385 - (1 : Int32))) + (2 : Int32)).toNatClampNeg) hN_X hN_Xblocks hN_Xfed hN_Xbest q392 hc) (cw_M_180 hts ⟨Nat.le_of_ble_eq_true rfl, Nat.le_of_ble_eq_true rfl⟩) ⟨zbM, va_recv hK hP (ci := 7) rfl hN_X, (zpM hP hK hZ hD)⟩ rfl rfl hl.1 rfl (lv_room (Nat.le_of_ble_eq_true rfl)) d_M_read_185 ⟨Nat.zero_le _, Nat.zero_le _⟩) hS (fun q _ h => hFc q h) hFc (fun ws t H locs ht hvm hu hB hz1 hk1 hS => ?_)
                    obtain ⟨hN_X, hN_Xblocks, hN_Xbest, hfr⟩ := hu
                    obtain ⟨hP, -, hD1⟩ := hB
                    rw [ht] at hP
                    have hD := hD1.weaken (fun _ _ _ h => hFc _ h)
                    have hN_X : ws[21]? = some (aX, .inr (7, [.int (0 : Int32), .int X_side, .ref aXpicture, .ref aXhalf, .int X_many, .ref aXblocks, .int q392.1, .int X_encodedBits, .ref aXencoded, .int X_fedMany, .ref aXfed, .int q392.2.1, .int q392.2.2.1, .int X_tried, .int (X_waiting_385 - (1 : Int32)), .ref aXpile, .int X_decoded, .ref aXnews, .ref aXolds, .ref aXhalves, .ref aXds, .ref aXrs, .ref aXbest, .long X_bestError])) := hN_X
                    have hN_Xblocks : ws[24]? = some (aXblocks, .inl (cI, Xblocks_n, .inl q392.2.2.2.1)) := hN_Xblocks
                    have hN_Xbest : ws[33]? = some (aXbest, .inl (cI, Xbest_n, .inl q392.2.2.2.2)) := hN_Xbest
                    have hN_Xfed := (hfr _ (by decide)).trans hN_Xfed
                    have hN_Xpile := (hfr _ (by decide)).trans hN_Xpile
                    have hw := z_frC (by decide) hw hfr
                    refine lv_goto (tgt := 86) hx hb d_M_read_188 (by decide) ?_
                    exact ih q392.1 q392.2.1 q392.2.2.1 (X_waiting_385 - (1 : Int32)) q392.2.2.2.1 Xpile_f_387 q392.2.2.2.2 _ _ _ ls _ hf (lv_sub hl [3, 4, 5] rfl) hP hD hS hN_X hN_Xblocks hN_Xfed hN_Xpile hN_Xbest hw kt0
                  · have hf := z_t hc hf
                    refine lv_aload_n hx hb d_M_read_167 rfl (lv_at hl 3 rfl) ?_
                    refine lv_iload_n hx hb d_M_read_168 rfl (lv_at hl 2 rfl) ?_
                    refine lv_iload hx hb d_M_read_169 (lv_at hl 1 rfl) ?_
                    refine lv_iload hx hb d_M_read_171 (lv_at hl 0 rfl) ?_
                    obtain ⟨q393, hc, hf⟩ := z_b hf
                    have hFc := z_free hD hS hA
                    refine va_callv (va_runV (As := [.int (Xpile_f_387 ((3 : Int32) * (X_waiting_385 - (1 : Int32))).toNatClampNeg), .int (Xpile_f_387 (((3 : Int32) * (X_waiting_385 - (1 : Int32))) + (1 : Int32)).toNatClampNeg), .int (Xpile_f_387 (((3 : Int32) * (X_waiting_385 - (1 : Int32))) + (2 : Int32)).toNatClampNeg)]) (rest := []) ⟨hx, hb, hml, hown, hts⟩ (c_M_pileQuarters l dC dI cI cL _ (Xpile_f_387 ((3 : Int32) * (X_waiting_385 - (1 : Int32))).toNatClampNeg) (Xpile_f_387 (((3 : Int32) * (X_waiting_385 - (1 : Int32))) + (1 : Int32)).toNatClampNeg) (Xpile_f_387 (((3 : Int32) * (X_waiting_385 - (1 : Int32))) + (2 : Int32)).toNatClampNeg) hN_X hN_Xpile q393 hc) (cw_M_141 hts ⟨Nat.le_of_ble_eq_true rfl, Nat.le_of_ble_eq_true rfl⟩) ⟨zbM, va_recv hK hP (ci := 7) rfl hN_X, (zpM hP hK hZ hD)⟩ rfl rfl hl.1 rfl (lv_room (Nat.le_of_ble_eq_true rfl)) d_M_read_173 ⟨Nat.zero_le _, Nat.zero_le _⟩) hS (fun q _ h => hFc q h) hFc (fun ws t H locs ht hvm hu hB hz1 hk1 hS => ?_)
                    obtain ⟨hN_X, hN_Xpile, hfr⟩ := hu
                    obtain ⟨hP, -, hD1⟩ := hB
                    rw [ht] at hP
                    have hD := hD1.weaken (fun _ _ _ h => hFc _ h)
                    have hN_X : ws[21]? = some (aX, .inr (7, [.int (0 : Int32), .int X_side, .ref aXpicture, .ref aXhalf, .int X_many, .ref aXblocks, .int X_found_382, .int X_encodedBits, .ref aXencoded, .int X_fedMany, .ref aXfed, .int q391.2.1, .int q391.2.2, .int X_tried, .int q393.1, .ref aXpile, .int X_decoded, .ref aXnews, .ref aXolds, .ref aXhalves, .ref aXds, .ref aXrs, .ref aXbest, .long X_bestError])) := hN_X
                    have hN_Xpile : ws[27]? = some (aXpile, .inl (cI, Xpile_n, .inl q393.2)) := hN_Xpile
                    have hN_Xblocks := (hfr _ (by decide)).trans hN_Xblocks
                    have hN_Xfed := (hfr _ (by decide)).trans hN_Xfed
                    have hN_Xbest := (hfr _ (by decide)).trans hN_Xbest
                    have hw := z_frC (by decide) hw hfr
                    refine lv_goto (tgt := 188) hx hb d_M_read_176 (by decide) ?_
                    refine lv_goto (tgt := 86) hx hb d_M_read_188 (by decide) ?_
                    exact ih X_found_382 q391.2.1 q391.2.2 q393.1 Xblocks_f_386 q393.2 Xbest_f_388 _ _ _ ls _ hf (lv_sub hl [3, 4, 5] rfl) hP hD hS hN_X hN_Xblocks hN_Xfed hN_Xpile hN_Xbest hw kt0
        obtain ⟨q381, hc, hf⟩ := z_b hf
        refine lp389 _ FU (0 : Int32) q275.2.1 (0 : Int32) q380.1 Xblocks_f q380.2 Xbest_f _ _ _ ls q381 hc (lv_sub hl [2, 1, 0] rfl) hP hD hS hN_X hN_Xblocks hN_Xfed hN_Xpile hN_Xbest hw (fun ws H locs ls hl hP hD hS hN_X hN_Xblocks hN_Xfed hN_Xpile hN_Xbest hw => ?_)
        refine lv_bipush (v := 8) hx hb d_M_read_191 (by decide) ?_
        refine lv_aload_n hx hb d_M_read_193 rfl (lv_at hl 0 rfl) ?_
        refine gf_M_163 (v := .int X_fedMany) hx hb hts hown hK hP hN_X rfl d_M_read_194 ?_
        refine lv_imul hx hb d_M_read_197 ?_
        refine lv_aload_n hx hb d_M_read_198 rfl (lv_at hl 0 rfl) ?_
        refine gf_M_169 (v := .int q381.2.1) hx hb hts hown hK hP hN_X rfl d_M_read_199 ?_
        refine lv_isub hx hb d_M_read_202 ?_
        refine lv_bipush (v := 7) hx hb d_M_read_203 (by decide) ?_
        refine lv_icmp_le (tgt := 212) hx hb d_M_read_205 (by decide) (fun hc => ?_) (fun hc => ?_)
        · have hf := z_t hc hf
          refine lv_iconst (v := 0) hx hb d_M_read_212 (by decide) ?_
          refine lv_istore_n (lv' := [(3, .int (0 : Int32)), (0, .ref aX), (1, .int q275.1), (2, .int ((1 : Int32) <<< (q275.1 &&& 31)))]) hx hb d_M_read_213 rfl hl (by decide) rfl (fun ls hl => ?_)
          refine lv_aload_n hx hb d_M_read_214 rfl (lv_at hl 1 rfl) ?_
          refine gf_M_169 (v := .int q381.2.1) hx hb hts hown hK hP hN_X rfl d_M_read_215 ?_
          refine lv_istore (lv' := [(4, .int q381.2.1), (3, .int (0 : Int32)), (0, .ref aX), (1, .int q275.1), (2, .int ((1 : Int32) <<< (q275.1 &&& 31)))]) hx hb d_M_read_218 hl (by decide) rfl (fun ls hl => ?_)
          have lp397 : ∀ (Qx : State → Prop) (n : Nat) (v3_395 : Int32) (v4_396 : Int32) (ls : Array Slot) (q : Int32 × Int32) (hf : f_M_read_220 q275.1 ((1 : Int32) <<< (q275.1 &&& 31)) X_fedMany q381.2.2.1 Xfed_n Xfed_f n v3_395 v4_396 = some q) (hl : lv_has ls 6 [(0, .ref aX), (1, .int q275.1), (2, .int ((1 : Int32) <<< (q275.1 &&& 31))), (3, .int v3_395), (4, .int v4_396)]) (kt0 : ∀ (ls : Array Slot), lv_has ls 6 [(0, .ref aX), (1, .int q275.1), (2, .int ((1 : Int32) <<< (q275.1 &&& 31))), (3, .int q.1), (4, .int q.2)] → W p l e (headSpec w_M_read rm_M_read).room s m ([.ref aX] : List Value).toArray below meth c H locs 0 0 Qx (F0 m 265 ls [])), W p l e (headSpec w_M_read rm_M_read).room s m ([.ref aX] : List Value).toArray below meth c H locs 0 0 Qx (F0 m 220 ls []) := by
            intro Qx n
            induction n with
            | zero => intro v3_395 v4_396 ls q hf; cases hf
            | succ n ih =>
              intro v3_395 v4_396 ls q hf hl kt0
              rw [f_M_read_220] at hf
              refine lv_iload hx hb d_M_read_220 (lv_at hl 4 rfl) ?_
              refine lv_bipush (v := 8) hx hb d_M_read_222 (by decide) ?_
              refine lv_aload_n hx hb d_M_read_224 rfl (lv_at hl 0 rfl) ?_
              refine gf_M_163 (v := .int X_fedMany) hx hb hts hown hK hP hN_X rfl d_M_read_225 ?_
              refine lv_imul hx hb d_M_read_228 ?_
              refine lv_icmp_ge (tgt := 265) hx hb d_M_read_229 (by decide) (fun hc => ?_) (fun hc => ?_)
              · have hf := z_t hc hf
                obtain rfl := Option.some.inj hf
                exact kt0 ls (lv_sub hl [0, 1, 2, 3, 4] rfl)
              · have hf := z_f hc hf
                refine lv_aload_n hx hb d_M_read_232 rfl (lv_at hl 0 rfl) ?_
                refine gf_M_166 (v := .int q381.2.2.1) hx hb hts hown hK hP hN_X rfl d_M_read_233 ?_
                refine lv_if_ge (tgt := 265) hx hb d_M_read_236 (by decide) (fun hc => ?_) (fun hc => ?_)
                · have hf := z_t hc hf
                  obtain rfl := Option.some.inj hf
                  exact kt0 ls (lv_sub hl [0, 1, 2, 3, 4] rfl)
                · have hf := z_f hc hf
                  refine lv_iload_n hx hb d_M_read_239 rfl (lv_at hl 3 rfl) ?_
                  refine lv_if_ne (tgt := 253) hx hb d_M_read_240 (by decide) (fun hc => ?_) (fun hc => ?_)
                  · have hf := z_f hc hf
                    refine lv_iconst (v := 1) hx hb d_M_read_253 (by decide) ?_
                    refine lv_goto (tgt := 258) hx hb d_M_read_254 (by decide) ?_
                    refine lv_istore_n (lv' := [(3, .int (1 : Int32)), (0, .ref aX), (1, .int q275.1), (2, .int ((1 : Int32) <<< (q275.1 &&& 31))), (4, .int v4_396)]) hx hb d_M_read_258 rfl hl (by decide) rfl (fun ls hl => ?_)
                    refine lv_iinc (v := (v4_396 + 1)) (lv' := [(4, .int (v4_396 + 1)), (3, .int (1 : Int32)), (0, .ref aX), (1, .int q275.1), (2, .int ((1 : Int32) <<< (q275.1 &&& 31)))]) hx hb d_M_read_259 hl (k := 4) rfl rfl (by decide) rfl (fun ls hl => ?_)
                    refine lv_goto (tgt := 220) hx hb d_M_read_262 (by decide) ?_
                    exact ih (1 : Int32) (v4_396 + 1) ls _ hf (lv_sub hl [2, 3, 4, 1, 0] rfl) kt0
                  · have hf := z_t hc hf
                    refine lv_aload_n hx hb d_M_read_243 rfl (lv_at hl 0 rfl) ?_
                    refine lv_iload hx hb d_M_read_244 (lv_at hl 4 rfl) ?_
                    obtain ⟨q398, hc, hf⟩ := z_b hf
                    refine vp_callSi (z_cr (va_runV (As := [.int v4_396]) (rest := []) ⟨hx, hb, hml, hown, hts⟩ (c_M_bitAt l dC dI cI cL v4_396 hN_X hN_Xfed q398 hc) (cw_M_172 hts ⟨Nat.le_of_ble_eq_true rfl, Nat.le_of_ble_eq_true rfl⟩) ⟨zbR, va_recv hK hP (ci := 7) rfl hN_X, (zpR hP hK hZ)⟩ rfl rfl hl.1 rfl (lv_room (Nat.le_of_ble_eq_true rfl)) d_M_read_246 ⟨Nat.zero_le _, Nat.zero_le _⟩)) (fun r399 hv => ?_)
                    have hv := hv.symm
                    subst hv
                    refine lv_iconst (v := 1) hx hb d_M_read_249 (by decide) ?_
                    refine lv_icmp_ne (tgt := 257) hx hb d_M_read_250 (by decide) (fun hc => ?_) (fun hc => ?_)
                    · have hf := z_f hc hf
                      refine lv_iconst (v := 0) hx hb d_M_read_257 (by decide) ?_
                      refine lv_istore_n (lv' := [(3, .int (0 : Int32)), (0, .ref aX), (1, .int q275.1), (2, .int ((1 : Int32) <<< (q275.1 &&& 31))), (4, .int v4_396)]) hx hb d_M_read_258 rfl hl (by decide) rfl (fun ls hl => ?_)
                      refine lv_iinc (v := (v4_396 + 1)) (lv' := [(4, .int (v4_396 + 1)), (3, .int (0 : Int32)), (0, .ref aX), (1, .int q275.1), (2, .int ((1 : Int32) <<< (q275.1 &&& 31)))]) hx hb d_M_read_259 hl (k := 4) rfl rfl (by decide) rfl (fun ls hl => ?_)
                      refine lv_goto (tgt := 220) hx hb d_M_read_262 (by decide) ?_
                      exact ih (0 : Int32) (v4_396 + 1) ls _ hf (lv_sub hl [2, 3, 4, 1, 0] rfl) kt0
                    · have hf := z_t hc hf
                      refine lv_iconst (v := 1) hx hb d_M_read_253 (by decide) ?_
                      refine lv_goto (tgt := 258) hx hb d_M_read_254 (by decide) ?_
                      refine lv_istore_n (lv' := [(3, .int (1 : Int32)), (0, .ref aX), (1, .int q275.1), (2, .int ((1 : Int32) <<< (q275.1 &&& 31))), (4, .int v4_396)]) hx hb d_M_read_258 rfl hl (by decide) rfl (fun ls hl => ?_)
                      refine lv_iinc (v := (v4_396 + 1)) (lv' := [(4, .int (v4_396 + 1)), (3, .int (1 : Int32)), (0, .ref aX), (1, .int q275.1), (2, .int ((1 : Int32) <<< (q275.1 &&& 31)))]) hx hb d_M_read_259 hl (k := 4) rfl rfl (by decide) rfl (fun ls hl => ?_)
                      refine lv_goto (tgt := 220) hx hb d_M_read_262 (by decide) ?_
                      exact ih (1 : Int32) (v4_396 + 1) ls _ hf (lv_sub hl [2, 3, 4, 1, 0] rfl) kt0
          obtain ⟨q394, hc, hf⟩ := z_b hf
          refine lp397 _ FU (0 : Int32) q381.2.1 ls q394 hc (lv_sub hl [2, 3, 4, 1, 0] rfl) (fun ls hl => ?_)
          refine lv_aload_n hx hb d_M_read_265 rfl (lv_at hl 0 rfl) ?_
          refine lv_aload_n hx hb d_M_read_266 rfl (lv_at hl 0 rfl) ?_
          refine gf_M_166 (v := .int q381.2.2.1) hx hb hts hown hK hP hN_X rfl d_M_read_267 ?_
          refine lv_if_ge (tgt := 281) hx hb d_M_read_270 (by decide) (fun hc => ?_) (fun hc => ?_)
          · have hf := z_t hc hf
            refine lv_aload_n hx hb d_M_read_281 rfl (lv_at hl 0 rfl) ?_
            refine gf_M_166 (v := .int q381.2.2.1) hx hb hts hown hK hP hN_X rfl d_M_read_282 ?_
            refine pf_M_166 (v := .int q381.2.2.1) hx hb hts hown hK hP hD hS hN_X rfl rfl (Nat.le_of_ble_eq_true rfl) d_M_read_285 (fun ws H locs hP hD hS hN_X hfr => ?_)
            have hN_X : ws[21]? = some (aX, .inr (7, [.int (0 : Int32), .int X_side, .ref aXpicture, .ref aXhalf, .int X_many, .ref aXblocks, .int q381.1, .int X_encodedBits, .ref aXencoded, .int X_fedMany, .ref aXfed, .int q381.2.1, .int q381.2.2.1, .int X_tried, .int q381.2.2.2.1, .ref aXpile, .int X_decoded, .ref aXnews, .ref aXolds, .ref aXhalves, .ref aXds, .ref aXrs, .ref aXbest, .long X_bestError])) := hN_X
            have hN_Xblocks := (hfr _ (by decide)).trans hN_Xblocks
            have hN_Xfed := (hfr _ (by decide)).trans hN_Xfed
            have hN_Xpile := (hfr _ (by decide)).trans hN_Xpile
            have hN_Xbest := (hfr _ (by decide)).trans hN_Xbest
            have hw := z_fr (by decide) hw hfr
            refine lv_aload_n hx hb d_M_read_288 rfl (lv_at hl 0 rfl) ?_
            refine lv_iconst (v := 0) hx hb d_M_read_289 (by decide) ?_
            refine pf_M_163 (v := .int (0 : Int32)) hx hb hts hown hK hP hD hS hN_X rfl rfl (Nat.le_of_ble_eq_true rfl) d_M_read_290 (fun ws H locs hP hD hS hN_X hfr => ?_)
            have hN_X : ws[21]? = some (aX, .inr (7, [.int (0 : Int32), .int X_side, .ref aXpicture, .ref aXhalf, .int X_many, .ref aXblocks, .int q381.1, .int X_encodedBits, .ref aXencoded, .int (0 : Int32), .ref aXfed, .int q381.2.1, .int q381.2.2.1, .int X_tried, .int q381.2.2.2.1, .ref aXpile, .int X_decoded, .ref aXnews, .ref aXolds, .ref aXhalves, .ref aXds, .ref aXrs, .ref aXbest, .long X_bestError])) := hN_X
            have hN_Xblocks := (hfr _ (by decide)).trans hN_Xblocks
            have hN_Xfed := (hfr _ (by decide)).trans hN_Xfed
            have hN_Xpile := (hfr _ (by decide)).trans hN_Xpile
            have hN_Xbest := (hfr _ (by decide)).trans hN_Xbest
            have hw := z_fr (by decide) hw hfr
            refine lv_aload_n hx hb d_M_read_293 rfl (lv_at hl 0 rfl) ?_
            refine gf_M_166 (v := .int q381.2.2.1) hx hb hts hown hK hP hN_X rfl d_M_read_294 ?_
            refine lv_if_lt (tgt := 307) hx hb d_M_read_297 (by decide) (fun hc => ?_) (fun hc => ?_)
            · have hf := z_t hc hf
              refine lv_aload_n hx hb d_M_read_307 rfl (lv_at hl 0 rfl) ?_
              obtain ⟨q400, hc, hf⟩ := z_b hf
              have hFc := z_free hD hS hA
              refine va_callv (va_runV (As := []) (rest := []) ⟨hx, hb, hml, hown, hts⟩ (c_M_takeFound l dC dI cI cL _ hN_X hN_Xblocks q400 hc) (cw_M_154 hts ⟨Nat.le_of_ble_eq_true rfl, Nat.le_of_ble_eq_true rfl⟩) ⟨zbM, va_recv hK hP (ci := 7) rfl hN_X, (zpM hP hK hZ hD)⟩ rfl rfl hl.1 rfl (lv_room (Nat.le_of_ble_eq_true rfl)) d_M_read_308 ⟨Nat.zero_le _, Nat.zero_le _⟩) hS (fun q _ h => hFc q h) hFc (fun ws t H locs ht hvm hu hB hz1 hk1 hS => ?_)
              obtain ⟨hN_X, hN_Xblocks, hfr⟩ := hu
              obtain ⟨hP, -, hD1⟩ := hB
              rw [ht] at hP
              have hD := hD1.weaken (fun _ _ _ h => hFc _ h)
              have hN_X : ws[21]? = some (aX, .inr (7, [.int (0 : Int32), .int X_side, .ref aXpicture, .ref aXhalf, .int q400.1, .ref aXblocks, .int q381.1, .int X_encodedBits, .ref aXencoded, .int (0 : Int32), .ref aXfed, .int q381.2.1, .int q381.2.2.1, .int X_tried, .int q381.2.2.2.1, .ref aXpile, .int X_decoded, .ref aXnews, .ref aXolds, .ref aXhalves, .ref aXds, .ref aXrs, .ref aXbest, .long X_bestError])) := hN_X
              have hN_Xblocks : ws[24]? = some (aXblocks, .inl (cI, Xblocks_n, .inl q400.2)) := hN_Xblocks
              have hN_Xfed := (hfr _ (by decide)).trans hN_Xfed
              have hN_Xpile := (hfr _ (by decide)).trans hN_Xpile
              have hN_Xbest := (hfr _ (by decide)).trans hN_Xbest
              have hw := z_frC (by decide) hw hfr
              refine lv_aload_n hx hb d_M_read_311 rfl (lv_at hl 0 rfl) ?_
              refine gf_M_123 (v := .int q400.1) hx hb hts hown hK hP hN_X rfl d_M_read_312 ?_
              obtain rfl := Option.some.inj hf
              exact W.iret hx hb hr (fun t ht hW => ⟨⟨_, ws, rfl, ⟨rfl, hN_X, hN_Xblocks, hN_Xpile, hN_Xbest, hw⟩, by rw [ht]; exact hP, va_K.moved hW.alike hK, hD⟩, hS.F ht⟩) hS.2.2 d_M_read_315
            · have hf := z_f hc hf
              refine lv_iconst (v := (-1)) hx hb d_M_read_300 (by decide) ?_
              refine lv_aload_n hx hb d_M_read_301 rfl (lv_at hl 0 rfl) ?_
              refine gf_M_166 (v := .int q381.2.2.1) hx hb hts hown hK hP hN_X rfl d_M_read_302 ?_
              refine lv_isub hx hb d_M_read_305 ?_
              obtain rfl := Option.some.inj hf
              exact W.iret hx hb hr (fun t ht hW => ⟨⟨_, ws, rfl, ⟨rfl, hN_X, hN_Xblocks, hN_Xpile, hN_Xbest, hw⟩, by rw [ht]; exact hP, va_K.moved hW.alike hK, hD⟩, hS.F ht⟩) hS.2.2 d_M_read_306
          · have hf := z_f hc hf
            refine lv_iload_n hx hb d_M_read_273 rfl (lv_at hl 3 rfl) ?_
            refine lv_if_eq (tgt := 281) hx hb d_M_read_274 (by decide) (fun hc => ?_) (fun hc => ?_)
            · have hf := z_t hc hf
              refine lv_aload_n hx hb d_M_read_281 rfl (lv_at hl 0 rfl) ?_
              refine gf_M_166 (v := .int q381.2.2.1) hx hb hts hown hK hP hN_X rfl d_M_read_282 ?_
              refine pf_M_166 (v := .int q381.2.2.1) hx hb hts hown hK hP hD hS hN_X rfl rfl (Nat.le_of_ble_eq_true rfl) d_M_read_285 (fun ws H locs hP hD hS hN_X hfr => ?_)
              have hN_X : ws[21]? = some (aX, .inr (7, [.int (0 : Int32), .int X_side, .ref aXpicture, .ref aXhalf, .int X_many, .ref aXblocks, .int q381.1, .int X_encodedBits, .ref aXencoded, .int X_fedMany, .ref aXfed, .int q381.2.1, .int q381.2.2.1, .int X_tried, .int q381.2.2.2.1, .ref aXpile, .int X_decoded, .ref aXnews, .ref aXolds, .ref aXhalves, .ref aXds, .ref aXrs, .ref aXbest, .long X_bestError])) := hN_X
              have hN_Xblocks := (hfr _ (by decide)).trans hN_Xblocks
              have hN_Xfed := (hfr _ (by decide)).trans hN_Xfed
              have hN_Xpile := (hfr _ (by decide)).trans hN_Xpile
              have hN_Xbest := (hfr _ (by decide)).trans hN_Xbest
              have hw := z_fr (by decide) hw hfr
              refine lv_aload_n hx hb d_M_read_288 rfl (lv_at hl 0 rfl) ?_
              refine lv_iconst (v := 0) hx hb d_M_read_289 (by decide) ?_
              refine pf_M_163 (v := .int (0 : Int32)) hx hb hts hown hK hP hD hS hN_X rfl rfl (Nat.le_of_ble_eq_true rfl) d_M_read_290 (fun ws H locs hP hD hS hN_X hfr => ?_)
              have hN_X : ws[21]? = some (aX, .inr (7, [.int (0 : Int32), .int X_side, .ref aXpicture, .ref aXhalf, .int X_many, .ref aXblocks, .int q381.1, .int X_encodedBits, .ref aXencoded, .int (0 : Int32), .ref aXfed, .int q381.2.1, .int q381.2.2.1, .int X_tried, .int q381.2.2.2.1, .ref aXpile, .int X_decoded, .ref aXnews, .ref aXolds, .ref aXhalves, .ref aXds, .ref aXrs, .ref aXbest, .long X_bestError])) := hN_X
              have hN_Xblocks := (hfr _ (by decide)).trans hN_Xblocks
              have hN_Xfed := (hfr _ (by decide)).trans hN_Xfed
              have hN_Xpile := (hfr _ (by decide)).trans hN_Xpile
              have hN_Xbest := (hfr _ (by decide)).trans hN_Xbest
              have hw := z_fr (by decide) hw hfr
              refine lv_aload_n hx hb d_M_read_293 rfl (lv_at hl 0 rfl) ?_
              refine gf_M_166 (v := .int q381.2.2.1) hx hb hts hown hK hP hN_X rfl d_M_read_294 ?_
              refine lv_if_lt (tgt := 307) hx hb d_M_read_297 (by decide) (fun hc => ?_) (fun hc => ?_)
              · have hf := z_t hc hf
                refine lv_aload_n hx hb d_M_read_307 rfl (lv_at hl 0 rfl) ?_
                obtain ⟨q401, hc, hf⟩ := z_b hf
                have hFc := z_free hD hS hA
                refine va_callv (va_runV (As := []) (rest := []) ⟨hx, hb, hml, hown, hts⟩ (c_M_takeFound l dC dI cI cL _ hN_X hN_Xblocks q401 hc) (cw_M_154 hts ⟨Nat.le_of_ble_eq_true rfl, Nat.le_of_ble_eq_true rfl⟩) ⟨zbM, va_recv hK hP (ci := 7) rfl hN_X, (zpM hP hK hZ hD)⟩ rfl rfl hl.1 rfl (lv_room (Nat.le_of_ble_eq_true rfl)) d_M_read_308 ⟨Nat.zero_le _, Nat.zero_le _⟩) hS (fun q _ h => hFc q h) hFc (fun ws t H locs ht hvm hu hB hz1 hk1 hS => ?_)
                obtain ⟨hN_X, hN_Xblocks, hfr⟩ := hu
                obtain ⟨hP, -, hD1⟩ := hB
                rw [ht] at hP
                have hD := hD1.weaken (fun _ _ _ h => hFc _ h)
                have hN_X : ws[21]? = some (aX, .inr (7, [.int (0 : Int32), .int X_side, .ref aXpicture, .ref aXhalf, .int q401.1, .ref aXblocks, .int q381.1, .int X_encodedBits, .ref aXencoded, .int (0 : Int32), .ref aXfed, .int q381.2.1, .int q381.2.2.1, .int X_tried, .int q381.2.2.2.1, .ref aXpile, .int X_decoded, .ref aXnews, .ref aXolds, .ref aXhalves, .ref aXds, .ref aXrs, .ref aXbest, .long X_bestError])) := hN_X
                have hN_Xblocks : ws[24]? = some (aXblocks, .inl (cI, Xblocks_n, .inl q401.2)) := hN_Xblocks
                have hN_Xfed := (hfr _ (by decide)).trans hN_Xfed
                have hN_Xpile := (hfr _ (by decide)).trans hN_Xpile
                have hN_Xbest := (hfr _ (by decide)).trans hN_Xbest
                have hw := z_frC (by decide) hw hfr
                refine lv_aload_n hx hb d_M_read_311 rfl (lv_at hl 0 rfl) ?_
                refine gf_M_123 (v := .int q401.1) hx hb hts hown hK hP hN_X rfl d_M_read_312 ?_
                obtain rfl := Option.some.inj hf
                exact W.iret hx hb hr (fun t ht hW => ⟨⟨_, ws, rfl, ⟨rfl, hN_X, hN_Xblocks, hN_Xpile, hN_Xbest, hw⟩, by rw [ht]; exact hP, va_K.moved hW.alike hK, hD⟩, hS.F ht⟩) hS.2.2 d_M_read_315
              · have hf := z_f hc hf
                refine lv_iconst (v := (-1)) hx hb d_M_read_300 (by decide) ?_
                refine lv_aload_n hx hb d_M_read_301 rfl (lv_at hl 0 rfl) ?_
                refine gf_M_166 (v := .int q381.2.2.1) hx hb hts hown hK hP hN_X rfl d_M_read_302 ?_
                refine lv_isub hx hb d_M_read_305 ?_
                obtain rfl := Option.some.inj hf
                exact W.iret hx hb hr (fun t ht hW => ⟨⟨_, ws, rfl, ⟨rfl, hN_X, hN_Xblocks, hN_Xpile, hN_Xbest, hw⟩, by rw [ht]; exact hP, va_K.moved hW.alike hK, hD⟩, hS.F ht⟩) hS.2.2 d_M_read_306
            · have hf := z_f hc hf
              refine lv_iconst (v := 4) hx hb d_M_read_277 (by decide) ?_
              refine lv_goto (tgt := 285) hx hb d_M_read_278 (by decide) ?_
              refine pf_M_166 (v := .int (4 : Int32)) hx hb hts hown hK hP hD hS hN_X rfl rfl (Nat.le_of_ble_eq_true rfl) d_M_read_285 (fun ws H locs hP hD hS hN_X hfr => ?_)
              have hN_X : ws[21]? = some (aX, .inr (7, [.int (0 : Int32), .int X_side, .ref aXpicture, .ref aXhalf, .int X_many, .ref aXblocks, .int q381.1, .int X_encodedBits, .ref aXencoded, .int X_fedMany, .ref aXfed, .int q381.2.1, .int (4 : Int32), .int X_tried, .int q381.2.2.2.1, .ref aXpile, .int X_decoded, .ref aXnews, .ref aXolds, .ref aXhalves, .ref aXds, .ref aXrs, .ref aXbest, .long X_bestError])) := hN_X
              have hN_Xblocks := (hfr _ (by decide)).trans hN_Xblocks
              have hN_Xfed := (hfr _ (by decide)).trans hN_Xfed
              have hN_Xpile := (hfr _ (by decide)).trans hN_Xpile
              have hN_Xbest := (hfr _ (by decide)).trans hN_Xbest
              have hw := z_fr (by decide) hw hfr
              refine lv_aload_n hx hb d_M_read_288 rfl (lv_at hl 0 rfl) ?_
              refine lv_iconst (v := 0) hx hb d_M_read_289 (by decide) ?_
              refine pf_M_163 (v := .int (0 : Int32)) hx hb hts hown hK hP hD hS hN_X rfl rfl (Nat.le_of_ble_eq_true rfl) d_M_read_290 (fun ws H locs hP hD hS hN_X hfr => ?_)
              have hN_X : ws[21]? = some (aX, .inr (7, [.int (0 : Int32), .int X_side, .ref aXpicture, .ref aXhalf, .int X_many, .ref aXblocks, .int q381.1, .int X_encodedBits, .ref aXencoded, .int (0 : Int32), .ref aXfed, .int q381.2.1, .int (4 : Int32), .int X_tried, .int q381.2.2.2.1, .ref aXpile, .int X_decoded, .ref aXnews, .ref aXolds, .ref aXhalves, .ref aXds, .ref aXrs, .ref aXbest, .long X_bestError])) := hN_X
              have hN_Xblocks := (hfr _ (by decide)).trans hN_Xblocks
              have hN_Xfed := (hfr _ (by decide)).trans hN_Xfed
              have hN_Xpile := (hfr _ (by decide)).trans hN_Xpile
              have hN_Xbest := (hfr _ (by decide)).trans hN_Xbest
              have hw := z_fr (by decide) hw hfr
              refine lv_aload_n hx hb d_M_read_293 rfl (lv_at hl 0 rfl) ?_
              refine gf_M_166 (v := .int (4 : Int32)) hx hb hts hown hK hP hN_X rfl d_M_read_294 ?_
              refine lv_if_lt (tgt := 307) hx hb d_M_read_297 (by decide) (fun hc => ?_) (fun hc => ?_)
              · have hf := z_t hc hf
                refine lv_aload_n hx hb d_M_read_307 rfl (lv_at hl 0 rfl) ?_
                obtain ⟨q402, hc, hf⟩ := z_b hf
                have hFc := z_free hD hS hA
                refine va_callv (va_runV (As := []) (rest := []) ⟨hx, hb, hml, hown, hts⟩ (c_M_takeFound l dC dI cI cL _ hN_X hN_Xblocks q402 hc) (cw_M_154 hts ⟨Nat.le_of_ble_eq_true rfl, Nat.le_of_ble_eq_true rfl⟩) ⟨zbM, va_recv hK hP (ci := 7) rfl hN_X, (zpM hP hK hZ hD)⟩ rfl rfl hl.1 rfl (lv_room (Nat.le_of_ble_eq_true rfl)) d_M_read_308 ⟨Nat.zero_le _, Nat.zero_le _⟩) hS (fun q _ h => hFc q h) hFc (fun ws t H locs ht hvm hu hB hz1 hk1 hS => ?_)
                obtain ⟨hN_X, hN_Xblocks, hfr⟩ := hu
                obtain ⟨hP, -, hD1⟩ := hB
                rw [ht] at hP
                have hD := hD1.weaken (fun _ _ _ h => hFc _ h)
                have hN_X : ws[21]? = some (aX, .inr (7, [.int (0 : Int32), .int X_side, .ref aXpicture, .ref aXhalf, .int q402.1, .ref aXblocks, .int q381.1, .int X_encodedBits, .ref aXencoded, .int (0 : Int32), .ref aXfed, .int q381.2.1, .int (4 : Int32), .int X_tried, .int q381.2.2.2.1, .ref aXpile, .int X_decoded, .ref aXnews, .ref aXolds, .ref aXhalves, .ref aXds, .ref aXrs, .ref aXbest, .long X_bestError])) := hN_X
                have hN_Xblocks : ws[24]? = some (aXblocks, .inl (cI, Xblocks_n, .inl q402.2)) := hN_Xblocks
                have hN_Xfed := (hfr _ (by decide)).trans hN_Xfed
                have hN_Xpile := (hfr _ (by decide)).trans hN_Xpile
                have hN_Xbest := (hfr _ (by decide)).trans hN_Xbest
                have hw := z_frC (by decide) hw hfr
                refine lv_aload_n hx hb d_M_read_311 rfl (lv_at hl 0 rfl) ?_
                refine gf_M_123 (v := .int q402.1) hx hb hts hown hK hP hN_X rfl d_M_read_312 ?_
                obtain rfl := Option.some.inj hf
                exact W.iret hx hb hr (fun t ht hW => ⟨⟨_, ws, rfl, ⟨rfl, hN_X, hN_Xblocks, hN_Xpile, hN_Xbest, hw⟩, by rw [ht]; exact hP, va_K.moved hW.alike hK, hD⟩, hS.F ht⟩) hS.2.2 d_M_read_315
              · have hf := z_f hc hf
                refine lv_iconst (v := (-1)) hx hb d_M_read_300 (by decide) ?_
                refine lv_aload_n hx hb d_M_read_301 rfl (lv_at hl 0 rfl) ?_
                refine gf_M_166 (v := .int (4 : Int32)) hx hb hts hown hK hP hN_X rfl d_M_read_302 ?_
                refine lv_isub hx hb d_M_read_305 ?_
                obtain rfl := Option.some.inj hf
                exact W.iret hx hb hr (fun t ht hW => ⟨⟨_, ws, rfl, ⟨rfl, hN_X, hN_Xblocks, hN_Xpile, hN_Xbest, hw⟩, by rw [ht]; exact hP, va_K.moved hW.alike hK, hD⟩, hS.F ht⟩) hS.2.2 d_M_read_306
        · have hf := z_f hc hf
          refine lv_iconst (v := 1) hx hb d_M_read_208 (by decide) ?_
          refine lv_goto (tgt := 213) hx hb d_M_read_209 (by decide) ?_
          refine lv_istore_n (lv' := [(3, .int (1 : Int32)), (0, .ref aX), (1, .int q275.1), (2, .int ((1 : Int32) <<< (q275.1 &&& 31)))]) hx hb d_M_read_213 rfl hl (by decide) rfl (fun ls hl => ?_)
          refine lv_aload_n hx hb d_M_read_214 rfl (lv_at hl 1 rfl) ?_
          refine gf_M_169 (v := .int q381.2.1) hx hb hts hown hK hP hN_X rfl d_M_read_215 ?_
          refine lv_istore (lv' := [(4, .int q381.2.1), (3, .int (1 : Int32)), (0, .ref aX), (1, .int q275.1), (2, .int ((1 : Int32) <<< (q275.1 &&& 31)))]) hx hb d_M_read_218 hl (by decide) rfl (fun ls hl => ?_)
          have lp406 : ∀ (Qx : State → Prop) (n : Nat) (v3_404 : Int32) (v4_405 : Int32) (ls : Array Slot) (q : Int32 × Int32) (hf : f_M_read_220 q275.1 ((1 : Int32) <<< (q275.1 &&& 31)) X_fedMany q381.2.2.1 Xfed_n Xfed_f n v3_404 v4_405 = some q) (hl : lv_has ls 6 [(0, .ref aX), (1, .int q275.1), (2, .int ((1 : Int32) <<< (q275.1 &&& 31))), (3, .int v3_404), (4, .int v4_405)]) (kt0 : ∀ (ls : Array Slot), lv_has ls 6 [(0, .ref aX), (1, .int q275.1), (2, .int ((1 : Int32) <<< (q275.1 &&& 31))), (3, .int q.1), (4, .int q.2)] → W p l e (headSpec w_M_read rm_M_read).room s m ([.ref aX] : List Value).toArray below meth c H locs 0 0 Qx (F0 m 265 ls [])), W p l e (headSpec w_M_read rm_M_read).room s m ([.ref aX] : List Value).toArray below meth c H locs 0 0 Qx (F0 m 220 ls []) := by
            intro Qx n
            induction n with
            | zero => intro v3_404 v4_405 ls q hf; cases hf
            | succ n ih =>
              intro v3_404 v4_405 ls q hf hl kt0
              rw [f_M_read_220] at hf
              refine lv_iload hx hb d_M_read_220 (lv_at hl 4 rfl) ?_
              refine lv_bipush (v := 8) hx hb d_M_read_222 (by decide) ?_
              refine lv_aload_n hx hb d_M_read_224 rfl (lv_at hl 0 rfl) ?_
              refine gf_M_163 (v := .int X_fedMany) hx hb hts hown hK hP hN_X rfl d_M_read_225 ?_
              refine lv_imul hx hb d_M_read_228 ?_
              refine lv_icmp_ge (tgt := 265) hx hb d_M_read_229 (by decide) (fun hc => ?_) (fun hc => ?_)
              · have hf := z_t hc hf
                obtain rfl := Option.some.inj hf
                exact kt0 ls (lv_sub hl [0, 1, 2, 3, 4] rfl)
              · have hf := z_f hc hf
                refine lv_aload_n hx hb d_M_read_232 rfl (lv_at hl 0 rfl) ?_
                refine gf_M_166 (v := .int q381.2.2.1) hx hb hts hown hK hP hN_X rfl d_M_read_233 ?_
                refine lv_if_ge (tgt := 265) hx hb d_M_read_236 (by decide) (fun hc => ?_) (fun hc => ?_)
                · have hf := z_t hc hf
                  obtain rfl := Option.some.inj hf
                  exact kt0 ls (lv_sub hl [0, 1, 2, 3, 4] rfl)
                · have hf := z_f hc hf
                  refine lv_iload_n hx hb d_M_read_239 rfl (lv_at hl 3 rfl) ?_
                  refine lv_if_ne (tgt := 253) hx hb d_M_read_240 (by decide) (fun hc => ?_) (fun hc => ?_)
                  · have hf := z_f hc hf
                    refine lv_iconst (v := 1) hx hb d_M_read_253 (by decide) ?_
                    refine lv_goto (tgt := 258) hx hb d_M_read_254 (by decide) ?_
                    refine lv_istore_n (lv' := [(3, .int (1 : Int32)), (0, .ref aX), (1, .int q275.1), (2, .int ((1 : Int32) <<< (q275.1 &&& 31))), (4, .int v4_405)]) hx hb d_M_read_258 rfl hl (by decide) rfl (fun ls hl => ?_)
                    refine lv_iinc (v := (v4_405 + 1)) (lv' := [(4, .int (v4_405 + 1)), (3, .int (1 : Int32)), (0, .ref aX), (1, .int q275.1), (2, .int ((1 : Int32) <<< (q275.1 &&& 31)))]) hx hb d_M_read_259 hl (k := 4) rfl rfl (by decide) rfl (fun ls hl => ?_)
                    refine lv_goto (tgt := 220) hx hb d_M_read_262 (by decide) ?_
                    exact ih (1 : Int32) (v4_405 + 1) ls _ hf (lv_sub hl [2, 3, 4, 1, 0] rfl) kt0
                  · have hf := z_t hc hf
                    refine lv_aload_n hx hb d_M_read_243 rfl (lv_at hl 0 rfl) ?_
                    refine lv_iload hx hb d_M_read_244 (lv_at hl 4 rfl) ?_
                    obtain ⟨q407, hc, hf⟩ := z_b hf
                    refine vp_callSi (z_cr (va_runV (As := [.int v4_405]) (rest := []) ⟨hx, hb, hml, hown, hts⟩ (c_M_bitAt l dC dI cI cL v4_405 hN_X hN_Xfed q407 hc) (cw_M_172 hts ⟨Nat.le_of_ble_eq_true rfl, Nat.le_of_ble_eq_true rfl⟩) ⟨zbR, va_recv hK hP (ci := 7) rfl hN_X, (zpR hP hK hZ)⟩ rfl rfl hl.1 rfl (lv_room (Nat.le_of_ble_eq_true rfl)) d_M_read_246 ⟨Nat.zero_le _, Nat.zero_le _⟩)) (fun r408 hv => ?_)
                    have hv := hv.symm
                    subst hv
                    refine lv_iconst (v := 1) hx hb d_M_read_249 (by decide) ?_
                    refine lv_icmp_ne (tgt := 257) hx hb d_M_read_250 (by decide) (fun hc => ?_) (fun hc => ?_)
                    · have hf := z_f hc hf
                      refine lv_iconst (v := 0) hx hb d_M_read_257 (by decide) ?_
                      refine lv_istore_n (lv' := [(3, .int (0 : Int32)), (0, .ref aX), (1, .int q275.1), (2, .int ((1 : Int32) <<< (q275.1 &&& 31))), (4, .int v4_405)]) hx hb d_M_read_258 rfl hl (by decide) rfl (fun ls hl => ?_)
                      refine lv_iinc (v := (v4_405 + 1)) (lv' := [(4, .int (v4_405 + 1)), (3, .int (0 : Int32)), (0, .ref aX), (1, .int q275.1), (2, .int ((1 : Int32) <<< (q275.1 &&& 31)))]) hx hb d_M_read_259 hl (k := 4) rfl rfl (by decide) rfl (fun ls hl => ?_)
                      refine lv_goto (tgt := 220) hx hb d_M_read_262 (by decide) ?_
                      exact ih (0 : Int32) (v4_405 + 1) ls _ hf (lv_sub hl [2, 3, 4, 1, 0] rfl) kt0
                    · have hf := z_t hc hf
                      refine lv_iconst (v := 1) hx hb d_M_read_253 (by decide) ?_
                      refine lv_goto (tgt := 258) hx hb d_M_read_254 (by decide) ?_
                      refine lv_istore_n (lv' := [(3, .int (1 : Int32)), (0, .ref aX), (1, .int q275.1), (2, .int ((1 : Int32) <<< (q275.1 &&& 31))), (4, .int v4_405)]) hx hb d_M_read_258 rfl hl (by decide) rfl (fun ls hl => ?_)
                      refine lv_iinc (v := (v4_405 + 1)) (lv' := [(4, .int (v4_405 + 1)), (3, .int (1 : Int32)), (0, .ref aX), (1, .int q275.1), (2, .int ((1 : Int32) <<< (q275.1 &&& 31)))]) hx hb d_M_read_259 hl (k := 4) rfl rfl (by decide) rfl (fun ls hl => ?_)
                      refine lv_goto (tgt := 220) hx hb d_M_read_262 (by decide) ?_
                      exact ih (1 : Int32) (v4_405 + 1) ls _ hf (lv_sub hl [2, 3, 4, 1, 0] rfl) kt0
          obtain ⟨q403, hc, hf⟩ := z_b hf
          refine lp406 _ FU (1 : Int32) q381.2.1 ls q403 hc (lv_sub hl [2, 3, 4, 1, 0] rfl) (fun ls hl => ?_)
          refine lv_aload_n hx hb d_M_read_265 rfl (lv_at hl 0 rfl) ?_
          refine lv_aload_n hx hb d_M_read_266 rfl (lv_at hl 0 rfl) ?_
          refine gf_M_166 (v := .int q381.2.2.1) hx hb hts hown hK hP hN_X rfl d_M_read_267 ?_
          refine lv_if_ge (tgt := 281) hx hb d_M_read_270 (by decide) (fun hc => ?_) (fun hc => ?_)
          · have hf := z_t hc hf
            refine lv_aload_n hx hb d_M_read_281 rfl (lv_at hl 0 rfl) ?_
            refine gf_M_166 (v := .int q381.2.2.1) hx hb hts hown hK hP hN_X rfl d_M_read_282 ?_
            refine pf_M_166 (v := .int q381.2.2.1) hx hb hts hown hK hP hD hS hN_X rfl rfl (Nat.le_of_ble_eq_true rfl) d_M_read_285 (fun ws H locs hP hD hS hN_X hfr => ?_)
            have hN_X : ws[21]? = some (aX, .inr (7, [.int (0 : Int32), .int X_side, .ref aXpicture, .ref aXhalf, .int X_many, .ref aXblocks, .int q381.1, .int X_encodedBits, .ref aXencoded, .int X_fedMany, .ref aXfed, .int q381.2.1, .int q381.2.2.1, .int X_tried, .int q381.2.2.2.1, .ref aXpile, .int X_decoded, .ref aXnews, .ref aXolds, .ref aXhalves, .ref aXds, .ref aXrs, .ref aXbest, .long X_bestError])) := hN_X
            have hN_Xblocks := (hfr _ (by decide)).trans hN_Xblocks
            have hN_Xfed := (hfr _ (by decide)).trans hN_Xfed
            have hN_Xpile := (hfr _ (by decide)).trans hN_Xpile
            have hN_Xbest := (hfr _ (by decide)).trans hN_Xbest
            have hw := z_fr (by decide) hw hfr
            refine lv_aload_n hx hb d_M_read_288 rfl (lv_at hl 0 rfl) ?_
            refine lv_iconst (v := 0) hx hb d_M_read_289 (by decide) ?_
            refine pf_M_163 (v := .int (0 : Int32)) hx hb hts hown hK hP hD hS hN_X rfl rfl (Nat.le_of_ble_eq_true rfl) d_M_read_290 (fun ws H locs hP hD hS hN_X hfr => ?_)
            have hN_X : ws[21]? = some (aX, .inr (7, [.int (0 : Int32), .int X_side, .ref aXpicture, .ref aXhalf, .int X_many, .ref aXblocks, .int q381.1, .int X_encodedBits, .ref aXencoded, .int (0 : Int32), .ref aXfed, .int q381.2.1, .int q381.2.2.1, .int X_tried, .int q381.2.2.2.1, .ref aXpile, .int X_decoded, .ref aXnews, .ref aXolds, .ref aXhalves, .ref aXds, .ref aXrs, .ref aXbest, .long X_bestError])) := hN_X
            have hN_Xblocks := (hfr _ (by decide)).trans hN_Xblocks
            have hN_Xfed := (hfr _ (by decide)).trans hN_Xfed
            have hN_Xpile := (hfr _ (by decide)).trans hN_Xpile
            have hN_Xbest := (hfr _ (by decide)).trans hN_Xbest
            have hw := z_fr (by decide) hw hfr
            refine lv_aload_n hx hb d_M_read_293 rfl (lv_at hl 0 rfl) ?_
            refine gf_M_166 (v := .int q381.2.2.1) hx hb hts hown hK hP hN_X rfl d_M_read_294 ?_
            refine lv_if_lt (tgt := 307) hx hb d_M_read_297 (by decide) (fun hc => ?_) (fun hc => ?_)
            · have hf := z_t hc hf
              refine lv_aload_n hx hb d_M_read_307 rfl (lv_at hl 0 rfl) ?_
              obtain ⟨q409, hc, hf⟩ := z_b hf
              have hFc := z_free hD hS hA
              refine va_callv (va_runV (As := []) (rest := []) ⟨hx, hb, hml, hown, hts⟩ (c_M_takeFound l dC dI cI cL _ hN_X hN_Xblocks q409 hc) (cw_M_154 hts ⟨Nat.le_of_ble_eq_true rfl, Nat.le_of_ble_eq_true rfl⟩) ⟨zbM, va_recv hK hP (ci := 7) rfl hN_X, (zpM hP hK hZ hD)⟩ rfl rfl hl.1 rfl (lv_room (Nat.le_of_ble_eq_true rfl)) d_M_read_308 ⟨Nat.zero_le _, Nat.zero_le _⟩) hS (fun q _ h => hFc q h) hFc (fun ws t H locs ht hvm hu hB hz1 hk1 hS => ?_)
              obtain ⟨hN_X, hN_Xblocks, hfr⟩ := hu
              obtain ⟨hP, -, hD1⟩ := hB
              rw [ht] at hP
              have hD := hD1.weaken (fun _ _ _ h => hFc _ h)
              have hN_X : ws[21]? = some (aX, .inr (7, [.int (0 : Int32), .int X_side, .ref aXpicture, .ref aXhalf, .int q409.1, .ref aXblocks, .int q381.1, .int X_encodedBits, .ref aXencoded, .int (0 : Int32), .ref aXfed, .int q381.2.1, .int q381.2.2.1, .int X_tried, .int q381.2.2.2.1, .ref aXpile, .int X_decoded, .ref aXnews, .ref aXolds, .ref aXhalves, .ref aXds, .ref aXrs, .ref aXbest, .long X_bestError])) := hN_X
              have hN_Xblocks : ws[24]? = some (aXblocks, .inl (cI, Xblocks_n, .inl q409.2)) := hN_Xblocks
              have hN_Xfed := (hfr _ (by decide)).trans hN_Xfed
              have hN_Xpile := (hfr _ (by decide)).trans hN_Xpile
              have hN_Xbest := (hfr _ (by decide)).trans hN_Xbest
              have hw := z_frC (by decide) hw hfr
              refine lv_aload_n hx hb d_M_read_311 rfl (lv_at hl 0 rfl) ?_
              refine gf_M_123 (v := .int q409.1) hx hb hts hown hK hP hN_X rfl d_M_read_312 ?_
              obtain rfl := Option.some.inj hf
              exact W.iret hx hb hr (fun t ht hW => ⟨⟨_, ws, rfl, ⟨rfl, hN_X, hN_Xblocks, hN_Xpile, hN_Xbest, hw⟩, by rw [ht]; exact hP, va_K.moved hW.alike hK, hD⟩, hS.F ht⟩) hS.2.2 d_M_read_315
            · have hf := z_f hc hf
              refine lv_iconst (v := (-1)) hx hb d_M_read_300 (by decide) ?_
              refine lv_aload_n hx hb d_M_read_301 rfl (lv_at hl 0 rfl) ?_
              refine gf_M_166 (v := .int q381.2.2.1) hx hb hts hown hK hP hN_X rfl d_M_read_302 ?_
              refine lv_isub hx hb d_M_read_305 ?_
              obtain rfl := Option.some.inj hf
              exact W.iret hx hb hr (fun t ht hW => ⟨⟨_, ws, rfl, ⟨rfl, hN_X, hN_Xblocks, hN_Xpile, hN_Xbest, hw⟩, by rw [ht]; exact hP, va_K.moved hW.alike hK, hD⟩, hS.F ht⟩) hS.2.2 d_M_read_306
          · have hf := z_f hc hf
            refine lv_iload_n hx hb d_M_read_273 rfl (lv_at hl 3 rfl) ?_
            refine lv_if_eq (tgt := 281) hx hb d_M_read_274 (by decide) (fun hc => ?_) (fun hc => ?_)
            · have hf := z_t hc hf
              refine lv_aload_n hx hb d_M_read_281 rfl (lv_at hl 0 rfl) ?_
              refine gf_M_166 (v := .int q381.2.2.1) hx hb hts hown hK hP hN_X rfl d_M_read_282 ?_
              refine pf_M_166 (v := .int q381.2.2.1) hx hb hts hown hK hP hD hS hN_X rfl rfl (Nat.le_of_ble_eq_true rfl) d_M_read_285 (fun ws H locs hP hD hS hN_X hfr => ?_)
              have hN_X : ws[21]? = some (aX, .inr (7, [.int (0 : Int32), .int X_side, .ref aXpicture, .ref aXhalf, .int X_many, .ref aXblocks, .int q381.1, .int X_encodedBits, .ref aXencoded, .int X_fedMany, .ref aXfed, .int q381.2.1, .int q381.2.2.1, .int X_tried, .int q381.2.2.2.1, .ref aXpile, .int X_decoded, .ref aXnews, .ref aXolds, .ref aXhalves, .ref aXds, .ref aXrs, .ref aXbest, .long X_bestError])) := hN_X
              have hN_Xblocks := (hfr _ (by decide)).trans hN_Xblocks
              have hN_Xfed := (hfr _ (by decide)).trans hN_Xfed
              have hN_Xpile := (hfr _ (by decide)).trans hN_Xpile
              have hN_Xbest := (hfr _ (by decide)).trans hN_Xbest
              have hw := z_fr (by decide) hw hfr
              refine lv_aload_n hx hb d_M_read_288 rfl (lv_at hl 0 rfl) ?_
              refine lv_iconst (v := 0) hx hb d_M_read_289 (by decide) ?_
              refine pf_M_163 (v := .int (0 : Int32)) hx hb hts hown hK hP hD hS hN_X rfl rfl (Nat.le_of_ble_eq_true rfl) d_M_read_290 (fun ws H locs hP hD hS hN_X hfr => ?_)
              have hN_X : ws[21]? = some (aX, .inr (7, [.int (0 : Int32), .int X_side, .ref aXpicture, .ref aXhalf, .int X_many, .ref aXblocks, .int q381.1, .int X_encodedBits, .ref aXencoded, .int (0 : Int32), .ref aXfed, .int q381.2.1, .int q381.2.2.1, .int X_tried, .int q381.2.2.2.1, .ref aXpile, .int X_decoded, .ref aXnews, .ref aXolds, .ref aXhalves, .ref aXds, .ref aXrs, .ref aXbest, .long X_bestError])) := hN_X
              have hN_Xblocks := (hfr _ (by decide)).trans hN_Xblocks
              have hN_Xfed := (hfr _ (by decide)).trans hN_Xfed
              have hN_Xpile := (hfr _ (by decide)).trans hN_Xpile
              have hN_Xbest := (hfr _ (by decide)).trans hN_Xbest
              have hw := z_fr (by decide) hw hfr
              refine lv_aload_n hx hb d_M_read_293 rfl (lv_at hl 0 rfl) ?_
              refine gf_M_166 (v := .int q381.2.2.1) hx hb hts hown hK hP hN_X rfl d_M_read_294 ?_
              refine lv_if_lt (tgt := 307) hx hb d_M_read_297 (by decide) (fun hc => ?_) (fun hc => ?_)
              · have hf := z_t hc hf
                refine lv_aload_n hx hb d_M_read_307 rfl (lv_at hl 0 rfl) ?_
                obtain ⟨q410, hc, hf⟩ := z_b hf
                have hFc := z_free hD hS hA
                refine va_callv (va_runV (As := []) (rest := []) ⟨hx, hb, hml, hown, hts⟩ (c_M_takeFound l dC dI cI cL _ hN_X hN_Xblocks q410 hc) (cw_M_154 hts ⟨Nat.le_of_ble_eq_true rfl, Nat.le_of_ble_eq_true rfl⟩) ⟨zbM, va_recv hK hP (ci := 7) rfl hN_X, (zpM hP hK hZ hD)⟩ rfl rfl hl.1 rfl (lv_room (Nat.le_of_ble_eq_true rfl)) d_M_read_308 ⟨Nat.zero_le _, Nat.zero_le _⟩) hS (fun q _ h => hFc q h) hFc (fun ws t H locs ht hvm hu hB hz1 hk1 hS => ?_)
                obtain ⟨hN_X, hN_Xblocks, hfr⟩ := hu
                obtain ⟨hP, -, hD1⟩ := hB
                rw [ht] at hP
                have hD := hD1.weaken (fun _ _ _ h => hFc _ h)
                have hN_X : ws[21]? = some (aX, .inr (7, [.int (0 : Int32), .int X_side, .ref aXpicture, .ref aXhalf, .int q410.1, .ref aXblocks, .int q381.1, .int X_encodedBits, .ref aXencoded, .int (0 : Int32), .ref aXfed, .int q381.2.1, .int q381.2.2.1, .int X_tried, .int q381.2.2.2.1, .ref aXpile, .int X_decoded, .ref aXnews, .ref aXolds, .ref aXhalves, .ref aXds, .ref aXrs, .ref aXbest, .long X_bestError])) := hN_X
                have hN_Xblocks : ws[24]? = some (aXblocks, .inl (cI, Xblocks_n, .inl q410.2)) := hN_Xblocks
                have hN_Xfed := (hfr _ (by decide)).trans hN_Xfed
                have hN_Xpile := (hfr _ (by decide)).trans hN_Xpile
                have hN_Xbest := (hfr _ (by decide)).trans hN_Xbest
                have hw := z_frC (by decide) hw hfr
                refine lv_aload_n hx hb d_M_read_311 rfl (lv_at hl 0 rfl) ?_
                refine gf_M_123 (v := .int q410.1) hx hb hts hown hK hP hN_X rfl d_M_read_312 ?_
                obtain rfl := Option.some.inj hf
                exact W.iret hx hb hr (fun t ht hW => ⟨⟨_, ws, rfl, ⟨rfl, hN_X, hN_Xblocks, hN_Xpile, hN_Xbest, hw⟩, by rw [ht]; exact hP, va_K.moved hW.alike hK, hD⟩, hS.F ht⟩) hS.2.2 d_M_read_315
              · have hf := z_f hc hf
                refine lv_iconst (v := (-1)) hx hb d_M_read_300 (by decide) ?_
                refine lv_aload_n hx hb d_M_read_301 rfl (lv_at hl 0 rfl) ?_
                refine gf_M_166 (v := .int q381.2.2.1) hx hb hts hown hK hP hN_X rfl d_M_read_302 ?_
                refine lv_isub hx hb d_M_read_305 ?_
                obtain rfl := Option.some.inj hf
                exact W.iret hx hb hr (fun t ht hW => ⟨⟨_, ws, rfl, ⟨rfl, hN_X, hN_Xblocks, hN_Xpile, hN_Xbest, hw⟩, by rw [ht]; exact hP, va_K.moved hW.alike hK, hD⟩, hS.F ht⟩) hS.2.2 d_M_read_306
            · have hf := z_f hc hf
              refine lv_iconst (v := 4) hx hb d_M_read_277 (by decide) ?_
              refine lv_goto (tgt := 285) hx hb d_M_read_278 (by decide) ?_
              refine pf_M_166 (v := .int (4 : Int32)) hx hb hts hown hK hP hD hS hN_X rfl rfl (Nat.le_of_ble_eq_true rfl) d_M_read_285 (fun ws H locs hP hD hS hN_X hfr => ?_)
              have hN_X : ws[21]? = some (aX, .inr (7, [.int (0 : Int32), .int X_side, .ref aXpicture, .ref aXhalf, .int X_many, .ref aXblocks, .int q381.1, .int X_encodedBits, .ref aXencoded, .int X_fedMany, .ref aXfed, .int q381.2.1, .int (4 : Int32), .int X_tried, .int q381.2.2.2.1, .ref aXpile, .int X_decoded, .ref aXnews, .ref aXolds, .ref aXhalves, .ref aXds, .ref aXrs, .ref aXbest, .long X_bestError])) := hN_X
              have hN_Xblocks := (hfr _ (by decide)).trans hN_Xblocks
              have hN_Xfed := (hfr _ (by decide)).trans hN_Xfed
              have hN_Xpile := (hfr _ (by decide)).trans hN_Xpile
              have hN_Xbest := (hfr _ (by decide)).trans hN_Xbest
              have hw := z_fr (by decide) hw hfr
              refine lv_aload_n hx hb d_M_read_288 rfl (lv_at hl 0 rfl) ?_
              refine lv_iconst (v := 0) hx hb d_M_read_289 (by decide) ?_
              refine pf_M_163 (v := .int (0 : Int32)) hx hb hts hown hK hP hD hS hN_X rfl rfl (Nat.le_of_ble_eq_true rfl) d_M_read_290 (fun ws H locs hP hD hS hN_X hfr => ?_)
              have hN_X : ws[21]? = some (aX, .inr (7, [.int (0 : Int32), .int X_side, .ref aXpicture, .ref aXhalf, .int X_many, .ref aXblocks, .int q381.1, .int X_encodedBits, .ref aXencoded, .int (0 : Int32), .ref aXfed, .int q381.2.1, .int (4 : Int32), .int X_tried, .int q381.2.2.2.1, .ref aXpile, .int X_decoded, .ref aXnews, .ref aXolds, .ref aXhalves, .ref aXds, .ref aXrs, .ref aXbest, .long X_bestError])) := hN_X
              have hN_Xblocks := (hfr _ (by decide)).trans hN_Xblocks
              have hN_Xfed := (hfr _ (by decide)).trans hN_Xfed
              have hN_Xpile := (hfr _ (by decide)).trans hN_Xpile
              have hN_Xbest := (hfr _ (by decide)).trans hN_Xbest
              have hw := z_fr (by decide) hw hfr
              refine lv_aload_n hx hb d_M_read_293 rfl (lv_at hl 0 rfl) ?_
              refine gf_M_166 (v := .int (4 : Int32)) hx hb hts hown hK hP hN_X rfl d_M_read_294 ?_
              refine lv_if_lt (tgt := 307) hx hb d_M_read_297 (by decide) (fun hc => ?_) (fun hc => ?_)
              · have hf := z_t hc hf
                refine lv_aload_n hx hb d_M_read_307 rfl (lv_at hl 0 rfl) ?_
                obtain ⟨q411, hc, hf⟩ := z_b hf
                have hFc := z_free hD hS hA
                refine va_callv (va_runV (As := []) (rest := []) ⟨hx, hb, hml, hown, hts⟩ (c_M_takeFound l dC dI cI cL _ hN_X hN_Xblocks q411 hc) (cw_M_154 hts ⟨Nat.le_of_ble_eq_true rfl, Nat.le_of_ble_eq_true rfl⟩) ⟨zbM, va_recv hK hP (ci := 7) rfl hN_X, (zpM hP hK hZ hD)⟩ rfl rfl hl.1 rfl (lv_room (Nat.le_of_ble_eq_true rfl)) d_M_read_308 ⟨Nat.zero_le _, Nat.zero_le _⟩) hS (fun q _ h => hFc q h) hFc (fun ws t H locs ht hvm hu hB hz1 hk1 hS => ?_)
                obtain ⟨hN_X, hN_Xblocks, hfr⟩ := hu
                obtain ⟨hP, -, hD1⟩ := hB
                rw [ht] at hP
                have hD := hD1.weaken (fun _ _ _ h => hFc _ h)
                have hN_X : ws[21]? = some (aX, .inr (7, [.int (0 : Int32), .int X_side, .ref aXpicture, .ref aXhalf, .int q411.1, .ref aXblocks, .int q381.1, .int X_encodedBits, .ref aXencoded, .int (0 : Int32), .ref aXfed, .int q381.2.1, .int (4 : Int32), .int X_tried, .int q381.2.2.2.1, .ref aXpile, .int X_decoded, .ref aXnews, .ref aXolds, .ref aXhalves, .ref aXds, .ref aXrs, .ref aXbest, .long X_bestError])) := hN_X
                have hN_Xblocks : ws[24]? = some (aXblocks, .inl (cI, Xblocks_n, .inl q411.2)) := hN_Xblocks
                have hN_Xfed := (hfr _ (by decide)).trans hN_Xfed
                have hN_Xpile := (hfr _ (by decide)).trans hN_Xpile
                have hN_Xbest := (hfr _ (by decide)).trans hN_Xbest
                have hw := z_frC (by decide) hw hfr
                refine lv_aload_n hx hb d_M_read_311 rfl (lv_at hl 0 rfl) ?_
                refine gf_M_123 (v := .int q411.1) hx hb hts hown hK hP hN_X rfl d_M_read_312 ?_
                obtain rfl := Option.some.inj hf
                exact W.iret hx hb hr (fun t ht hW => ⟨⟨_, ws, rfl, ⟨rfl, hN_X, hN_Xblocks, hN_Xpile, hN_Xbest, hw⟩, by rw [ht]; exact hP, va_K.moved hW.alike hK, hD⟩, hS.F ht⟩) hS.2.2 d_M_read_315
              · have hf := z_f hc hf
                refine lv_iconst (v := (-1)) hx hb d_M_read_300 (by decide) ?_
                refine lv_aload_n hx hb d_M_read_301 rfl (lv_at hl 0 rfl) ?_
                refine gf_M_166 (v := .int (4 : Int32)) hx hb hts hown hK hP hN_X rfl d_M_read_302 ?_
                refine lv_isub hx hb d_M_read_305 ?_
                obtain rfl := Option.some.inj hf
                exact W.iret hx hb hr (fun t ht hW => ⟨⟨_, ws, rfl, ⟨rfl, hN_X, hN_Xblocks, hN_Xpile, hN_Xbest, hw⟩, by rw [ht]; exact hP, va_K.moved hW.alike hK, hD⟩, hS.F ht⟩) hS.2.2 d_M_read_306
