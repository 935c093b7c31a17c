/-! the beginning -/
theorem RX_init {w d : Nat} (hwd : w = 2 * 2 ^ d) (hw : w ≤ 16) : RX w d (nI (2 * w)) (fun _ => 0) (nI 0) (fun _ => 0) 0 0 (fun _ => 0) 0 (fun _ => 0) 0 (fun _ => 0) (fun _ => 0) 0 (fun _ => 0) 0 (fun _ => 0) 0 0 (fun _ => 0) 0 (fun _ => 0) :=
  ⟨fun _ => 0, 0, fun _ => 0, (0, fun _ => 0, 0, fun _ => 0, 0), 0, fun _ => 0, ⟨hwd, hw, fun _ _ => Nat.zero_le _, Or.inl rfl, fun _ => Nat.zero_le _, Nat.zero_le _, ⟨fun i hi => absurd hi (Nat.not_lt_zero i), fun i j _ hj => absurd hj (Nat.not_lt_zero j)⟩, Nat.zero_le _, Nat.zero_le _⟩,
    ⟨rfl, fun _ _ => rfl, rfl, fun j hj => absurd hj (Nat.not_lt_zero j), ⟨rfl, fun k hk => absurd hk (Nat.not_lt_zero k), rfl, bRep0 _ _, bGood0 _, rfl⟩, rfl, fun k hk => absurd hk (Nat.not_lt_zero k)⟩, fun _ _ => rfl, ⟨rfl, fun k hk => absurd hk (Nat.not_lt_zero k), rfl, bRep0 _ _, bGood0 _, rfl⟩, rfl, fun j hj => absurd hj (Nat.not_lt_zero j), rfl, fun k hk => absurd hk (Nat.not_lt_zero k)⟩
/-- the side that a number tells -/
theorem side_cases (x : Int32) : ∃ d : Nat, d ≤ 3 ∧ ((4 : Int32) <<< ((if (0 : Int32) < (if (3 : Int32) < x then (3 : Int32) else x) then (if (3 : Int32) < x then (3 : Int32) else x) else (0 : Int32)) &&& 31)) = nI (2 * (2 * 2 ^ d)) ∧ (x < 0 → (4 : Int32) <<< ((0 : Int32) &&& 31) = nI (2 * (2 * 2 ^ d))) ∧ ((3 : Int32) < x → (4 : Int32) <<< ((3 : Int32) &&& 31) = nI (2 * (2 * 2 ^ d))) ∧ (0 ≤ x → x ≤ (3 : Int32) → (4 : Int32) <<< (x &&& 31) = nI (2 * (2 * 2 ^ d))) := by
  rcases nJ_case x with h | ⟨n, hn, rfl⟩
  · have h3 : ¬ (3 : Int32) < x := fun q => absurd (Int32.lt_trans q h) (by decide)
    have h0 : ¬ (0 : Int32) < x := fun q => absurd (Int32.lt_trans q h) (by decide)
    refine ⟨0, by omega, ?_, fun _ => by decide, fun q => absurd q h3, fun q => absurd h (Int32.not_lt.mpr q)⟩
    rw [if_neg h3, if_neg h0]
    decide
  · by_cases c : 3 < n
    · have h3 : (3 : Int32) < nI n := by rw [n3, nJ_ltT c hn]; exact trivial
      refine ⟨3, by omega, ?_, fun q => ?_, fun _ => by decide, fun _ q => absurd h3 (Int32.not_lt.mpr q)⟩
      · rw [if_pos h3]
        decide
      · rw [n0, nJ_ltF (by omega) (by omega)] at q
        exact q.elim
    · have : n = 0 ∨ n = 1 ∨ n = 2 ∨ n = 3 := by omega
      rcases this with rfl | rfl | rfl | rfl
      · exact ⟨0, by omega, by decide, by decide, by decide, by decide⟩
      · exact ⟨1, by omega, by decide, by decide, by decide, by decide⟩
      · exact ⟨2, by omega, by decide, by decide, by decide, by decide⟩
      · exact ⟨3, by omega, by decide, by decide, by decide, by decide⟩
