/-! numbers: an Int32 that is not below 0 by a Nat -/
theorem nJ_of (n : Nat) : nI n = Int32.ofNat n := rfl
theorem nJ_int (n : Nat) : nI n = Int32.ofInt (n : Int) := Int32.ofInt_eq_ofNat.symm
theorem nJ_toInt {n : Nat} (h : n < 2147483648) : (nI n).toInt = (n : Int) := by rw [nJ_int]; exact Int32.toInt_ofInt_of_le (by omega) (by omega)
theorem nJ_add (a b : Nat) : nI a + nI b = nI (a + b) := (Int32.ofNat_add a b).symm
theorem nJ_mul (a b : Nat) : nI a * nI b = nI (a * b) := by rw [nJ_int, nJ_int, nJ_int, Int.natCast_mul, Int32.ofInt_mul]
theorem nJ_sub {a b : Nat} (h : b ≤ a) : nI a - nI b = nI (a - b) := by
  rw [nJ_int, nJ_int, nJ_int, Int.ofNat_sub h, Int32.ofInt_sub]
theorem nJ_leT {a b : Nat} (h : a ≤ b) (hb : b < 2147483648) : (nI a ≤ nI b) = True := by
  rw [eq_iff_iff, Int32.le_iff_toInt_le, nJ_toInt hb, nJ_toInt (by omega)]; simp; omega
theorem nJ_leF {a b : Nat} (h : b < a) (hb : a < 2147483648) : (nI a ≤ nI b) = False := by
  rw [eq_iff_iff, Int32.le_iff_toInt_le, nJ_toInt hb, nJ_toInt (by omega)]; simp; omega
theorem nJ_ltT {a b : Nat} (h : a < b) (hb : b < 2147483648) : (nI a < nI b) = True := by
  rw [eq_iff_iff, Int32.lt_iff_toInt_lt, nJ_toInt hb, nJ_toInt (by omega)]; simp; omega
theorem nJ_ltF {a b : Nat} (h : b ≤ a) (hb : a < 2147483648) : (nI a < nI b) = False := by
  rw [eq_iff_iff, Int32.lt_iff_toInt_lt, nJ_toInt hb, nJ_toInt (by omega)]; simp; omega
theorem nJ_inj {a b : Nat} (h : nI a = nI b) (ha : a < 2147483648) (hb : b < 2147483648) : a = b := by
  have := congrArg Int32.toInt h
  rw [nJ_toInt ha, nJ_toInt hb] at this; omega
theorem nJ_eqT {a b : Nat} (h : a = b) : (nI a = nI b) = True := by simp [h]
theorem nJ_eqF {a b : Nat} (h : a ≠ b) (ha : a < 2147483648) (hb : b < 2147483648) : (nI a = nI b) = False := by
  rw [eq_iff_iff]; constructor
  · intro e; exact h (nJ_inj e ha hb)
  · exact False.elim
theorem nJ_clamp {a : Nat} (h : a < 2147483648) : (nI a).toNatClampNeg = a := Int32.toNatClampNeg_ofNat_of_lt h
theorem nJ_div {a b : Nat} (ha : a < 2147483648) (hb : b < 2147483648) : nI a / nI b = nI (a / b) := by
  apply Int32.toInt_inj.mp
  rw [Int32.toInt_div, nJ_toInt ha, nJ_toInt hb, nJ_toInt (Nat.lt_of_le_of_lt (Nat.div_le_self a b) ha)]
  rw [← Int.ofNat_tdiv]
  have : a / b ≤ a := Nat.div_le_self a b
  generalize a / b = c at this ⊢
  rw [Int.bmod_eq_of_le] <;> omega
/-- minus one -/
def iM : Int32 := -1
theorem nM : -nI 1 = iM := rfl
theorem iM_toInt : iM.toInt = -1 := by decide
theorem iM_eqF {a : Nat} (h : a < 2147483648) : (nI a = iM) = False := by
  rw [eq_iff_iff]; constructor
  · intro e
    have := congrArg Int32.toInt e
    rw [nJ_toInt h, iM_toInt] at this
    omega
  · exact False.elim
theorem iM_eqF2 {a : Nat} (h : a < 2147483648) : (iM = nI a) = False := by
  rw [eq_iff_iff]; exact ⟨fun e => cast (iM_eqF h) e.symm, False.elim⟩
theorem iM_leF {a : Nat} (h : a < 2147483648) : (nI a ≤ iM) = False := by
  rw [eq_iff_iff, Int32.le_iff_toInt_le, nJ_toInt h, iM_toInt]; simp <;> omega
theorem iM_ltF {a : Nat} (h : a < 2147483648) : (nI a < iM) = False := by
  rw [eq_iff_iff, Int32.lt_iff_toInt_lt, nJ_toInt h, iM_toInt]; simp <;> omega
theorem iM_leT {a : Nat} (h : a < 2147483648) : (iM ≤ nI a) = True := by
  rw [eq_iff_iff, Int32.le_iff_toInt_le, nJ_toInt h, iM_toInt]; simp <;> omega
theorem iM_ltT {a : Nat} (h : a < 2147483648) : (iM < nI a) = True := by
  rw [eq_iff_iff, Int32.lt_iff_toInt_lt, nJ_toInt h, iM_toInt]; simp <;> omega
theorem iM_add {a : Nat} (h : 1 ≤ a) : nI a + iM = nI (a - 1) := by
  have : nI a + iM = nI a - nI 1 := by rw [← nM]; exact (Int32.sub_eq_add_neg ..).symm
  rw [this, nJ_sub h]
theorem iM_add0 : nI 0 + iM = iM := by decide
theorem natLeF {a b : Nat} (h : b < a) : (a ≤ b) = False := by simp; omega
theorem natLeT {a b : Nat} (h : a ≤ b) : (a ≤ b) = True := by simp; omega
theorem natLtF {a b : Nat} (h : b ≤ a) : (a < b) = False := by simp; omega
theorem natLtT {a b : Nat} (h : a < b) : (a < b) = True := by simp; omega
theorem natEqF {a b : Nat} (h : a ≠ b) : (a = b) = False := by simp; omega
theorem natEqT {a b : Nat} (h : a = b) : (a = b) = True := by simp; omega
theorem n0 : (0 : Int32) = nI 0 := rfl
theorem n1 : (1 : Int32) = nI 1 := rfl
theorem n2 : (2 : Int32) = nI 2 := rfl
theorem n3 : (3 : Int32) = nI 3 := rfl
theorem n4 : (4 : Int32) = nI 4 := rfl
theorem n5 : (5 : Int32) = nI 5 := rfl
theorem n6 : (6 : Int32) = nI 6 := rfl
theorem n7 : (7 : Int32) = nI 7 := rfl
theorem n8 : (8 : Int32) = nI 8 := rfl
theorem n10 : (10 : Int32) = nI 10 := rfl
theorem n16 : (16 : Int32) = nI 16 := rfl
theorem n40 : (40 : Int32) = nI 40 := rfl
theorem n128 : (128 : Int32) = nI 128 := rfl
theorem n255 : (255 : Int32) = nI 255 := rfl
theorem n256 : (256 : Int32) = nI 256 := rfl
theorem n1024 : (1024 : Int32) = nI 1024 := rfl
theorem n2000 : (2000 : Int32) = nI 2000 := rfl
theorem n2048 : (2048 : Int32) = nI 2048 := rfl
/-- an Int32 is below 0 or a Nat -/
theorem nJ_case (x : Int32) : x < 0 ∨ ∃ n : Nat, n < 2147483648 ∧ x = nI n := by
  by_cases h : x < 0
  · exact Or.inl h
  · refine Or.inr ⟨x.toInt.toNat, ?_, ?_⟩
    · have := x.toInt_lt; omega
    · have h2 : 0 ≤ x.toInt := by
        rw [Int32.lt_iff_toInt_lt] at h
        have e : (0 : Int32).toInt = 0 := rfl
        omega
      apply Int32.toInt_inj.mp
      have := x.toInt_lt
      rw [nJ_toInt (by omega)]; omega
theorem neg_lt {x : Int32} (h : x < 0) (n : Nat) (hn : n < 2147483648) : x < nI n := by
  rw [Int32.lt_iff_toInt_lt] at h ⊢
  rw [nJ_toInt hn]
  have e : (0 : Int32).toInt = 0 := rfl
  omega
theorem fu {b : Nat} (h : b ≤ 1048575) : b < FU := by unfold FU; omega
/-- a loop that counts up -/
theorem lp_up {σ ρ : Type} (L : Nat → σ → Nat → Option ρ) (st : Nat → σ) (b : Nat) (fin : ρ)
    (h0 : ∀ n, L (n + 1) (st b) b = some fin) (h1 : ∀ n v, v < b → L (n + 1) (st v) v = L n (st (v + 1)) (v + 1)) :
    ∀ n v, v ≤ b → b - v < n → L n (st v) v = some fin := by
  intro n
  induction n with
  | zero => intro v _ h; omega
  | succ n ih =>
    intro v hv h
    by_cases e : v = b
    · subst e; exact h0 n
    · rw [h1 n v (by omega)]; exact ih (v + 1) (by omega) (by omega)
/-- sums -/
def sN (g : Nat → Nat) : Nat → Nat
  | 0 => 0
  | n + 1 => sN g n + g n
def sQ (g : Nat → Nat → Nat) (w h : Nat) : Nat := sN (fun y => sN (fun x => g x y) w) h
theorem sN_congr {g h : Nat → Nat} {n : Nat} (e : ∀ k, k < n → g k = h k) : sN g n = sN h n := by
  induction n with
  | zero => rfl
  | succ n ih => rw [sN, sN, ih (fun k hk => e k (by omega)), e n (by omega)]
theorem sN_add (g h : Nat → Nat) (n : Nat) : sN (fun k => g k + h k) n = sN g n + sN h n := by
  induction n with
  | zero => rfl
  | succ n ih => simp only [sN, ih]; omega
theorem sN_le {g : Nat → Nat} {n c : Nat} (e : ∀ k, k < n → g k ≤ c) : sN g n ≤ n * c := by
  induction n with
  | zero => exact Nat.zero_le _
  | succ n ih =>
    have h1 := ih (fun k hk => e k (by omega)); have h2 := e n (by omega)
    rw [sN, Nat.succ_mul]; omega
theorem sN_zero (n : Nat) : sN (fun _ => 0) n = 0 := by
  induction n with
  | zero => rfl
  | succ n ih => rw [sN, ih]
theorem sN_split (g : Nat → Nat) (a b : Nat) : sN g (a + b) = sN g a + sN (fun k => g (a + k)) b := by
  induction b with
  | zero => rfl
  | succ b ih => rw [← Nat.add_assoc, sN, ih, sN]; omega
theorem sN_first (g : Nat → Nat) (n : Nat) : sN g (n + 1) = g 0 + sN (fun k => g (k + 1)) n := by
  induction n with
  | zero => simp [sN]
  | succ n ih => rw [sN, ih, sN]; omega
theorem sN_rev (g : Nat → Nat) (n : Nat) : sN (fun k => g (n - 1 - k)) n = sN g n := by
  induction n with
  | zero => rfl
  | succ n ih =>
    rw [sN_first]
    have : sN (fun k => g (n + 1 - 1 - (k + 1))) n = sN (fun k => g (n - 1 - k)) n := sN_congr (fun k hk => by congr 1; omega)
    rw [this, ih, sN]; simp <;> omega
theorem sQ_congr {g h : Nat → Nat → Nat} {w k : Nat} (e : ∀ x y, x < w → y < k → g x y = h x y) : sQ g w k = sQ h w k :=
  sN_congr (fun y hy => sN_congr (fun x hx => e x y hx hy))
theorem sQ_swap (g : Nat → Nat → Nat) (w h : Nat) : sQ g w h = sQ (fun x y => g y x) h w := by
  unfold sQ
  induction h with
  | zero =>
    rw [sN]
    exact ((sN_congr (fun k _ => rfl)).trans (sN_zero w)).symm
  | succ h ih =>
    rw [sN, ih, ← sN_add]; rfl
theorem sQ_revX (g : Nat → Nat → Nat) (w h : Nat) : sQ (fun x y => g (w - 1 - x) y) w h = sQ g w h :=
  sN_congr (fun y _ => sN_rev (fun x => g x y) w)
theorem sQ_revY (g : Nat → Nat → Nat) (w h : Nat) : sQ (fun x y => g x (h - 1 - y)) w h = sQ g w h :=
  sN_rev (fun y => sN (fun x => g x y) w) h
/-- a sum by rows is the sum by running number -/
theorem sN_rows (g : Nat → Nat) (w h : Nat) : sN g (w * h) = sQ (fun x y => g (y * w + x)) w h := by
  unfold sQ
  induction h with
  | zero => rfl
  | succ h ih =>
    rw [Nat.mul_succ, sN_split, ih, sN]
    congr 1
    exact sN_congr (fun k _ => by rw [Nat.mul_comm])
theorem ix {x y s : Nat} (hx : x < s) (hy : y < s) : y * s + x < s * s :=
  calc y * s + x < y * s + s := by omega
    _ = (y + 1) * s := (Nat.succ_mul y s).symm
    _ ≤ s * s := Nat.mul_le_mul_right s hy
theorem sq64 {s : Nat} (h : s ≤ 64) : s * s ≤ 4096 := Nat.mul_le_mul h h
theorem upd_eq (f : Nat → Int32) (k : Nat) (x : Int32) : upd f k x k = x := by simp [upd]
theorem upd_ne (f : Nat → Int32) (k : Nat) (x : Int32) {j : Nat} (h : j ≠ k) : upd f k x j = f j := by simp [upd, h]
/-- an array whose first k cells are new -/
def wr (old : Nat → Int32) (new : Nat → Int32) (k : Nat) : Nat → Int32 := fun i => if i < k then new i else old i
theorem wr0 (old new : Nat → Int32) : wr old new 0 = old := by funext i; simp [wr]
theorem wrS (old new : Nat → Int32) (k : Nat) : upd (wr old new k) k (new k) = wr old new (k + 1) := by
  funext i
  unfold upd wr
  by_cases e : i = k
  · subst e; simp
  · by_cases h : i < k
    · simp [e, h, show i < k + 1 by omega]
    · simp [e, h, show ¬ i < k + 1 by omega]
theorem wr_lt {old new : Nat → Int32} {k i : Nat} (h : i < k) : wr old new k i = new i := by simp [wr, h]
theorem wr_ge {old new : Nat → Int32} {k i : Nat} (h : k ≤ i) : wr old new k i = old i := by simp [wr, show ¬ i < k by omega]
