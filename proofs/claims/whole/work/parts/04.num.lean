/-! NUMBERS, and the cells of a row, an anchor, a state -/
theorem iinc_nI (a : Nat) : nI a + Int32.ofInt 1 = nI (a + 1) := nI_1 a
theorem i_lt {a b : Int32} (h : a < b) : a.toInt < b.toInt := Int32.lt_iff_toInt_lt.mp h
theorem i_nlt {a b : Int32} (h : ¬ a < b) : b.toInt ≤ a.toInt := Int.not_lt.mp (fun q => h (Int32.lt_iff_toInt_lt.mpr q))
theorem i_le {a b : Int32} (h : a ≤ b) : a.toInt ≤ b.toInt := Int32.le_iff_toInt_le.mp h
theorem i_nle {a b : Int32} (h : ¬ a ≤ b) : b.toInt < a.toInt := Int.not_le.mp (fun q => h (Int32.le_iff_toInt_le.mpr q))
theorem i_eq {a b : Int32} (h : a = b) : a.toInt = b.toInt := congrArg _ h
theorem i_ne {a b : Int32} (h : ¬ a = b) : a.toInt ≠ b.toInt := fun q => h (Int32.toInt_inj.mp q)
theorem i_inj {a b : Int32} (h : a.toInt = b.toInt) : a = b := Int32.toInt_inj.mp h
theorem t_rng (x : Int32) : -2147483648 ≤ x.toInt ∧ x.toInt < 2147483648 := ⟨Int32.le_toInt x, Int32.toInt_lt x⟩
theorem t_bmod {z : Int} (h1 : -2147483648 ≤ z) (h2 : z < 2147483648) : z.bmod (2 ^ 32) = z := by
  rw [Int.bmod_eq_of_le] <;> omega
theorem t_add {x y : Int32} (h1 : -2147483648 ≤ x.toInt + y.toInt) (h2 : x.toInt + y.toInt < 2147483648) : (x + y).toInt = x.toInt + y.toInt := by
  rw [Int32.toInt_add]; exact t_bmod h1 h2
theorem t_sub {x y : Int32} (h1 : -2147483648 ≤ x.toInt - y.toInt) (h2 : x.toInt - y.toInt < 2147483648) : (x - y).toInt = x.toInt - y.toInt := by
  rw [Int32.toInt_sub]; exact t_bmod h1 h2
theorem t_neg {x : Int32} (h1 : -2147483648 < x.toInt) : (-x).toInt = -x.toInt := by
  rw [Int32.toInt_neg]; exact t_bmod (by have := t_rng x; omega) (by have := t_rng x; omega)
/-- an int from 0 on is nI of its clamp -/
theorem nI_cl {x : Int32} (h : 0 ≤ x.toInt) : x = nI x.toNatClampNeg := by
  apply i_inj
  rw [nI_toInt]
  · show x.toInt = (x.toInt.toNat : Int); omega
  · have := t_rng x; show x.toInt.toNat < 2 ^ 31; omega
theorem cl_toInt {x : Int32} (h : 0 ≤ x.toInt) : (x.toNatClampNeg : Int) = x.toInt := by
  show (x.toInt.toNat : Int) = x.toInt; omega
def bI (c : Bool) : Int32 := if c then 1 else 0
theorem bI_1 {P : Prop} [Decidable P] (h : P) : bI (decide P) = 1 := by simp [bI, h]
theorem bI_0 {P : Prop} [Decidable P] (h : ¬ P) : bI (decide P) = 0 := by simp [bI, h]
theorem bI_f {P : Prop} [Decidable P] (h : bI (decide P) = 0) : ¬ P := fun q => by rw [bI_1 q] at h; exact absurd h (by decide)
theorem bI_t {P : Prop} [Decidable P] (h : ¬ bI (decide P) = 0) : P := Decidable.byContradiction (fun q => h (bI_0 q))
theorem bI_nar (c : Bool) : narrow .boolean (.int (bI c)) = .int (bI c) := by cases c <;> rfl
/-- what stands at a place of a row of n words; -1: none -/
def atF (n : Nat) (W : Nat → Int32) (x : Int32) : Int32 := if 0 ≤ x.toInt ∧ x.toInt < n then W x.toNatClampNeg else -1
def RowAt (cell : Nat → va_E) (adr : Nat → Nat) (kc : Nat → ClassId) (r : Nat) (W T U : Nat → Int32) (n : Nat) : Prop := cell r = .inr (4, [.ref (adr (r + 1)), .ref (adr (r + 2)), .ref (adr (r + 3)), .int (nI n)]) ∧ cell (r + 1) = .inl (kc 0, 40, .inl W) ∧ cell (r + 2) = .inl (kc 0, 40, .inl T) ∧ cell (r + 3) = .inl (kc 0, 40, .inl U) ∧ n ≤ 40
def AncAt (cell : Nat → va_E) (adr : Nat → Nat) (kc : Nat → ClassId) (a : Nat) (p v : Int32) (f : Nat → Int32) : Prop := cell a = .inr (0, [.ref (adr (a + 1)), .int p, .int v]) ∧ cell (a + 1) = .inl (kc 0, 5, .inl f)
