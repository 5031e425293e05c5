/-! NUMBERS, and the cells of a row, an anchor, a state -/
theorem iinc_nI (a : Nat) : nI a + Int32.ofInt 1 = nI (a + 1) := nI_1 a
theorem i_lt {a b : Int32} (h : a < b) : a.toInt < b.toInt := Int32.lt_iff_toInt_lt.mp h
theorem i_nlt {a b : Int32} (h : ¬ a < b) : b.toInt ≤ a.toInt := Int.not_lt.mp (fun q => h (Int32.lt_iff_toInt_lt.mpr q))
theorem i_le {a b : Int32} (h : a ≤ b) : a.toInt ≤ b.toInt := Int32.le_iff_toInt_le.mp h
theorem i_nle {a b : Int32} (h : ¬ a ≤ b) : b.toInt < a.toInt := Int.not_le.mp (fun q => h (Int32.le_iff_toInt_le.mpr q))
theorem i_eq {a b : Int32} (h : a = b) : a.toInt = b.toInt := congrArg _ h
theorem i_ne {a b : Int32} (h : ¬ a = b) : a.toInt ≠ b.toInt := fun q => h (Int32.toInt_inj.mp q)
theorem i_inj {a b : Int32} (h : a.toInt = b.toInt) : a = b := Int32.toInt_inj.mp h
theorem t_rng (x : Int32) : -2147483648 ≤ x.toInt ∧ x.toInt < 2147483648 := ⟨Int32.le_toInt x, Int32.toInt_lt x⟩
theorem t_bmod {z : Int} (h1 : -2147483648 ≤ z) (h2 : z < 2147483648) : z.bmod (2 ^ 32) = z := by
  rw [Int.bmod_eq_of_le] <;> omega
theorem t_add {x y : Int32} (h1 : -2147483648 ≤ x.toInt + y.toInt) (h2 : x.toInt + y.toInt < 2147483648) : (x + y).toInt = x.toInt + y.toInt := by
  rw [Int32.toInt_add]; exact t_bmod h1 h2
theorem t_sub {x y : Int32} (h1 : -2147483648 ≤ x.toInt - y.toInt) (h2 : x.toInt - y.toInt < 2147483648) : (x - y).toInt = x.toInt - y.toInt := by
  rw [Int32.toInt_sub]; exact t_bmod h1 h2
theorem t_neg {x : Int32} (h1 : -2147483648 < x.toInt) : (-x).toInt = -x.toInt := by
  rw [Int32.toInt_neg]; exact t_bmod (by have := t_rng x; omega) (by have := t_rng x; omega)
/-- an int from 0 on is nI of its clamp -/
theorem nI_cl {x : Int32} (h : 0 ≤ x.toInt) : x = nI x.toNatClampNeg := by
  apply i_inj
  rw [nI_toInt]
  · show x.toInt = (x.toInt.toNat : Int); omega
  · have := t_rng x; show x.toInt.toNat < 2 ^ 31; omega
theorem cl_toInt {x : Int32} (h : 0 ≤ x.toInt) : (x.toNatClampNeg : Int) = x.toInt := by
  show (x.toInt.toNat : Int) = x.toInt; omega
def bI (c : Bool) : Int32 := if c then 1 else 0
theorem bI_1 {P : Prop} [Decidable P] (h : P) : bI (decide P) = 1 := by simp [bI, h]
theorem bI_0 {P : Prop} [Decidable P] (h : ¬ P) : bI (decide P) = 0 := by simp [bI, h]
theorem bI_f {P : Prop} [Decidable P] (h : bI (decide P) = 0) : ¬ P := fun q => by rw [bI_1 q] at h; exact absurd h (by decide)
theorem bI_t {P : Prop} [Decidable P] (h : ¬ bI (decide P) = 0) : P := Decidable.byContradiction (fun q => h (bI_0 q))
theorem bI_nar (c : Bool) : narrow .boolean (.int (bI c)) = .int (bI c) := by cases c <;> rfl
/-- what stands at a place of a row of n words; -1: none -/
def atF (n : Nat) (W : Nat → Int32) (x : Int32) : Int32 := if 0 ≤ x.toInt ∧ x.toInt < n then W x.toNatClampNeg else -1
def RowAt (cell : Nat → va_E) (adr : Nat → Nat) (kc : Nat → ClassId) (r : Nat) (W T U : Nat → Int32) (n : Nat) : Prop := cell r = .inr (4, [.ref (adr (r + 1)), .ref (adr (r + 2)), .ref (adr (r + 3)), .int (nI n)]) ∧ cell (r + 1) = .inl (kc 0, 40, .inl W) ∧ cell (r + 2) = .inl (kc 0, 40, .inl T) ∧ cell (r + 3) = .inl (kc 0, 40, .inl U) ∧ n ≤ 40
def AncAt (cell : Nat → va_E) (adr : Nat → Nat) (kc : Nat → ClassId) (a : Nat) (p v : Int32) (f : Nat → Int32) : Prop := cell a = .inr (0, [.ref (adr (a + 1)), .int p, .int v]) ∧ cell (a + 1) = .inl (kc 0, 5, .inl f)
def fill (f g : Nat → Int32) (i : Nat) : Nat → Int32 := fun p => if p < i then f p else g p
theorem fill_0 {f g : Nat → Int32} : g = fill f g 0 := by funext p; simp [fill]
theorem fill_upd {f g : Nat → Int32} {i : Nat} {v : Int32} (h : v = f i) : upd (fill f g i) i v = fill f g (i + 1) := by
  funext p
  subst h
  unfold fill upd
  by_cases h1 : p = i
  · subst h1; simp
  · simp only [if_neg h1]
    by_cases h2 : p < i
    · rw [if_pos h2, if_pos (by omega)]
    · rw [if_neg h2, if_neg (by omega)]
theorem fill_in {f g : Nat → Int32} {i p : Nat} (h : p < i) : fill f g i p = f p := if_pos h
theorem fill_out {f g : Nat → Int32} {i p : Nat} (h : i ≤ p) : fill f g i p = g p := if_neg (by omega)
theorem atF_nI {n : Nat} {W : Nat → Int32} {i : Nat} (h : i < n) (hn : n < 2 ^ 31) : atF n W (nI i) = W i := by
  unfold atF
  rw [nI_toInt (by omega), nI_clamp (by omega), if_pos (by omega)]
theorem upd_s {f : Nat → Int32} {i : Nat} {v : Int32} : upd f i v i = v := by simp [upd]
theorem upd_n {f : Nat → Int32} {i j : Nat} {v : Int32} (h : j ≠ i) : upd f i v j = f j := by simp [upd, h]
/-- the words of a row, brought where the targets say -/
def rlF (W T : Nat → Int32) (U : Nat → Int32) : Nat → Nat → Int32
  | 0 => U
  | i + 1 => if 0 ≤ (T i).toInt ∧ (T i).toInt < 40 then upd (rlF W T U i) (T i).toNatClampNeg (W i) else rlF W T U i
theorem rl_keep {W T U : Nat → Int32} {j p : Nat} : ∀ {m : Nat}, p ≤ m → (∀ k, p ≤ k → k < m → 0 ≤ (T k).toInt → (T k).toNatClampNeg ≠ j) → rlF W T U m j = rlF W T U p j := by
  intro m
  induction m with
  | zero => intro h _; rw [show p = 0 by omega]
  | succ m ih =>
    intro h hk
    by_cases e : p = m + 1
    · rw [e]
    · have h1 := ih (by omega) (fun k a b => hk k a (by omega))
      rw [← h1]
      show (if 0 ≤ (T m).toInt ∧ (T m).toInt < 40 then upd (rlF W T U m) (T m).toNatClampNeg (W m) else rlF W T U m) j = _
      by_cases c : 0 ≤ (T m).toInt ∧ (T m).toInt < 40
      · rw [if_pos c, upd_n (fun q => hk m (by omega) (by omega) c.1 q.symm)]
      · rw [if_neg c]
theorem rl_hit {W T U : Nat → Int32} {j p m : Nat} (hp : p < m) (h0 : 0 ≤ (T p).toInt) (h1 : (T p).toInt < 40) (hj : (T p).toNatClampNeg = j) (hk : ∀ k, p < k → k < m → 0 ≤ (T k).toInt → (T k).toNatClampNeg ≠ j) : rlF W T U m j = W p := by
  rw [rl_keep (p := p + 1) (by omega) (fun k a b => hk k (by omega) b)]
  show (if 0 ≤ (T p).toInt ∧ (T p).toInt < 40 then upd (rlF W T U p) (T p).toNatClampNeg (W p) else rlF W T U p) j = _
  rw [if_pos ⟨h0, h1⟩, ← hj, upd_s]
theorem rl_nI {W T U : Nat → Int32} {t : Nat → Nat} {j p m : Nat} (hp : p < m) (hT : ∀ k, p ≤ k → k < m → T k = nI (t k)) (ht : ∀ k, p ≤ k → k < m → t k < 40) (hj : t p = j) (hk : ∀ k, p < k → k < m → t k ≠ j) : rlF W T U m j = W p := by
  have e0 := hT p (Nat.le_refl _) hp
  have l0 := ht p (Nat.le_refl _) hp
  refine rl_hit hp (by rw [e0, nI_toInt (by omega)]; omega) (by rw [e0, nI_toInt (by omega)]; omega) (by rw [e0, nI_clamp (by omega)]; exact hj) (fun k a b c => ?_)
  rw [hT k (by omega) b, nI_clamp (by have := ht k (by omega) b; omega)]
  exact hk k a b
/-- a word put in -/
def insP (q p : Nat) : Nat := if p < q then p else p + 1
def insW (q : Nat) (w : Int32) (W : Nat → Int32) (p : Nat) : Int32 := if p < q then W p else if p = q then w else W (p - 1)
/-- a word taken out -/
def remW (q : Nat) (W : Nat → Int32) (p : Nat) : Int32 := if p < q then W p else W (p + 1)
def remP (q p : Nat) : Int32 := if p < q then nI p else if p = q then -1 else nI (p - 1)
/-- a block moved -/
def pasF (f k t p : Nat) : Nat := if f ≤ p ∧ p < f + k then p - f + t else if (if p < f then p else p - k) < t then (if p < f then p else p - k) else (if p < f then p else p - k) + k
