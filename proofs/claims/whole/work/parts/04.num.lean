/-! NUMBERS, and the cells of a row, an anchor, a state -/
theorem iinc_nI (a : Nat) : nI a + Int32.ofInt 1 = nI (a + 1) := nI_1 a
theorem i_lt {a b : Int32} (h : a < b) : a.toInt < b.toInt := Int32.lt_iff_toInt_lt.mp h
theorem i_nlt {a b : Int32} (h : ¬ a < b) : b.toInt ≤ a.toInt := Int.not_lt.mp (fun q => h (Int32.lt_iff_toInt_lt.mpr q))
theorem i_le {a b : Int32} (h : a ≤ b) : a.toInt ≤ b.toInt := Int32.le_iff_toInt_le.mp h
theorem i_nle {a b : Int32} (h : ¬ a ≤ b) : b.toInt < a.toInt := Int.not_le.mp (fun q => h (Int32.le_iff_toInt_le.mpr q))
theorem i_eq {a b : Int32} (h : a = b) : a.toInt = b.toInt := congrArg _ h
theorem i_ne {a b : Int32} (h : ¬ a = b) : a.toInt ≠ b.toInt := fun q => h (Int32.toInt_inj.mp q)
theorem i_inj {a b : Int32} (h : a.toInt = b.toInt) : a = b := Int32.toInt_inj.mp h
theorem t_rng (x : Int32) : -2147483648 ≤ x.toInt ∧ x.toInt < 2147483648 := ⟨Int32.le_toInt x, Int32.toInt_lt x⟩
theorem t_bmod {z : Int} (h1 : -2147483648 ≤ z) (h2 : z < 2147483648) : z.bmod (2 ^ 32) = z := by
  rw [Int.bmod_eq_of_le] <;> omega
theorem t_add {x y : Int32} (h1 : -2147483648 ≤ x.toInt + y.toInt) (h2 : x.toInt + y.toInt < 2147483648) : (x + y).toInt = x.toInt + y.toInt := by
  rw [Int32.toInt_add]; exact t_bmod h1 h2
theorem t_sub {x y : Int32} (h1 : -2147483648 ≤ x.toInt - y.toInt) (h2 : x.toInt - y.toInt < 2147483648) : (x - y).toInt = x.toInt - y.toInt := by
  rw [Int32.toInt_sub]; exact t_bmod h1 h2
theorem t_neg {x : Int32} (h1 : -2147483648 < x.toInt) : (-x).toInt = -x.toInt := by
  rw [Int32.toInt_neg]; exact t_bmod (by have := t_rng x; omega) (by have := t_rng x; omega)
/-- an int from 0 on is nI of its clamp -/
theorem nI_cl {x : Int32} (h : 0 ≤ x.toInt) : x = nI x.toNatClampNeg := by
  apply i_inj
  rw [nI_toInt]
  · show x.toInt = (x.toInt.toNat : Int); omega
  · have := t_rng x; show x.toInt.toNat < 2 ^ 31; omega
theorem cl_toInt {x : Int32} (h : 0 ≤ x.toInt) : (x.toNatClampNeg : Int) = x.toInt := by
  show (x.toInt.toNat : Int) = x.toInt; omega
def bI (c : Bool) : Int32 := if c then 1 else 0
theorem bI_1 {P : Prop} [Decidable P] (h : P) : bI (decide P) = 1 := by simp [bI, h]
theorem bI_0 {P : Prop} [Decidable P] (h : ¬ P) : bI (decide P) = 0 := by simp [bI, h]
theorem bI_f {P : Prop} [Decidable P] (h : bI (decide P) = 0) : ¬ P := fun q => by rw [bI_1 q] at h; exact absurd h (by decide)
theorem bI_t {P : Prop} [Decidable P] (h : ¬ bI (decide P) = 0) : P := Decidable.byContradiction (fun q => h (bI_0 q))
theorem bI_nar (c : Bool) : narrow .boolean (.int (bI c)) = .int (bI c) := by cases c <;> rfl
/-- what stands at a place of a row of n words; -1: none -/
def atF (n : Nat) (W : Nat → Int32) (x : Int32) : Int32 := if 0 ≤ x.toInt ∧ x.toInt < n then W x.toNatClampNeg else -1
def RowAt (cell : Nat → va_E) (adr : Nat → Nat) (kc : Nat → ClassId) (r : Nat) (W T U : Nat → Int32) (n : Nat) : Prop := cell r = .inr (4, [.ref (adr (r + 1)), .ref (adr (r + 2)), .ref (adr (r + 3)), .int (nI n)]) ∧ cell (r + 1) = .inl (kc 0, 40, .inl W) ∧ cell (r + 2) = .inl (kc 0, 40, .inl T) ∧ cell (r + 3) = .inl (kc 0, 40, .inl U) ∧ n ≤ 40
def AncAt (cell : Nat → va_E) (adr : Nat → Nat) (kc : Nat → ClassId) (a : Nat) (p v : Int32) (f : Nat → Int32) : Prop := cell a = .inr (0, [.ref (adr (a + 1)), .int p, .int v]) ∧ cell (a + 1) = .inl (kc 0, 5, .inl f)
def fill (f g : Nat → Int32) (i : Nat) : Nat → Int32 := fun p => if p < i then f p else g p
theorem fill_0 {f g : Nat → Int32} : g = fill f g 0 := by funext p; simp [fill]
theorem fill_upd {f g : Nat → Int32} {i : Nat} {v : Int32} (h : v = f i) : upd (fill f g i) i v = fill f g (i + 1) := by
  funext p
  subst h
  unfold fill upd
  by_cases h1 : p = i
  · subst h1; simp
  · simp only [if_neg h1]
    by_cases h2 : p < i
    · rw [if_pos h2, if_pos (by omega)]
    · rw [if_neg h2, if_neg (by omega)]
theorem fill_in {f g : Nat → Int32} {i p : Nat} (h : p < i) : fill f g i p = f p := if_pos h
theorem fill_out {f g : Nat → Int32} {i p : Nat} (h : i ≤ p) : fill f g i p = g p := if_neg (by omega)
theorem atF_nI {n : Nat} {W : Nat → Int32} {i : Nat} (h : i < n) (hn : n < 2 ^ 31) : atF n W (nI i) = W i := by
  unfold atF
  rw [nI_toInt (by omega), nI_clamp (by omega), if_pos (by omega)]
theorem upd_s {f : Nat → Int32} {i : Nat} {v : Int32} : upd f i v i = v := by simp [upd]
theorem upd_n {f : Nat → Int32} {i j : Nat} {v : Int32} (h : j ≠ i) : upd f i v j = f j := by simp [upd, h]
/-- the words of a row, brought where the targets say -/
def rlF (W T : Nat → Int32) (U : Nat → Int32) : Nat → Nat → Int32
  | 0 => U
  | i + 1 => if 0 ≤ (T i).toInt ∧ (T i).toInt < 40 then upd (rlF W T U i) (T i).toNatClampNeg (W i) else rlF W T U i
theorem rl_keep {W T U : Nat → Int32} {j p : Nat} : ∀ {m : Nat}, p ≤ m → (∀ k, p ≤ k → k < m → 0 ≤ (T k).toInt → (T k).toNatClampNeg ≠ j) → rlF W T U m j = rlF W T U p j := by
  intro m
  induction m with
  | zero => intro h _; rw [show p = 0 by omega]
  | succ m ih =>
    intro h hk
    by_cases e : p = m + 1
    · rw [e]
    · have h1 := ih (by omega) (fun k a b => hk k a (by omega))
      rw [← h1]
      show (if 0 ≤ (T m).toInt ∧ (T m).toInt < 40 then upd (rlF W T U m) (T m).toNatClampNeg (W m) else rlF W T U m) j = _
      by_cases c : 0 ≤ (T m).toInt ∧ (T m).toInt < 40
      · rw [if_pos c, upd_n (fun q => hk m (by omega) (by omega) c.1 q.symm)]
      · rw [if_neg c]
theorem rl_hit {W T U : Nat → Int32} {j p m : Nat} (hp : p < m) (h0 : 0 ≤ (T p).toInt) (h1 : (T p).toInt < 40) (hj : (T p).toNatClampNeg = j) (hk : ∀ k, p < k → k < m → 0 ≤ (T k).toInt → (T k).toNatClampNeg ≠ j) : rlF W T U m j = W p := by
  rw [rl_keep (p := p + 1) (by omega) (fun k a b => hk k (by omega) b)]
  show (if 0 ≤ (T p).toInt ∧ (T p).toInt < 40 then upd (rlF W T U p) (T p).toNatClampNeg (W p) else rlF W T U p) j = _
  rw [if_pos ⟨h0, h1⟩, ← hj, upd_s]
theorem rl_nI {W T U : Nat → Int32} {t : Nat → Nat} {j p m : Nat} (hp : p < m) (hT : ∀ k, p ≤ k → k < m → T k = nI (t k)) (ht : ∀ k, p ≤ k → k < m → t k < 40) (hj : t p = j) (hk : ∀ k, p < k → k < m → t k ≠ j) : rlF W T U m j = W p := by
  have e0 := hT p (Nat.le_refl _) hp
  have l0 := ht p (Nat.le_refl _) hp
  refine rl_hit hp (by rw [e0, nI_toInt (by omega)]; omega) (by rw [e0, nI_toInt (by omega)]; omega) (by rw [e0, nI_clamp (by omega)]; exact hj) (fun k a b c => ?_)
  rw [hT k (by omega) b, nI_clamp (by have := ht k (by omega) b; omega)]
  exact hk k a b
/-- a word put in -/
def insP (q p : Nat) : Nat := if p < q then p else p + 1
def insW (q : Nat) (w : Int32) (W : Nat → Int32) (p : Nat) : Int32 := if p < q then W p else if p = q then w else W (p - 1)
/-- a word taken out -/
def remW (q : Nat) (W : Nat → Int32) (p : Nat) : Int32 := if p < q then W p else W (p + 1)
def remP (q p : Nat) : Int32 := if p < q then nI p else if p = q then -1 else nI (p - 1)
/-- a block moved -/
def pasF (f k t p : Nat) : Nat := if f ≤ p ∧ p < f + k then p - f + t else if (if p < f then p else p - k) < t then (if p < f then p else p - k) else (if p < f then p else p - k) + k
theorem pas_lt {f k t p n : Nat} (h1 : f + k ≤ n) (h2 : t + k ≤ n) (hp : p < n) : pasF f k t p < n := by
  unfold pasF; (repeat' split) <;> omega
theorem pas_inv {f k t p n : Nat} (h1 : f + k ≤ n) (h2 : t + k ≤ n) (hp : p < n) : pasF f k t (pasF t k f p) = p := by
  unfold pasF; (repeat' split) <;> omega
theorem insW_ok {W T U : Nat → Int32} {q n : Nat} {w : Int32} (hq : q ≤ n) (hn : n < 40) : ∀ p : Nat, p < n + 1 → upd (fill (rlF W (fill (fun k => nI (insP q k)) T 40) U n) W (n + 1)) q w p = insW q w W p := by
  intro p hp
  unfold insW
  by_cases e : p = q
  · subst e; rw [upd_s, if_neg (Nat.lt_irrefl p), if_pos rfl]
  · rw [upd_n e, fill_in hp]
    by_cases l : p < q
    · rw [if_pos l]
      exact rl_nI (t := insP q) (by omega) (fun k a b => fill_in (by omega)) (fun k a b => by unfold insP; split <;> omega) (by unfold insP; rw [if_pos l]) (fun k a b => by unfold insP; split <;> omega)
    · rw [if_neg l, if_neg e]
      exact rl_nI (t := insP q) (p := p - 1) (by omega) (fun k a b => fill_in (by omega)) (fun k a b => by unfold insP; split <;> omega) (by unfold insP; rw [if_neg (by omega)]; omega) (fun k a b => by unfold insP; split <;> omega)
theorem remW_ok {W T U : Nat → Int32} {q n : Nat} (hq : q < n) (hn : n ≤ 40) : ∀ p : Nat, p < n - 1 → fill (rlF W (fill (remP q) T 40) U n) W (n - 1) p = remW q W p := by
  intro p hp
  have tv : ∀ k : Nat, k < 40 → k ≠ q → fill (remP q) T 40 k = nI (if k < q then k else k - 1) := by
    intro k hk e
    rw [fill_in hk]
    unfold remP
    by_cases l : k < q
    · simp only [if_pos l]
    · simp only [if_neg l, if_neg e]
  have tq : fill (remP q) T 40 q = -1 := by
    rw [fill_in (by omega)]
    unfold remP
    rw [if_neg (Nat.lt_irrefl q), if_pos rfl]
  rw [fill_in hp]
  unfold remW
  have key : ∀ s : Nat, s < n → s ≠ q → (if s < q then s else s - 1) = p → rlF W (fill (remP q) T 40) U n p = W s := by
    intro s hs hsq e
    refine rl_hit hs (by rw [tv s (by omega) hsq, nI_toInt (by omega)]; omega) (by rw [tv s (by omega) hsq, nI_toInt (by omega)]; omega) (by rw [tv s (by omega) hsq, nI_clamp (by omega)]; exact e) (fun k a b c => ?_)
    by_cases kq : k = q
    · subst kq; rw [tq] at c; exact absurd c (by decide)
    · rw [tv k (by omega) kq, nI_clamp (by split <;> omega)]
      split at e <;> split <;> omega
  by_cases l : p < q
  · rw [if_pos l]; exact key p (by omega) (by omega) (if_pos l)
  · rw [if_neg l]; exact key (p + 1) (by omega) (by omega) (by rw [if_neg (by omega)]; omega)
theorem remP_lo {q i : Nat} (h : i < q) : nI i = remP q i := by unfold remP; rw [if_pos h]
theorem remP_eq {q i : Nat} (h : i = q) : -1 = remP q i := by subst h; unfold remP; rw [if_neg (Nat.lt_irrefl i), if_pos rfl]
theorem remP_hi {q i : Nat} (h : q < i) (hi : i < 2 ^ 31) : nI i - 1 = remP q i := by
  unfold remP; rw [if_neg (by omega), if_neg (by omega)]; exact pk_sub (b := 1) (by omega)
theorem pas_ok {W T U : Nat → Int32} {f k t n : Nat} (h1 : f + k ≤ n) (h2 : t + k ≤ n) (hn : n ≤ 40) : ∀ p : Nat, p < n → fill (rlF W (fill (fun q => nI (pasF f k t q)) T 40) U n) W n p = W (pasF t k f p) := by
  intro p hp
  rw [fill_in hp]
  refine rl_nI (t := pasF f k t) (pas_lt h2 h1 hp) (fun q a b => fill_in (by omega)) (fun q a b => by have := pas_lt h1 h2 b; omega) (pas_inv h1 h2 hp) (fun q a b e => ?_)
  have := pas_inv h2 h1 b
  rw [e] at this
  omega
/-- how many numbers below n have something -/
def cnt (P : Nat → Bool) : Nat → Nat
  | 0 => 0
  | i + 1 => cnt P i + if P i then 1 else 0
theorem cnt_le (P : Nat → Bool) : ∀ n, cnt P n ≤ n
  | 0 => Nat.le_refl 0
  | n + 1 => by have := cnt_le P n; show cnt P n + (if P n then 1 else 0) ≤ n + 1; split <;> omega
theorem cnt_yes {P : Nat → Bool} {i : Nat} (h : P i = true) : nI (cnt P i + 1) = nI (cnt P (i + 1)) := by
  show _ = nI (cnt P i + if P i then 1 else 0); rw [if_pos h]
theorem cnt_no {P : Nat → Bool} {i : Nat} (h : ¬ P i = true) : nI (cnt P i) = nI (cnt P (i + 1)) := by
  show _ = nI (cnt P i + if P i then 1 else 0); rw [if_neg h]; rfl
theorem cnt_cong {P Q : Nat → Bool} : ∀ {n : Nat}, (∀ i, i < n → P i = Q i) → cnt P n = cnt Q n
  | 0, _ => rfl
  | n + 1, h => by show cnt P n + (if P n then 1 else 0) = cnt Q n + (if Q n then 1 else 0); rw [cnt_cong (fun i hi => h i (by omega)), h n (by omega)]
/-- whether v stands among the first i words -/
def seenF (W : Nat → Int32) (v : Int32) : Nat → Bool
  | 0 => false
  | i + 1 => seenF W v i || decide (W i = v)
theorem seen_hit {W : Nat → Int32} {v : Int32} {i : Nat} (h : W i = v) : ∀ {q : Nat}, i < q → seenF W v q = true
  | 0, hq => absurd hq (Nat.not_lt_zero i)
  | q + 1, hq => by
    show (seenF W v q || decide (W q = v)) = true
    by_cases e : i = q
    · subst e; simp [h]
    · rw [seen_hit h (show i < q by omega)]; rfl
theorem seen_no {W : Nat → Int32} {v : Int32} {i : Nat} (h : ¬ W i = v) (h0 : seenF W v i = false) : seenF W v (i + 1) = false := by
  show (seenF W v i || decide (W i = v)) = false
  rw [h0]; simp [h]
theorem seen_cong {W W' : Nat → Int32} {v : Int32} : ∀ {q : Nat}, (∀ i, i < q → W i = W' i) → seenF W v q = seenF W' v q
  | 0, _ => rfl
  | q + 1, h => by show (seenF W v q || decide (W q = v)) = (seenF W' v q || decide (W' q = v)); rw [seen_cong (fun i hi => h i (by omega)), h q (by omega)]
theorem bI_b1 {b : Bool} (h : b = true) : bI b = 1 := by rw [h]; rfl
theorem bI_b0 {b : Bool} (h : b = false) : bI b = 0 := by rw [h]; rfl
theorem bI_bf {b : Bool} (h : bI b = 0) : b = false := by cases b; rfl; exact absurd h (by decide)
theorem bI_bt {b : Bool} (h : ¬ bI b = 0) : b = true := by cases b; exact absurd rfl h; rfl
/-! ANCHORS -/
theorem addsub (a b c : Int32) : a + (b - c) = a + b - c := by
  rw [Int32.sub_eq_add_neg, Int32.sub_eq_add_neg, Int32.add_assoc]
def lookF (n : Nat) (W : Nat → Int32) (p : Int32) (k : Nat) : Int32 := atF n W (p + nI k - 2)
theorem fill_full {f g : Nat → Int32} {n p : Nat} (h : p < n) : fill f g n p = f p := fill_in h
