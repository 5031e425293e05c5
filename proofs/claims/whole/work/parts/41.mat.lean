/-! THE MODEL in its own world of nine cells. -/
def MB (cell : Nat → va_E) (adr : Nat → Nat) (kc : Nat → ClassId) (S Wa Bg As : Nat → Int32) (st : Int32) (tx : Nat → Int32) (ty at' re : Int32) (nu mo sh : Nat → Int32) : Prop :=
  cell 0 = .inr (7, [.ref (adr 1), .ref (adr 2), .ref (adr 3), .ref (adr 4), .int st, .ref (adr 5), .int ty, .int at', .int re, .ref (adr 6), .ref (adr 7), .ref (adr 8)]) ∧ cell 1 = .inl (kc 0, 90, .inl S) ∧ cell 2 = .inl (kc 0, 360, .inl Wa) ∧ cell 3 = .inl (kc 0, 90, .inl Bg) ∧ cell 4 = .inl (kc 0, 90, .inl As) ∧ cell 5 = .inl (kc 1, 60, .inl tx) ∧ cell 6 = .inl (kc 0, 3, .inl nu) ∧ cell 7 = .inl (kc 0, 40, .inl mo) ∧ cell 8 = .inl (kc 0, 6, .inl sh)
/-- the row of numbers S stands for the state σ -/
def MS (S : Nat → Int32) (σ : SD) : Prop := S 0 = nI σ.1 ∧ S 1 = nI σ.2.1 ∧ S 2 = σ.2.2.1 ∧ (∀ k, k < 5 → S (3 + k) = σ.2.2.2.2.2.2.1 k) ∧ (∀ p, p < σ.1 → S (8 + p) = σ.2.2.2.1 p) ∧ ∀ k, k < σ.2.1 → S (48 + 7 * k) = σ.2.2.2.2.2.2.2.1 k ∧ S (49 + 7 * k) = σ.2.2.2.2.2.2.2.2.1 k ∧ ∀ j, j < 5 → S (50 + 7 * k + j) = σ.2.2.2.2.2.2.2.2.2 k j
def MAt (cell : Nat → va_E) (adr : Nat → Nat) (kc : Nat → ClassId) (σ : SD) (hn : Nat) (hi : Nat → SD) (L : Nat) (ch : Nat → Int32) : Prop :=
  ∃ (S Wa Bg As tx : Nat → Int32) (at' re : Int32) (nu mo sh : Nat → Int32), MB cell adr kc S Wa Bg As (nI hn) tx (nI L) at' re nu mo sh ∧ MS S σ ∧ (∀ i, i < hn → MS (fun k => Wa (90 * i + k)) (hi i)) ∧ (∀ j, j < L → tx j = ch j) ∧ hn ≤ 4 ∧ L ≤ 60
def m00 : Nat → Int32 := upd (upd (upd (upd (upd (fun _ => 0) (3 : Int32).toNatClampNeg 6) (4 : Int32).toNatClampNeg 3) (5 : Int32).toNatClampNeg 1) (6 : Int32).toNatClampNeg 5) (7 : Int32).toNatClampNeg 2
theorem ms00 : MS m00 s00 := by
  refine ⟨rfl, rfl, rfl, ?_, fun p hp => absurd hp (Nat.not_lt_zero p), fun k hk => absurd hk (Nat.not_lt_zero k)⟩
  intro k hk
  match k, hk with
  | 0, _ => rfl
  | 1, _ => rfl
  | 2, _ => rfl
  | 3, _ => rfl
  | 4, _ => rfl
theorem mI_add (a b : Nat) : nI a + nI b = nI (a + b) := by
  show Int32.ofNat a + Int32.ofNat b = Int32.ofNat (a + b)
  exact (Int32.ofNat_add a b).symm
theorem mI_mul (a b : Nat) : nI a * nI b = nI (a * b) := by
  show Int32.ofNat a * Int32.ofNat b = Int32.ofNat (a * b)
  exact (Int32.ofNat_mul a b).symm
theorem mI_sub {a b : Nat} (h : b ≤ a) (ha : a < 2 ^ 31) : nI a - nI b = nI (a - b) := by
  apply i_inj
  have h1 : (nI a).toInt = (a : Int) := nI_toInt (by omega)
  have h2 : (nI b).toInt = (b : Int) := nI_toInt (by omega)
  have h3 : (nI (a - b)).toInt = ((a - b : Nat) : Int) := nI_toInt (by omega)
  rw [t_sub (by omega) (by omega)]
  omega
theorem scF_rng {n : Nat} {W E f : Nat → Int32} {x : Int32} (hE : ∀ k, k < 3 → 0 ≤ (E k).toInt ∧ (E k).toInt ≤ 20) : ∀ k, k ≤ 5 → 0 ≤ (scF n W E f x k).toInt ∧ (scF n W E f x k).toInt ≤ 20 * k := by
  intro k
  induction k with
  | zero => intro _; exact ⟨show (0 : Int) ≤ (0 : Int32).toInt by decide, show (0 : Int32).toInt ≤ 20 * (0 : Int) by decide⟩
  | succ k ih =>
    intro hk
    obtain ⟨h1, h2⟩ := ih (by omega)
    have hw : 0 ≤ (wgt E k).toInt ∧ (wgt E k).toInt ≤ 20 := by
      unfold wgt
      exact hE _ (by split <;> omega)
    by_cases c : f k = atF n W (x + nI k - 2)
    · rw [← scF_yes c, t_add (by omega) (by omega)]; omega
    · rw [← scF_no c]; omega
theorem scr_rng {n : Nat} {W E f : Nat → Int32} {x : Int32} (hE : ∀ k, k < 3 → 0 ≤ (E k).toInt ∧ (E k).toInt ≤ 20) : 0 ≤ (scr n W E f x).toInt ∧ (scr n W E f x).toInt ≤ 100 := scF_rng hE 5 (Nat.le_refl 5)
theorem bst_none {n : Nat} {W E f : Nat → Int32} {p x : Int32} : ∀ i, i < 2 ^ 31 → (bstF n W E f p x i).1 = -1 → bstF n W E f p x i = (-1, 0, 0) := by
  intro i
  induction i with
  | zero => intro _ _; rfl
  | succ i ih =>
    intro hi h
    unfold bstF at h ⊢
    split at h
    · exfalso
      have h1 : (nI i).toInt = (i : Int) := nI_toInt (by omega)
      have h2 := congrArg Int32.toInt h
      rw [show (-1 : Int32).toInt = -1 from rfl] at h2
      have h3 : (nI i).toInt = -1 := h2
      omega
    · next hc => rw [if_neg hc]; exact ih (by omega) h
/-- the model's 'most': below any score as long as nothing is found -/
def mmF (B : Int32 × Int32 × Int32) : Int32 := if B.1 = -1 then -1 else B.2.1
theorem nI_m1 {i : Nat} (h : i < 2 ^ 31) : ¬ nI i = -1 := fun q => by
  have h1 : (nI i).toInt = (i : Int) := nI_toInt h
  rw [q] at h1
  have h3 : (-1 : Int32).toInt = -1 := rfl
  omega
theorem mm_gt {B : Int32 × Int32 × Int32} {v z : Int32} (h : mmF B < v) : B.1 = -1 ∨ B.2.1 < v ∨ (v = B.2.1 ∧ ¬ B.2.2 ≤ z) := by
  unfold mmF at h
  by_cases c : B.1 = -1
  · exact Or.inl c
  · rw [if_neg c] at h; exact Or.inr (Or.inl h)
theorem mm_pos {B : Int32 × Int32 × Int32} {v : Int32} (hv : 0 ≤ v.toInt) (h : ¬ mmF B < v) : ¬ B.1 = -1 ∧ ¬ B.2.1 < v := by
  unfold mmF at h
  by_cases c : B.1 = -1
  · rw [if_pos c] at h
    exact absurd (Int32.lt_iff_toInt_lt.mpr (by rw [show (-1 : Int32).toInt = -1 from rfl]; omega)) h
  · rw [if_neg c] at h; exact ⟨c, h⟩
theorem mm_ne {B : Int32 × Int32 × Int32} {v z : Int32} (hv : 0 ≤ v.toInt) (h : ¬ mmF B < v) (hne : ¬ v = mmF B) : ¬ (B.1 = -1 ∨ B.2.1 < v ∨ (v = B.2.1 ∧ ¬ B.2.2 ≤ z)) := by
  obtain ⟨h1, h2⟩ := mm_pos hv h
  unfold mmF at hne
  rw [if_neg h1] at hne
  exact fun q => q.elim h1 (fun q => q.elim h2 (fun q => hne q.1))
theorem mm_eq {B : Int32 × Int32 × Int32} {v : Int32} (hv : 0 ≤ v.toInt) (h : v = mmF B) : ¬ B.1 = -1 ∧ v = B.2.1 := by
  unfold mmF at h
  by_cases c : B.1 = -1
  · rw [if_pos c] at h
    rw [h, show (-1 : Int32).toInt = -1 from rfl] at hv
    omega
  · rw [if_neg c] at h; exact ⟨c, h⟩
theorem mm_le {B : Int32 × Int32 × Int32} {v z : Int32} (hv : 0 ≤ v.toInt) (h : v = mmF B) (hz : B.2.2 ≤ z) : ¬ (B.1 = -1 ∨ B.2.1 < v ∨ (v = B.2.1 ∧ ¬ B.2.2 ≤ z)) := by
  obtain ⟨h1, h2⟩ := mm_eq hv h
  exact fun q => q.elim h1 (fun q => q.elim (fun q => by rw [← h2] at q; exact Int32.lt_irrefl q) (fun q => q.2 hz))
theorem mm_lt {B : Int32 × Int32 × Int32} {v z : Int32} (hv : 0 ≤ v.toInt) (h : v = mmF B) (hz : ¬ B.2.2 ≤ z) : B.1 = -1 ∨ B.2.1 < v ∨ (v = B.2.1 ∧ ¬ B.2.2 ≤ z) := Or.inr (Or.inr ⟨(mm_eq hv h).2, hz⟩)
theorem bp_lt {n : Nat} {W E f : Nat → Int32} {p x : Int32} (hn : n ≤ 40) (h : bpF n W E f p x < 0) : bpF n W E f p x = -1 := by
  rcases bst_rng (n := n) (W := W) (E := E) (f := f) (p := p) (x := x) n (by omega) with q | ⟨q, h1, h2⟩
  · exact q
  · have h3 : (nI q).toInt = (q : Int) := nI_toInt (by omega)
    have h4 := i_lt h
    unfold bpF at h4
    rw [h2, h3, show (0 : Int32).toInt = 0 from rfl] at h4
    omega
theorem bp_nlt {n : Nat} {W E f : Nat → Int32} {p x : Int32} (h : ¬ bpF n W E f p x < 0) : ¬ bpF n W E f p x = -1 := fun q => by
  rw [q] at h
  exact h (by decide)
theorem stand_2 {n : Nat} {W E f : Nat → Int32} {p : Int32} : standF n W E f p = 2 ↔ lostF n W E f (bpF n W E f p (-1)) = true := by
  unfold standF
  by_cases c : lostF n W E f (bpF n W E f p (-1)) = true
  · rw [if_pos c]; exact ⟨fun _ => c, fun _ => rfl⟩
  · rw [if_neg c]
    refine ⟨fun h => ?_, fun h => absurd h c⟩
    exfalso
    split at h
    · exact absurd h (by decide)
    · exact absurd h (by decide)
