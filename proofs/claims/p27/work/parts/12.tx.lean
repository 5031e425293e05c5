/-! THE TEXT -/
def TxAt (cell : Nat → va_E) (adr : Nat → Nat) (kc : Nat → ClassId) (t L : Nat) (sx nx sg : Int32) (ch nu : Nat → Int32) : Prop := cell t = .inr (2, [.ref (adr (t + 1)), .ref (adr (t + 2)), .int (nI L), .int sx, .int nx, .int sg]) ∧ cell (t + 1) = .inl (kc 1, 60, .inl ch) ∧ cell (t + 2) = .inl (kc 0, 3, .inl nu) ∧ L ≤ 60
def isC (v : Int32) : Prop := ∃ q : Nat, q < 127 ∧ v = nI q
theorem isC_n {v : Int32} (h : isC v) : narrow .char (.int v) = .int v := by obtain ⟨q, h1, rfl⟩ := h; exact (pk_charN (by omega)).1
theorem isC_f {v : Int32} (h : isC v) : fits .char (.int v) = true := by obtain ⟨q, h1, rfl⟩ := h; exact (pk_charN (by omega)).2
theorem isC_p {v : Int32} (h : isC v) : vp_nar .char v = v := by unfold vp_nar; rw [isC_n h]
theorem isC_0 : isC 0 := ⟨0, by omega, rfl⟩
def chF (L : Nat) (ch : Nat → Int32) (a : Nat) : Int32 := if a < L then ch a else 0
theorem isC_ch {L : Nat} {ch : Nat → Int32} (h : ∀ j : Nat, j < L → isC (ch j)) (a : Nat) : isC (chF L ch a) := by
  unfold chF; split
  · exact h a (by assumption)
  · exact isC_0
abbrev isD (c : Int32) : Prop := 48 ≤ c.toInt ∧ c.toInt ≤ 57
/-- how many digits stand at a place, two at most, and what they say -/
def numC (L : Nat) (ch : Nat → Int32) (a : Nat) : Nat := if ¬ isD (chF L ch a) then 0 else if ¬ isD (chF L ch (a + 1)) then 1 else 2
def numV (L : Nat) (ch : Nat → Int32) (a : Nat) : Nat → Int32
  | 0 => 0
  | k + 1 => numV L ch a k * 10 + (chF L ch (a + k) - 48)
theorem numC_of {L : Nat} {ch : Nat → Int32} {a i : Nat} (hi : i ≤ 2) (h : ∀ j : Nat, j < i → isD (chF L ch (a + j))) (hs : i = 2 ∨ ¬ isD (chF L ch (a + i))) : numC L ch a = i := by
  unfold numC
  rcases (show i = 0 ∨ i = 1 ∨ i = 2 by omega) with rfl | rfl | rfl
  · rcases hs with h2 | h2
    · omega
    · exact if_pos h2
  · have h0 := h 0 (by omega)
    rw [if_neg (by simpa using h0)]
    rcases hs with h2 | h2
    · omega
    · rw [if_pos h2]
  · have h0 := h 0 (by omega)
    have h1 := h 1 (by omega)
    rw [if_neg (by simpa using h0), if_neg (by simpa using h1)]
theorem numC_le (L : Nat) (ch : Nat → Int32) (a : Nat) : numC L ch a ≤ 2 := by unfold numC; (repeat' split) <;> omega
def dueN (c : Int32) : Nat := if c = 43 then 2 else if c = 45 then 1 else if c = 61 then 2 else if c = 62 then 3 else 0
theorem dueN_le (c : Int32) : dueN c ≤ 3 := by unfold dueN; (repeat' split) <;> omega
/-- where a number begins, and the place behind it -/
def nbg (k q : Nat) : Nat := if k = 0 then q else q + 1
def pstep (L : Nat) (ch : Nat → Int32) (k q : Nat) : Option Nat := if (¬ k = 0 ∧ ¬ chF L ch q = 44) ∨ numC L ch (nbg k q) = 0 then none else some (nbg k q + numC L ch (nbg k q))
def pnF (L : Nat) (ch : Nat → Int32) (a : Nat) : Nat → Option Nat
  | 0 => some a
  | k + 1 => (pnF L ch a k).bind (pstep L ch k)
def nvF (L : Nat) (ch : Nat → Int32) (a k : Nat) : Int32 := match pnF L ch a k with
  | none => 0
  | some q => numV L ch (nbg k q) (numC L ch (nbg k q))
theorem nvF_s {L : Nat} {ch : Nat → Int32} {a k q : Nat} (h : pnF L ch a k = some q) : nvF L ch a k = numV L ch (nbg k q) (numC L ch (nbg k q)) := by unfold nvF; rw [h]
theorem pn_s {L : Nat} {ch : Nat → Int32} {a k q : Nat} (h : pnF L ch a k = some q) : pnF L ch a (k + 1) = pstep L ch k q := by show (pnF L ch a k).bind _ = _; rw [h]; rfl
/-- the place behind an edit that begins at a, if it is of the form -/
def edF (L : Nat) (ch : Nat → Int32) (a : Nat) : Option Nat := if dueN (chF L ch a) = 0 then none else (pnF L ch (a + 1) (dueN (chF L ch a))).bind (fun q => if chF L ch q = 59 then some (q + 1) else none)
/-- what an edit's reading leaves: its sign, where it ends, its numbers -/
theorem ed_none {L : Nat} {ch : Nat → Int32} {a : Nat} (h : dueN (chF L ch a) = 0) : edF L ch a = none := if_pos h
theorem pn_none {L : Nat} {ch : Nat → Int32} {a : Nat} : ∀ {k m : Nat}, k ≤ m → pnF L ch a k = none → pnF L ch a m = none := by
  intro k m
  induction m with
  | zero => intro h h0; rw [show k = 0 by omega] at h0; exact h0
  | succ m ih =>
    intro h h0
    by_cases e : k = m + 1
    · rw [← e]; exact h0
    · show (pnF L ch a m).bind _ = none
      rw [ih (by omega) h0]; rfl
theorem ed_pn {L : Nat} {ch : Nat → Int32} {a k : Nat} (hk : k ≤ dueN (chF L ch a)) (h : pnF L ch (a + 1) k = none) : edF L ch a = none := by
  unfold edF; split
  · rfl
  · rw [pn_none hk h]; rfl
theorem ed_some {L : Nat} {ch : Nat → Int32} {a q : Nat} (h0 : ¬ dueN (chF L ch a) = 0) (h : pnF L ch (a + 1) (dueN (chF L ch a)) = some q) : edF L ch a = if chF L ch q = 59 then some (q + 1) else none := by
  unfold edF; rw [if_neg h0, h]; rfl
