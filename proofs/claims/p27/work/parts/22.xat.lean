/-! THE OBJECT x: what its cells hold, said of states up to what nobody sees -/
def XAt (cell : Nat → va_E) (adr : Nat → Nat) (kc : Nat → ClassId) (σ : SD) (hn : Nat) (hi : Nat → SD) (L : Nat) (ch : Nat → Int32) : Prop :=
  cell 0 = .inr (6, [.ref (adr 1), .ref (adr 20), .ref (adr 39), .ref (adr 117), .ref (adr 120), .ref (adr 123)]) ∧ (∃ d : SD, StAt cell adr kc 1 d ∧ Eqv d σ) ∧ (∃ d : SD, StAt cell adr kc 20 d) ∧ (∃ (od : Nat) (dh : Nat → SD), HiAt cell adr kc 39 od hn dh ∧ ∀ i : Nat, i < hn → Eqv (dh ((od + i) % 4)) (hi i)) ∧ (∃ (sx : Int32) (nx : Nat) (sg : Int32) (nu : Nat → Int32), TxAt cell adr kc 117 L sx (nI nx) sg ch nu) ∧ (∃ (bz : Nat) (Sf Mf : Nat → Int32), BlAt cell adr kc 120 bz Sf Mf) ∧ (∃ (p v : Int32) (f : Nat → Int32), AncAt cell adr kc 123 p v f) ∧ ∀ j : Nat, j < L → isC (ch j)
def rcN (hn : Nat) : Nat := if hn < 4 then hn + 1 else 4
def rcH (hn : Nat) (hi : Nat → SD) (σ : SD) : Nat → SD := fun i => if hn < 4 then (if i = hn then σ else hi i) else (if i = 3 then σ else hi (i + 1))
theorem ring_rec {od hn : Nat} {dh hi : Nat → SD} {dc σ : SD} (ho : od < 4) (hh : hn ≤ 4) (h : ∀ i : Nat, i < hn → Eqv (dh ((od + i) % 4)) (hi i)) (hc : Eqv dc σ) : ∀ i : Nat, i < rcN hn → Eqv (updS dh ((od + hn) % 4) dc (((if hn < 4 then od else (od + 1) % 4) + i) % 4)) (rcH hn hi σ i) := by
  intro i hi1
  unfold rcN at hi1
  unfold rcH updS
  by_cases c : hn < 4
  · simp only [if_pos c] at hi1 ⊢
    by_cases e : i = hn
    · subst e; rw [if_pos rfl, if_pos rfl]; exact hc
    · rw [if_neg (by omega), if_neg e]; exact h i (by omega)
  · simp only [if_neg c] at hi1 ⊢
    by_cases e : i = 3
    · subst e; rw [if_pos (by omega), if_pos rfl]; exact hc
    · rw [if_neg (by omega), if_neg e, show ((od + 1) % 4 + i) % 4 = (od + (i + 1)) % 4 by omega]; exact h (i + 1) (by omega)
/-- what comes behind a call: the same (none), or a change that the history remembers -/
def nxS (σ : SD) (o : Option SD) : SD := o.getD σ
def nxN (hn : Nat) (o : Option SD) : Nat := if o.isSome then rcN hn else hn
def nxH (σ : SD) (hn : Nat) (hi : Nat → SD) (o : Option SD) : Nat → SD := if o.isSome then rcH hn hi σ else hi
def XNx (cell : Nat → va_E) (adr : Nat → Nat) (kc : Nat → ClassId) (σ : SD) (hn : Nat) (hi : Nat → SD) (o : Option SD) (L : Nat) (ch : Nat → Int32) : Prop := XAt cell adr kc (nxS σ o) (nxN hn o) (nxH σ hn hi o) L ch
theorem XNx.no {cell : Nat → va_E} {adr : Nat → Nat} {kc : Nat → ClassId} {σ : SD} {hn : Nat} {hi : Nat → SD} {o : Option SD} {L : Nat} {ch : Nat → Int32} (ho : o = none) (h : XAt cell adr kc σ hn hi L ch) : XNx cell adr kc σ hn hi o L ch := by subst ho; exact h
theorem XNx.yes {cell : Nat → va_E} {adr : Nat → Nat} {kc : Nat → ClassId} {σ s : SD} {hn : Nat} {hi : Nat → SD} {o : Option SD} {L : Nat} {ch : Nat → Int32} (ho : o = some s) (h : XAt cell adr kc s (rcN hn) (rcH hn hi σ) L ch) : XNx cell adr kc σ hn hi o L ch := by subst ho; exact h
abbrev InR (x : Int32) (lo hi : Int) : Prop := lo ≤ x.toInt ∧ x.toInt ≤ hi
/-- the calls' answers, and what they leave -/
def putR (σ : SD) (p w : Int32) : Int32 := if ¬ (InR p 0 σ.1 ∧ InR w 0 99) then -1000001 else if 40 ≤ σ.1 then -1000003 else nI (σ.1 + 1)
def putO (σ : SD) (p w : Int32) : Option SD := if (InR p 0 σ.1 ∧ InR w 0 99) ∧ ¬ 40 ≤ σ.1 then some (insD p.toNatClampNeg w σ) else none
def takeR (σ : SD) (p : Int32) : Int32 := if ¬ (0 ≤ p.toInt ∧ p.toInt < σ.1) then -1000001 else σ.2.2.2.1 p.toNatClampNeg
def takeO (σ : SD) (p : Int32) : Option SD := if 0 ≤ p.toInt ∧ p.toInt < σ.1 then some (remD p.toNatClampNeg σ) else none
def changeR (σ : SD) (p w : Int32) : Int32 := if ¬ ((0 ≤ p.toInt ∧ p.toInt < σ.1) ∧ InR w 0 99) then -1000001 else σ.2.2.2.1 p.toNatClampNeg
def changeO (σ : SD) (p w : Int32) : Option SD := if (0 ≤ p.toInt ∧ p.toInt < σ.1) ∧ InR w 0 99 then some (chgD p.toNatClampNeg w σ) else none
def moveR (σ : SD) (f k t : Int32) : Int32 := if ¬ CSh σ.1 f k t then -1000001 else nI (cnt (fun p => decide (¬ pasF f.toNatClampNeg k.toNatClampNeg t.toNatClampNeg p = p)) σ.1)
def moveO (σ : SD) (f k t : Int32) : Option SD := if CSh σ.1 f k t then some (movD f.toNatClampNeg k.toNatClampNeg t.toNatClampNeg σ) else none
def wordAtR (σ : SD) (p : Int32) : Int32 := if p.toInt < 0 then -1000001 else if p.toInt < σ.1 then σ.2.2.2.1 p.toNatClampNeg else -1000004
