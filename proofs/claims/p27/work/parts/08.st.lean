/-! A STATE: its cells, and what it says of anchors -/
abbrev SD : Type := Nat × Nat × Int32 × (Nat → Int32) × (Nat → Int32) × (Nat → Int32) × (Nat → Int32) × (Nat → Int32) × (Nat → Int32) × (Nat → Nat → Int32)
def AnsAt (cell : Nat → va_E) (adr : Nat → Nat) (kc : Nat → ClassId) (b : Nat) (P V : Nat → Int32) (F : Nat → Nat → Int32) : Prop := ∀ k : Nat, k < 6 → AncAt cell adr kc (b + 7 + 2 * k) (P k) (V k) (F k)
def StAt (cell : Nat → va_E) (adr : Nat → Nat) (kc : Nat → ClassId) (b : Nat) (d : SD) : Prop :=
  cell b = .inr (5, [.ref (adr (b + 1)), .ref (adr (b + 5)), .ref (adr (b + 6)), .int (nI d.2.1), .int d.2.2.1]) ∧ RowAt cell adr kc (b + 1) d.2.2.2.1 d.2.2.2.2.1 d.2.2.2.2.2.1 d.1 ∧ (∃ g : Nat → Option Nat, cell (b + 5) = .inl (kc 2, 6, .inr (.inr (.inr (.inr g)))) ∧ ∀ k, k < 6 → g k = some (adr (b + 7 + 2 * k))) ∧ cell (b + 6) = .inl (kc 0, 5, .inl d.2.2.2.2.2.2.1) ∧ AnsAt cell adr kc b d.2.2.2.2.2.2.2.1 d.2.2.2.2.2.2.2.2.1 d.2.2.2.2.2.2.2.2.2 ∧ d.2.1 ≤ 6
theorem StAt.frame {cell cell1 : Nat → va_E} {adr : Nat → Nat} {kc : Nat → ClassId} {b : Nat} {d : SD} (h : StAt cell adr kc b d) (hf : ∀ j : Nat, b ≤ j → j < b + 19 → cell1 j = cell j) : StAt cell1 adr kc b d := by
  obtain ⟨h0, ⟨r0, r1, r2, r3, hn⟩, ⟨g, h5, hg⟩, h6, hA, hm⟩ := h
  refine ⟨(hf _ (by omega) (by omega)).trans h0, ⟨(hf _ (by omega) (by omega)).trans r0, (hf _ (by omega) (by omega)).trans r1, (hf _ (by omega) (by omega)).trans r2, (hf _ (by omega) (by omega)).trans r3, hn⟩, ⟨g, (hf _ (by omega) (by omega)).trans h5, hg⟩, (hf _ (by omega) (by omega)).trans h6, fun k hk => ⟨(hf _ (by omega) (by omega)).trans (hA k hk).1, (hf _ (by omega) (by omega)).trans (hA k hk).2⟩, hm⟩
theorem AnsAt.frame {cell cell1 : Nat → va_E} {adr : Nat → Nat} {kc : Nat → ClassId} {b : Nat} {P V : Nat → Int32} {F : Nat → Nat → Int32} (h : AnsAt cell adr kc b P V F) (hf : ∀ j : Nat, b + 7 ≤ j → j < b + 19 → cell1 j = cell j) : AnsAt cell1 adr kc b P V F := fun k hk => ⟨(hf _ (by omega) (by omega)).trans (h k hk).1, (hf _ (by omega) (by omega)).trans (h k hk).2⟩
theorem AnsAt.put {cell cell1 : Nat → va_E} {adr : Nat → Nat} {kc : Nat → ClassId} {b i : Nat} {P V P1 V1 : Nat → Int32} {F F1 : Nat → Nat → Int32} (h : AnsAt cell adr kc b P V F) (hi : AncAt cell1 adr kc (b + 7 + 2 * i) (P1 i) (V1 i) (F1 i)) (hf : ∀ j : Nat, (j ≠ b + 7 + 2 * i ∧ j ≠ b + 7 + 2 * i + 1) → cell1 j = cell j) (ho : ∀ k, k < 6 → k ≠ i → P1 k = P k ∧ V1 k = V k ∧ F1 k = F k) : AnsAt cell1 adr kc b P1 V1 F1 := by
  intro k hk
  by_cases e : k = i
  · subst e; exact hi
  · obtain ⟨e1, e2, e3⟩ := ho k hk e
    rw [e1, e2, e3]
    exact ⟨(hf _ ⟨by omega, by omega⟩).trans (h k hk).1, (hf _ ⟨by omega, by omega⟩).trans (h k hk).2⟩
def setF (E : Nat → Int32) (x : Int32) : Int32 := if 0 ≤ x.toInt ∧ x.toInt < 5 then E x.toNatClampNeg else 0
theorem setF_nI {E : Nat → Int32} {i : Nat} (h : i < 5) : setF E (nI i) = E i := by
  unfold setF; rw [nI_toInt (by omega), nI_clamp (by omega), if_pos (by omega)]
theorem setF_3 (E : Nat → Int32) : setF E 3 = E 3 := setF_nI (i := 3) (by omega)
theorem setF_4 (E : Nat → Int32) : setF E 4 = E 4 := setF_nI (i := 4) (by omega)
def wgt (E : Nat → Int32) (k : Nat) : Int32 := E (if k < 2 then 2 - k else k - 2)
theorem setF_abs {E : Nat → Int32} {k : Nat} (h : k < 5) : setF E (if 0 ≤ nI k - 2 then nI k - 2 else 0 - (nI k - 2)) = wgt E k := by
  rcases (show k = 0 ∨ k = 1 ∨ k = 2 ∨ k = 3 ∨ k = 4 by omega) with rfl | rfl | rfl | rfl | rfl
  · rw [show (if 0 ≤ nI 0 - 2 then nI 0 - 2 else 0 - (nI 0 - 2)) = nI 2 by decide, setF_nI (by omega)]; rfl
  · rw [show (if 0 ≤ nI 1 - 2 then nI 1 - 2 else 0 - (nI 1 - 2)) = nI 1 by decide, setF_nI (by omega)]; rfl
  · rw [show (if 0 ≤ nI 2 - 2 then nI 2 - 2 else 0 - (nI 2 - 2)) = nI 0 by decide, setF_nI (by omega)]; rfl
  · rw [show (if 0 ≤ nI 3 - 2 then nI 3 - 2 else 0 - (nI 3 - 2)) = nI 1 by decide, setF_nI (by omega)]; rfl
  · rw [show (if 0 ≤ nI 4 - 2 then nI 4 - 2 else 0 - (nI 4 - 2)) = nI 2 by decide, setF_nI (by omega)]; rfl
/-- the score of an anchor's five things f at a place -/
def scF (n : Nat) (W E f : Nat → Int32) (x : Int32) : Nat → Int32
  | 0 => 0
  | k + 1 => scF n W E f x k + if f k = atF n W (x + nI k - 2) then wgt E k else 0
def scr (n : Nat) (W E f : Nat → Int32) (x : Int32) : Int32 := scF n W E f x 5
theorem scF_yes {n : Nat} {W E f : Nat → Int32} {x : Int32} {k : Nat} (h : f k = atF n W (x + nI k - 2)) : scF n W E f x k + wgt E k = scF n W E f x (k + 1) := by
  show _ = scF n W E f x k + if _ then _ else _; rw [if_pos h]
theorem scF_no {n : Nat} {W E f : Nat → Int32} {x : Int32} {k : Nat} (h : ¬ f k = atF n W (x + nI k - 2)) : scF n W E f x k = scF n W E f x (k + 1) := by
  show _ = scF n W E f x k + if _ then _ else _; rw [if_neg h, Int32.add_zero]
def absI (x : Int32) : Int32 := if 0 ≤ x then x else 0 - x
/-- the best place but x, its score and its distance, among the first i places -/
def bstF (n : Nat) (W E f : Nat → Int32) (p x : Int32) : Nat → Int32 × Int32 × Int32
  | 0 => (-1, 0, 0)
  | i + 1 => if ¬ nI i = x ∧ ((bstF n W E f p x i).1 = -1 ∨ (bstF n W E f p x i).2.1 < scr n W E f (nI i) ∨ (scr n W E f (nI i) = (bstF n W E f p x i).2.1 ∧ ¬ (bstF n W E f p x i).2.2 ≤ absI (nI i - p))) then (nI i, scr n W E f (nI i), absI (nI i - p)) else bstF n W E f p x i
def bpF (n : Nat) (W E f : Nat → Int32) (p x : Int32) : Int32 := (bstF n W E f p x n).1
def lostF (n : Nat) (W E f : Nat → Int32) (x : Int32) : Bool := decide (x = -1) || decide (scr n W E f x < E 3)
theorem lost_t {n : Nat} {W E f : Nat → Int32} {x : Int32} (h : x = -1 ∨ ¬ E 3 ≤ scr n W E f x) : lostF n W E f x = true := by
  unfold lostF
  rcases h with h | h
  · simp [h]
  · have : scr n W E f x < E 3 := Int32.not_le.mp h
    simp [this]
theorem lost_f {n : Nat} {W E f : Nat → Int32} {x : Int32} (h1 : ¬ x = -1) (h2 : E 3 ≤ scr n W E f x) : lostF n W E f x = false := by
  unfold lostF
  have : ¬ scr n W E f x < E 3 := Int32.not_lt.mpr h2
  simp [h1, this]
def standF (n : Nat) (W E f : Nat → Int32) (p : Int32) : Int32 := if lostF n W E f (bpF n W E f p (-1)) = true then 2 else if ¬ bpF n W E f p (bpF n W E f p (-1)) = -1 ∧ ¬ scr n W E f (bpF n W E f p (bpF n W E f p (-1))) < scr n W E f (bpF n W E f p (-1)) - E 4 then 1 else 0
def shiftF (n : Nat) (W E f : Nat → Int32) (p : Int32) : Int32 := if lostF n W E f (bpF n W E f p (-1)) = true then 0 else bpF n W E f p (-1) - p
def kindF (n : Nat) (W E f : Nat → Int32) (p v x : Int32) : Bool := if x = 2 then lostF n W E f (bpF n W E f p (-1)) else if x = 3 then decide (¬ v = -1 ∧ v = bpF n W E f p (-1)) else if x = 4 then decide (v = -1) else if x = 5 then decide (¬ v = -1 ∧ lostF n W E f (bpF n W E f p (-1)) = true) else decide (standF n W E f p = x)
/-- the first i anchors of a kind, as bits -/
def kndF (n : Nat) (W E P V : Nat → Int32) (F : Nat → Nat → Int32) (x : Int32) : Nat → Int32
  | 0 => 0
  | i + 1 => if kindF n W E (F i) (P i) (V i) x = true then kndF n W E P V F x i ||| ((1 : Int32) <<< (nI i &&& 31)) else kndF n W E P V F x i
def updF (F : Nat → Nat → Int32) (i : Nat) (g : Nat → Int32) : Nat → Nat → Int32 := fun k => if k = i then g else F k
def fillF (G H : Nat → Nat → Int32) (i : Nat) : Nat → Nat → Int32 := fun k => if k < i then G k else H k
/-- anchors behind q come one down, so far as those below i stood -/
def dn (q i : Nat) (P : Nat → Int32) : Nat → Int32 := fun k => if q ≤ k ∧ k + 1 < i then P (k + 1) else P k
def dnF (q i : Nat) (F : Nat → Nat → Int32) : Nat → Nat → Int32 := fun k => if q ≤ k ∧ k + 1 < i then fill (F (k + 1)) (F k) 5 else F k
theorem dn_0 {q : Nat} {P : Nat → Int32} : P = dn q (q + 1) P := by funext k; unfold dn; rw [if_neg (by omega)]
theorem dnF_0 {q : Nat} {F : Nat → Nat → Int32} : F = dnF q (q + 1) F := by funext k; unfold dnF; rw [if_neg (by omega)]
theorem dn_hi {q i : Nat} {P : Nat → Int32} {k : Nat} (h : i ≤ k + 1) : dn q i P k = P k := if_neg (by omega)
theorem dnF_hi {q i : Nat} {F : Nat → Nat → Int32} {k : Nat} (h : i ≤ k + 1) : dnF q i F k = F k := if_neg (by omega)
