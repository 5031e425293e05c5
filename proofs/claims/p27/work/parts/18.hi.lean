/-! THE HISTORY, THE BLOCKS -/
def HsSt (cell : Nat → va_E) (adr : Nat → Nat) (kc : Nat → ClassId) (h : Nat) (dh : Nat → SD) : Prop := ∀ k : Nat, k < 4 → StAt cell adr kc (h + 2 + 19 * k) (dh k)
theorem HsSt.frame {cell cell1 : Nat → va_E} {adr : Nat → Nat} {kc : Nat → ClassId} {h : Nat} {dh : Nat → SD} (hs : HsSt cell adr kc h dh) (hf : ∀ j : Nat, h + 2 ≤ j → j < h + 78 → cell1 j = cell j) : HsSt cell1 adr kc h dh := fun k hk => StAt.frame (hs k hk) (fun j a b => hf j (by omega) (by omega))
def updS (dh : Nat → SD) (k : Nat) (d : SD) : Nat → SD := fun j => if j = k then d else dh j
theorem HsSt.put {cell cell1 : Nat → va_E} {adr : Nat → Nat} {kc : Nat → ClassId} {h k : Nat} {dh : Nat → SD} {d : SD} (hs : HsSt cell adr kc h dh) (hd : StAt cell1 adr kc (h + 2 + 19 * k) d) (hf : ∀ j : Nat, (j < h + 2 + 19 * k ∨ h + 2 + 19 * k + 19 ≤ j) → cell1 j = cell j) : HsSt cell1 adr kc h (updS dh k d) := by
  intro i hi
  by_cases e : i = k
  · subst e; rw [show updS dh i d i = d from if_pos rfl]; exact hd
  · rw [show updS dh k d i = dh i from if_neg e]
    exact StAt.frame (hs i hi) (fun j a b => hf j (by omega))
def HiAt (cell : Nat → va_E) (adr : Nat → Nat) (kc : Nat → ClassId) (h od sz : Nat) (dh : Nat → SD) : Prop := cell h = .inr (3, [.ref (adr (h + 1)), .int (nI od), .int (nI sz)]) ∧ (∃ g : Nat → Option Nat, cell (h + 1) = .inl (kc 3, 4, .inr (.inr (.inr (.inr g)))) ∧ ∀ k, k < 4 → g k = some (adr (h + 2 + 19 * k))) ∧ HsSt cell adr kc h dh ∧ od < 4 ∧ sz ≤ 4
theorem HiAt.frame {cell cell1 : Nat → va_E} {adr : Nat → Nat} {kc : Nat → ClassId} {h od sz : Nat} {dh : Nat → SD} (hs : HiAt cell adr kc h od sz dh) (hf : ∀ j : Nat, h ≤ j → j < h + 78 → cell1 j = cell j) : HiAt cell1 adr kc h od sz dh := by
  obtain ⟨h0, ⟨g, h1, hg⟩, h2, h3⟩ := hs
  exact ⟨(hf _ (by omega) (by omega)).trans h0, ⟨g, (hf _ (by omega) (by omega)).trans h1, hg⟩, h2.frame (fun j a b => hf j (by omega) b), h3⟩
def BlAt (cell : Nat → va_E) (adr : Nat → Nat) (kc : Nat → ClassId) (z sz : Nat) (Sf Mf : Nat → Int32) : Prop := cell z = .inr (1, [.ref (adr (z + 1)), .ref (adr (z + 2)), .int (nI sz)]) ∧ cell (z + 1) = .inl (kc 0, 6, .inl Sf) ∧ cell (z + 2) = .inl (kc 0, 6, .inl Mf) ∧ sz ≤ 6
theorem BlAt.frame {cell cell1 : Nat → va_E} {adr : Nat → Nat} {kc : Nat → ClassId} {z sz : Nat} {Sf Mf : Nat → Int32} (h : BlAt cell adr kc z sz Sf Mf) (hf : ∀ j : Nat, z ≤ j → j < z + 3 → cell1 j = cell j) : BlAt cell1 adr kc z sz Sf Mf := ⟨(hf _ (by omega) (by omega)).trans h.1, (hf _ (by omega) (by omega)).trans h.2.1, (hf _ (by omega) (by omega)).trans h.2.2.1, h.2.2.2⟩
theorem TxAt.frame {cell cell1 : Nat → va_E} {adr : Nat → Nat} {kc : Nat → ClassId} {t L : Nat} {sx nx sg : Int32} {ch nu : Nat → Int32} (h : TxAt cell adr kc t L sx nx sg ch nu) (hf : ∀ j : Nat, t ≤ j → j < t + 3 → cell1 j = cell j) : TxAt cell1 adr kc t L sx nx sg ch nu := ⟨(hf _ (by omega) (by omega)).trans h.1, (hf _ (by omega) (by omega)).trans h.2.1, (hf _ (by omega) (by omega)).trans h.2.2.1, h.2.2.2⟩
theorem AncAt.frame {cell cell1 : Nat → va_E} {adr : Nat → Nat} {kc : Nat → ClassId} {a : Nat} {p v : Int32} {f : Nat → Int32} (h : AncAt cell adr kc a p v f) (hf : ∀ j : Nat, a ≤ j → j < a + 2 → cell1 j = cell j) : AncAt cell1 adr kc a p v f := ⟨(hf _ (by omega) (by omega)).trans h.1, (hf _ (by omega) (by omega)).trans h.2⟩
/-- Integer.bitCount, as the JDK writes it -/
def bc1 (x : Int32) : Int32 := x - ((x.toUInt32 >>> ((1 : Int32).toUInt32 &&& Int32.toUInt32 31)).toInt32 &&& 1431655765)
def bc2 (x : Int32) : Int32 := (x &&& 858993459) + ((x.toUInt32 >>> ((2 : Int32).toUInt32 &&& Int32.toUInt32 31)).toInt32 &&& 858993459)
def bc3 (x : Int32) : Int32 := (x + (x.toUInt32 >>> ((4 : Int32).toUInt32 &&& Int32.toUInt32 31)).toInt32) &&& 252645135
def bc4 (x : Int32) : Int32 := x + (x.toUInt32 >>> ((8 : Int32).toUInt32 &&& Int32.toUInt32 31)).toInt32
def bc5 (x : Int32) : Int32 := x + (x.toUInt32 >>> ((16 : Int32).toUInt32 &&& Int32.toUInt32 31)).toInt32
def bcF (x : Int32) : Int32 := bc5 (bc4 (bc3 (bc2 (bc1 x)))) &&& 63
def whF (M : Nat → Int32) (sz : Nat) (x : Int32) : Int32 := if 0 ≤ x.toInt ∧ x.toInt < sz then M x.toNatClampNeg else 0
theorem whF_nI {M : Nat → Int32} {sz i : Nat} (h : i < sz) (hn : sz < 2 ^ 31) : whF M sz (nI i) = M i := by
  unfold whF; rw [nI_toInt (by omega), nI_clamp (by omega), if_pos (by omega)]
/-- the first block with a shift, or how many there are -/
def fst (Sf : Nat → Int32) (s : Int32) : Nat → Nat → Nat
  | 0, i => i
  | f + 1, i => if Sf i = s then i else fst Sf s f (i + 1)
theorem fst_is {Sf : Nat → Int32} {s : Int32} {sz i : Nat} : ∀ {f j : Nat}, j + f = sz → j ≤ i → i ≤ sz → (∀ k, j ≤ k → k < i → ¬ Sf k = s) → (i < sz → Sf i = s) → fst Sf s f j = i
  | 0, j, h1, h2, h3, _, _ => by show j = i; omega
  | f + 1, j, h1, h2, h3, h4, h5 => by
    show (if Sf j = s then j else fst Sf s f (j + 1)) = i
    by_cases c : Sf j = s
    · rw [if_pos c]
      rcases Nat.lt_or_ge j i with q | q
      · exact absurd c (h4 j (Nat.le_refl _) q)
      · omega
    · rw [if_neg c]
      have hji : j ≠ i := fun e => c (by rw [e]; exact h5 (by omega))
      exact fst_is (by omega) (by omega) h3 (fun k a b => h4 k (by omega) b) h5
abbrev BL : Type := Nat × (Nat → Int32) × (Nat → Int32)
def enF (k : Nat) (s : Int32) (B : BL) : BL := if fst B.2.1 s B.1 0 = B.1 then (B.1 + 1, upd B.2.1 B.1 s, upd (upd B.2.2 B.1 0) B.1 (0 ||| ((1 : Int32) <<< (nI k &&& 31)))) else (B.1, B.2.1, upd B.2.2 (fst B.2.1 s B.1 0) (B.2.2 (fst B.2.1 s B.1 0) ||| ((1 : Int32) <<< (nI k &&& 31))))
def gaF (sh : Nat → Int32) (Sf Mf : Nat → Int32) : Nat → BL
  | 0 => (0, Sf, Mf)
  | k + 1 => if sh k = 0 then gaF sh Sf Mf k else enF k (sh k) (gaF sh Sf Mf k)
theorem fst_le {Sf : Nat → Int32} {s : Int32} : ∀ (f j : Nat), fst Sf s f j ≤ j + f
  | 0, j => Nat.le_refl _
  | f + 1, j => by show (if Sf j = s then j else fst Sf s f (j + 1)) ≤ _; have := fst_le (Sf := Sf) (s := s) f (j + 1); split <;> omega
theorem gaF_le {sh Sf Mf : Nat → Int32} : ∀ k, (gaF sh Sf Mf k).1 ≤ k
  | 0 => Nat.le_refl _
  | k + 1 => by
    have h := gaF_le (sh := sh) (Sf := Sf) (Mf := Mf) k
    show (if sh k = 0 then gaF sh Sf Mf k else enF k (sh k) (gaF sh Sf Mf k)).1 ≤ k + 1
    split
    · omega
    · unfold enF; split
      · show (gaF sh Sf Mf k).1 + 1 ≤ k + 1; omega
      · show (gaF sh Sf Mf k).1 ≤ k + 1; omega
/-- block a stands ahead of block o -/
def ahF (B : BL) (a o : Nat) : Bool := decide (0 < bcF (B.2.2 a) - bcF (B.2.2 o) ∨ (bcF (B.2.2 a) - bcF (B.2.2 o) = 0 ∧ ¬ B.2.1 o ≤ B.2.1 a))
def abF (B : BL) (o : Nat) : Nat := cnt (fun a => ahF B a o) B.1
/-- the first block with x others ahead; -1: none -/
def ioF (B : BL) (x : Int32) : Nat → Nat → Int32
  | 0, _ => -1
  | f + 1, i => if nI (abF B i) = x then nI i else ioF B x f (i + 1)
theorem io_is {B : BL} {x : Int32} {i : Nat} : ∀ {f j : Nat}, j + f = B.1 → j ≤ i → i < B.1 → (∀ k, j ≤ k → k < i → ¬ nI (abF B k) = x) → nI (abF B i) = x → ioF B x f j = nI i
  | 0, j, h1, h2, h3, _, _ => absurd h3 (by omega)
  | f + 1, j, h1, h2, h3, h4, h5 => by
    show (if nI (abF B j) = x then nI j else ioF B x f (j + 1)) = nI i
    by_cases c : nI (abF B j) = x
    · rw [if_pos c]
      rcases Nat.lt_or_ge j i with q | q
      · exact absurd c (h4 j (Nat.le_refl _) q)
      · rw [show j = i by omega]
    · rw [if_neg c]
      have hji : j ≠ i := fun e => c (by rw [e]; exact h5)
      exact io_is (by omega) (by omega) h3 (fun k a b => h4 k (by omega) b) h5
theorem io_no {B : BL} {x : Int32} : ∀ {f j : Nat}, j + f = B.1 → (∀ k, j ≤ k → k < B.1 → ¬ nI (abF B k) = x) → ioF B x f j = -1
  | 0, j, _, _ => rfl
  | f + 1, j, h1, h4 => by
    show (if nI (abF B j) = x then nI j else ioF B x f (j + 1)) = -1
    rw [if_neg (h4 j (Nat.le_refl _) (by omega))]
    exact io_no (by omega) (fun k a b => h4 k (by omega) b)
