/-! MORE OF x: what would be -/
def wouldTakeR (σ : SD) (x y : Int32) : Int32 := if ¬ ((0 ≤ x.toInt ∧ x.toInt < σ.1) ∧ InR y 0 1) then -1000001 else aKs (remD x.toNatClampNeg σ) (if y = 0 then 2 else 3) σ.2.1
/-- the first i places: the safest so far, and how many are lost then -/
def sfF (σ : SD) : Nat → Int32 × Int32
  | 0 => (-1, 7)
  | i + 1 => if 0 < (sfF σ i).2 ∧ bcF (aKs (remD i σ) 2 σ.2.1) < (sfF σ i).2 then (nI i, bcF (aKs (remD i σ) 2 σ.2.1)) else sfF σ i
theorem sf_end {σ : SD} {i : Nat} (h : (sfF σ i).2 ≤ 0) : ∀ {n : Nat}, i ≤ n → sfF σ n = sfF σ i := by
  intro n
  induction n with
  | zero => intro hi; rw [show i = 0 by omega]
  | succ n ih =>
    intro hi
    by_cases e : i = n + 1
    · rw [e]
    · show (if _ then _ else sfF σ n) = _
      rw [if_neg (fun q => by rw [ih (by omega)] at q; exact absurd q.1 (Int32.not_lt.mpr h))]
      exact ih (by omega)
def safestR (σ : SD) (x : Int32) : Int32 := if ¬ InR x 0 1 then -1000001 else if (sfF σ σ.1).1 = -1 then -1000004 else if x = 0 then (sfF σ σ.1).1 else (sfF σ σ.1).2
/-- how clearly a new anchor would be told from others -/
def dfF (σ : SD) (i : Nat) : Int32 := if bpF σ.1 σ.2.2.2.1 σ.2.2.2.2.2.2.1 (lookF σ.1 σ.2.2.2.1 (nI i)) (nI i) (nI i) = -1 then scr σ.1 σ.2.2.2.1 σ.2.2.2.2.2.2.1 (lookF σ.1 σ.2.2.2.1 (nI i)) (nI i) else scr σ.1 σ.2.2.2.1 σ.2.2.2.2.2.2.1 (lookF σ.1 σ.2.2.2.1 (nI i)) (nI i) - scr σ.1 σ.2.2.2.1 σ.2.2.2.2.2.2.1 (lookF σ.1 σ.2.2.2.1 (nI i)) (bpF σ.1 σ.2.2.2.1 σ.2.2.2.2.2.2.1 (lookF σ.1 σ.2.2.2.1 (nI i)) (nI i) (nI i))
def clF (σ : SD) : Nat → Int32 × Int32
  | 0 => (-1, 0)
  | i + 1 => if (clF σ i).1 = -1 ∨ ¬ dfF σ i ≤ (clF σ i).2 then (nI i, dfF σ i) else clF σ i
def clearestR (σ : SD) (x : Int32) : Int32 := if ¬ InR x 0 1 then -1000001 else if (clF σ σ.1).1 = -1 then -1000004 else if x = 0 then (clF σ σ.1).1 else (clF σ σ.1).2
theorem df_cong {d σ : SD} (h : Eqv d σ) (i : Nat) : dfF d i = dfF σ i := by
  obtain ⟨h1, h2, h3, h4, h5, h6⟩ := h
  have hl : ∀ j, j < 5 → lookF σ.1 d.2.2.2.1 (nI i) j = lookF σ.1 σ.2.2.2.1 (nI i) j := fun j _ => atF_cong h4 _
  unfold dfF
  rw [h1]
  simp only [bp_cong h4 h5 hl, scr_cong h4 h5 hl]
/-- the blocks, whatever stood there before -/
def BEq (B B' : BL) : Prop := B.1 = B'.1 ∧ (∀ i, i < B.1 → B.2.1 i = B'.2.1 i) ∧ ∀ i, i < B.1 → B.2.2 i = B'.2.2 i
theorem fst_cong {S S' : Nat → Int32} {s : Int32} : ∀ {f j : Nat}, (∀ i, i < j + f → S i = S' i) → fst S s f j = fst S' s f j
  | 0, j, _ => rfl
  | f + 1, j, h => by
    show (if S j = s then j else fst S s f (j + 1)) = (if S' j = s then j else fst S' s f (j + 1))
    rw [h j (by omega), fst_cong (f := f) (j := j + 1) (fun i hi => h i (by omega))]
theorem en_cong {B B' : BL} {k : Nat} {s : Int32} (h : BEq B B') : BEq (enF k s B) (enF k s B') := by
  obtain ⟨h1, h2, h3⟩ := h
  have hf : fst B.2.1 s B.1 0 = fst B'.2.1 s B'.1 0 := by rw [← h1]; exact fst_cong (fun i hi => h2 i (by omega))
  have hle := fst_le (Sf := B'.2.1) (s := s) B'.1 0
  unfold enF
  rw [hf]
  by_cases c : fst B'.2.1 s B'.1 0 = B'.1
  · rw [if_pos (by rw [h1]; exact c), if_pos c, h1]
    refine ⟨rfl, fun i hi => ?_, fun i hi => ?_⟩
    · have hi' : i < B'.1 + 1 := hi
      show upd _ _ _ i = upd _ _ _ i
      by_cases e : i = B'.1
      · rw [e, upd_s, upd_s]
      · rw [upd_n e, upd_n e]; exact h2 i (by omega)
    · have hi' : i < B'.1 + 1 := hi
      show upd _ _ _ i = upd _ _ _ i
      by_cases e : i = B'.1
      · rw [e, upd_s, upd_s]
      · rw [upd_n e, upd_n e, upd_n e, upd_n e]; exact h3 i (by omega)
  · rw [if_neg (by rw [h1]; exact c), if_neg c]
    refine ⟨h1, h2, fun i hi => ?_⟩
    have hi' : i < B.1 := hi
    show upd _ _ _ i = upd _ _ _ i
    by_cases e : i = fst B'.2.1 s B'.1 0
    · rw [e, upd_s, upd_s, h3 _ (by omega)]
    · rw [upd_n e, upd_n e]; exact h3 i hi'
theorem ga_cong {sh sh' S M S' M' : Nat → Int32} : ∀ {k : Nat}, (∀ i, i < k → sh i = sh' i) → BEq (gaF sh S M k) (gaF sh' S' M' k)
  | 0, _ => ⟨rfl, fun i hi => absurd hi (Nat.not_lt_zero i), fun i hi => absurd hi (Nat.not_lt_zero i)⟩
  | k + 1, h => by
    have ih := ga_cong (S := S) (M := M) (S' := S') (M' := M') (k := k) (fun i hi => h i (by omega))
    show BEq (if sh k = 0 then gaF sh S M k else enF k (sh k) (gaF sh S M k)) (if sh' k = 0 then gaF sh' S' M' k else enF k (sh' k) (gaF sh' S' M' k))
    rw [h k (by omega)]
    by_cases c : sh' k = 0
    · rw [if_pos c, if_pos c]; exact ih
    · rw [if_neg c, if_neg c]; exact en_cong ih
theorem ab_cong {B B' : BL} (h : BEq B B') {o : Nat} (ho : o < B.1) : abF B o = abF B' o := by
  obtain ⟨h1, h2, h3⟩ := h
  unfold abF
  rw [← h1]
  refine cnt_cong (fun a ha => ?_)
  unfold ahF
  rw [h2 a ha, h2 o ho, h3 a ha, h3 o ho]
theorem io_cong {B B' : BL} (h : BEq B B') {x : Int32} : ∀ {f j : Nat}, j + f ≤ B.1 → ioF B x f j = ioF B' x f j
  | 0, j, _ => rfl
  | f + 1, j, hj => by
    show (if nI (abF B j) = x then nI j else ioF B x f (j + 1)) = (if nI (abF B' j) = x then nI j else ioF B' x f (j + 1))
    rw [ab_cong h (show j < B.1 by omega), io_cong h (show j + 1 + f ≤ B.1 by omega)]
def aBl (σ : SD) : BL := gaF (aH σ) (fun _ => 0) (fun _ => 0) σ.2.1
def aIo (σ : SD) (x : Int32) : Int32 := ioF (aBl σ) x (aBl σ).1 0
theorem io_rng {B : BL} {x : Int32} : ∀ {f j : Nat}, j + f ≤ B.1 → ioF B x f j = -1 ∨ ∃ i, i < B.1 ∧ ioF B x f j = nI i
  | 0, j, _ => Or.inl rfl
  | f + 1, j, hj => by
    show (if nI (abF B j) = x then nI j else ioF B x f (j + 1)) = -1 ∨ ∃ i, i < B.1 ∧ (if nI (abF B j) = x then nI j else ioF B x f (j + 1)) = nI i
    by_cases c : nI (abF B j) = x
    · rw [if_pos c]; exact Or.inr ⟨j, by omega, rfl⟩
    · rw [if_neg c]; exact io_rng (by omega)
theorem wh_cong {M M' : Nat → Int32} {sz : Nat} (h : ∀ i, i < sz → M i = M' i) (x : Int32) : whF M sz x = whF M' sz x := by
  unfold whF
  by_cases c : 0 ≤ x.toInt ∧ x.toInt < sz
  · rw [if_pos c, if_pos c]; exact h _ (by have := cl_toInt (x := x) (by omega); omega)
  · rw [if_neg c, if_neg c]
def blockOfR (σ : SD) (x y : Int32) : Int32 := if ¬ (0 ≤ x.toInt ∧ InR y 0 1) then -1000001 else if aIo σ x = -1 then -1000004 else if y = 0 then whF (aBl σ).2.2 (aBl σ).1 (aIo σ x) else whF (aBl σ).2.1 (aBl σ).1 (aIo σ x) + 100
theorem faQ {d : SD} {i : Nat} : (faD d i).2.2.2.2.2.2.2.1 i = d.2.2.2.2.2.2.2.1 i := if_neg (Nat.lt_irrefl i)
theorem faH {d : SD} {i : Nat} : aH (faD d i) i = aH d i := by
  show shiftF d.1 d.2.2.2.1 d.2.2.2.2.2.2.1 (d.2.2.2.2.2.2.2.2.2 i) ((faD d i).2.2.2.2.2.2.2.1 i) = _
  rw [faQ]; rfl
theorem faN {d : SD} {i k : Nat} (e : k ≠ i) : (faD d (i + 1)).2.2.2.2.2.2.2.1 k = (faD d i).2.2.2.2.2.2.2.1 k := by
  show (if k < i + 1 then d.2.2.2.2.2.2.2.1 k + aH d k else d.2.2.2.2.2.2.2.1 k) = (if k < i then d.2.2.2.2.2.2.2.1 k + aH d k else d.2.2.2.2.2.2.2.1 k)
  by_cases l : k < i
  · rw [if_pos l, if_pos (by omega)]
  · rw [if_neg l, if_neg (by omega)]
theorem faS {cell cell1 : Nat → va_E} {adr : Nat → Nat} {kc : Nat → ClassId} {b i : Nat} {d : SD} (h : StAt cell adr kc b (faD d i)) (hi : i < 6) (ha : AncAt cell1 adr kc (b + 7 + 2 * i) (d.2.2.2.2.2.2.2.1 i + aH d i) (d.2.2.2.2.2.2.2.2.1 i) (d.2.2.2.2.2.2.2.2.2 i)) (hf : ∀ j : Nat, (j ≠ b + 7 + 2 * i ∧ j ≠ b + 7 + 2 * i + 1) → cell1 j = cell j) : StAt cell1 adr kc b (faD d (i + 1)) := by
  refine StAt.putP (d := faD d i) (k := i) (P1 := (faD d (i + 1)).2.2.2.2.2.2.2.1) h ?_ hi hf (fun k _ e => faN e)
  show AncAt cell1 adr kc (b + 7 + 2 * i) (if i < i + 1 then d.2.2.2.2.2.2.2.1 i + aH d i else d.2.2.2.2.2.2.2.1 i) _ _
  rw [if_pos (Nat.lt_succ_self i)]; exact ha
