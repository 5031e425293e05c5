/-! MORE OF THE MODEL'S MATHS: answers told as -1, sets of anchors as bits, blocks -/
theorem bp_ok {n : Nat} {W E f : Nat → Int32} {p x : Int32} (hn : n ≤ 40) : bpF n W E f p x = -1 ∨ 0 ≤ (bpF n W E f p x).toInt := by
  rcases bst_rng (n := n) (W := W) (E := E) (f := f) (p := p) (x := x) n (by omega) with h | ⟨q, h1, h2⟩
  · exact Or.inl h
  · refine Or.inr ?_
    show 0 ≤ ((bstF n W E f p x n).1).toInt
    rw [h2, nI_toInt (by omega)]; omega
theorem orN_of {v : Int32} (h : v = -1 ∨ 0 ≤ v.toInt) : orN v = if v.toInt < 0 then -1000004 else v := by
  unfold orN
  rcases h with h | h
  · rw [if_pos h, if_pos (by rw [h]; decide)]
  · rw [if_neg (fun e => by rw [e] at h; exact absurd h (by decide)), if_neg (by omega)]
theorem ms_cong {S S' : Nat → Int32} {σ : SD} (h : MS S σ) (hn : σ.1 ≤ 40) (hm : σ.2.1 ≤ 6) (he : ∀ j, j < 90 → S' j = S j) : MS S' σ := by
  obtain ⟨h0, h1, h2, h3, h4, h5⟩ := h
  refine ⟨(he 0 (by omega)).trans h0, (he 1 (by omega)).trans h1, (he 2 (by omega)).trans h2, fun k hk => (he _ (by omega)).trans (h3 k hk), fun p hp => (he _ (by omega)).trans (h4 p hp), fun k hk => ?_⟩
  obtain ⟨a1, a2, a3⟩ := h5 k hk
  exact ⟨(he _ (by omega)).trans a1, (he _ (by omega)).trans a2, fun j hj => (he _ (by omega)).trans (a3 j hj)⟩
/-- how many of the lowest six bits are set, as the model counts -/
def onF (s : Int32) : Nat → Int32
  | 0 => 0
  | k + 1 => onF s k + ((s >>> (nI k &&& 31)) &&& 1)
theorem on_bc : ∀ q : Nat, q < 64 → onF (nI q) 6 = bcF (nI q) := by decide +kernel
theorem on_rng : ∀ q : Nat, q < 64 → 0 ≤ (bcF (nI q)).toInt ∧ (bcF (nI q)).toInt ≤ 6 := by decide +kernel
theorem bit_or : ∀ i : Nat, i < 6 → ∀ q : Nat, q < 2 ^ i → nI q ||| ((1 : Int32) <<< (nI i &&& 31)) = nI (q + 2 ^ i) := by decide +kernel
theorem and_low : ∀ a : Nat, a < 6 → ∀ q : Nat, q < 64 → nI q &&& (((1 : Int32) <<< (nI a &&& 31)) - 1) = nI (q % 2 ^ a) := by decide +kernel
theorem aKs_rng (σ : SD) (x : Int32) : ∀ i, i ≤ 6 → ∃ q, q < 2 ^ i ∧ aKs σ x i = nI q
  | 0, _ => ⟨0, by decide, rfl⟩
  | i + 1, h => by
    obtain ⟨q, h1, h2⟩ := aKs_rng σ x i (by omega)
    have hp : 2 ^ (i + 1) = 2 ^ i + 2 ^ i := by rw [Nat.pow_succ]; omega
    show ∃ q, q < 2 ^ (i + 1) ∧ (if aK σ i x = true then aKs σ x i ||| ((1 : Int32) <<< (nI i &&& 31)) else aKs σ x i) = nI q
    by_cases c : aK σ i x = true
    · rw [if_pos c]; exact ⟨q + 2 ^ i, by omega, by rw [h2, bit_or i (by omega) q h1]⟩
    · rw [if_neg c]; exact ⟨q, by omega, h2⟩
theorem aKs_64 (σ : SD) (x : Int32) {i : Nat} (h : i ≤ 6) : ∃ q, q < 64 ∧ aKs σ x i = nI q := by
  obtain ⟨q, h1, h2⟩ := aKs_rng σ x i h
  have h3 : 2 ^ i ≤ 2 ^ 6 := Nat.pow_le_pow_right (by decide) h
  exact ⟨q, by omega, h2⟩
theorem aKs_on (σ : SD) (x : Int32) {i : Nat} (h : i ≤ 6) : onF (aKs σ x i) 6 = bcF (aKs σ x i) ∧ 0 ≤ (bcF (aKs σ x i)).toInt ∧ (bcF (aKs σ x i)).toInt ≤ 6 := by
  obtain ⟨q, h1, h2⟩ := aKs_64 σ x h
  rw [h2]; exact ⟨on_bc q h1, on_rng q h1⟩
/-! counting -/
theorem cnt_mono {P : Nat → Bool} {a : Nat} : ∀ {b : Nat}, a ≤ b → cnt P a ≤ cnt P b
  | 0, h => by rw [show a = 0 by omega]; exact Nat.le_refl _
  | b + 1, h => by
    by_cases e : a = b + 1
    · rw [e]; exact Nat.le_refl _
    · have := cnt_mono (P := P) (a := a) (b := b) (by omega)
      show _ ≤ cnt P b + (if P b then 1 else 0)
      omega
theorem cnt_lt {P : Nat → Bool} {a b : Nat} (h : a < b) (hp : P a = true) : cnt P a < cnt P b := by
  have h1 : cnt P (a + 1) ≤ cnt P b := cnt_mono (by omega)
  have h2 : cnt P (a + 1) = cnt P a + 1 := by show cnt P a + (if P a then 1 else 0) = _; rw [if_pos hp]
  omega
theorem cnt_inj {P : Nat → Bool} {a b : Nat} (ha : P a = true) (hb : P b = true) (h : cnt P a = cnt P b) : a = b := by
  rcases Nat.lt_trichotomy a b with c | c | c
  · have := cnt_lt c ha; omega
  · exact c
  · have := cnt_lt c hb; omega
theorem cnt_sur {P : Nat → Bool} {j : Nat} : ∀ {k : Nat}, j < cnt P k → ∃ a, a < k ∧ P a = true ∧ cnt P a = j
  | 0, h => absurd h (Nat.not_lt_zero j)
  | k + 1, h => by
    by_cases c : j < cnt P k
    · obtain ⟨a, h1, h2, h3⟩ := cnt_sur c
      exact ⟨a, by omega, h2, h3⟩
    · have h1 : j < cnt P k + (if P k then 1 else 0) := h
      by_cases e : P k = true
      · rw [if_pos e] at h1; exact ⟨k, by omega, e, by omega⟩
      · rw [if_neg e] at h1; omega
theorem cnt_re {P Q : Nat → Bool} : ∀ m, cnt (fun k => P k && Q (cnt P k)) m = cnt Q (cnt P m)
  | 0 => rfl
  | m + 1 => by
    have ih := cnt_re (P := P) (Q := Q) m
    show cnt (fun k => P k && Q (cnt P k)) m + (if (P m && Q (cnt P m)) = true then 1 else 0) = cnt Q (cnt P m + (if P m then 1 else 0))
    rw [ih]
    by_cases e : P m = true
    · rw [if_pos e, e, Bool.true_and]; rfl
    · rw [if_neg e, Bool.not_eq_true _ |>.mp e, Bool.false_and]; rfl
/-! blocks -/
def mkF (sh : Nat → Int32) (s : Int32) : Nat → Int32
  | 0 => 0
  | k + 1 => if sh k = s then mkF sh s k ||| ((1 : Int32) <<< (nI k &&& 31)) else mkF sh s k
def mkN (sh : Nat → Int32) (s : Int32) : Nat → Nat
  | 0 => 0
  | k + 1 => if sh k = s then mkN sh s k + 2 ^ k else mkN sh s k
theorem mkF_y {sh : Nat → Int32} {s : Int32} {k : Nat} (h : sh k = s) : mkF sh s (k + 1) = mkF sh s k ||| ((1 : Int32) <<< (nI k &&& 31)) := if_pos h
theorem mkF_n {sh : Nat → Int32} {s : Int32} {k : Nat} (h : ¬ sh k = s) : mkF sh s (k + 1) = mkF sh s k := if_neg h
theorem mkN_lt {sh : Nat → Int32} {s : Int32} : ∀ k, mkN sh s k < 2 ^ k
  | 0 => show (0 : Nat) < 1 from Nat.zero_lt_one
  | k + 1 => by
    have h := mkN_lt (sh := sh) (s := s) k
    have hp : 2 ^ (k + 1) = 2 ^ k + 2 ^ k := by rw [Nat.pow_succ]; omega
    show (if sh k = s then mkN sh s k + 2 ^ k else mkN sh s k) < 2 ^ (k + 1)
    split <;> omega
theorem mkF_N {sh : Nat → Int32} {s : Int32} : ∀ k, k ≤ 6 → mkF sh s k = nI (mkN sh s k)
  | 0, _ => rfl
  | k + 1, h => by
    have ih := mkF_N (sh := sh) (s := s) k (by omega)
    show (if sh k = s then mkF sh s k ||| ((1 : Int32) <<< (nI k &&& 31)) else mkF sh s k) = nI (if sh k = s then mkN sh s k + 2 ^ k else mkN sh s k)
    by_cases c : sh k = s
    · rw [if_pos c, if_pos c, ih, bit_or k (by omega) _ (mkN_lt k)]
    · rw [if_neg c, if_neg c, ih]
theorem mkN_mod {sh : Nat → Int32} {s : Int32} {a : Nat} : ∀ k, a ≤ k → mkN sh s k % 2 ^ a = mkN sh s a
  | 0, h => by rw [show a = 0 by omega]; exact Nat.mod_eq_of_lt (mkN_lt 0)
  | k + 1, h => by
    by_cases e : a = k + 1
    · rw [e]; exact Nat.mod_eq_of_lt (mkN_lt _)
    · have ih := mkN_mod (sh := sh) (s := s) (a := a) k (by omega)
      show (if sh k = s then mkN sh s k + 2 ^ k else mkN sh s k) % 2 ^ a = mkN sh s a
      by_cases c : sh k = s
      · rw [if_pos c, show 2 ^ k = 2 ^ a * 2 ^ (k - a) by rw [← Nat.pow_add]; congr 1; omega, Nat.add_mul_mod_self_left]; exact ih
      · rw [if_neg c]; exact ih
theorem mkN_0 {sh : Nat → Int32} {s : Int32} : ∀ k, mkN sh s k = 0 ↔ ∀ j, j < k → ¬ sh j = s
  | 0 => ⟨fun _ j hj => absurd hj (Nat.not_lt_zero j), fun _ => rfl⟩
  | k + 1 => by
    have ih := mkN_0 (sh := sh) (s := s) k
    have hp : 0 < 2 ^ k := Nat.pow_pos (by decide)
    show (if sh k = s then mkN sh s k + 2 ^ k else mkN sh s k) = 0 ↔ _
    by_cases c : sh k = s
    · rw [if_pos c]
      exact ⟨fun h => by omega, fun h => absurd c (h k (by omega))⟩
    · rw [if_neg c, ih]
      refine ⟨fun h j hj => ?_, fun h j hj => h j (by omega)⟩
      by_cases e : j = k
      · rw [e]; exact c
      · exact h j (by omega)
theorem mkF_0 {sh : Nat → Int32} {s : Int32} : ∀ k, (∀ j, j < k → ¬ sh j = s) → mkF sh s k = 0
  | 0, _ => rfl
  | k + 1, h => by rw [mkF_n (h k (by omega))]; exact mkF_0 k (fun j hj => h j (by omega))
theorem mkN_1st {sh : Nat → Int32} {s : Int32} : ∀ k, ¬ mkN sh s k = 0 → ∃ a, a < k ∧ sh a = s ∧ mkN sh s a = 0
  | 0, h => absurd rfl h
  | k + 1, h => by
    by_cases c : mkN sh s k = 0
    · by_cases e : sh k = s
      · exact ⟨k, by omega, e, c⟩
      · exact absurd (by show (if sh k = s then mkN sh s k + 2 ^ k else mkN sh s k) = 0; rw [if_neg e]; exact c) h
    · obtain ⟨a, h1, h2⟩ := mkN_1st k c
      exact ⟨a, by omega, h2⟩
/-- an anchor that is the first of its block -/
def fsB (sh : Nat → Int32) (a : Nat) : Bool := decide (¬ sh a = 0 ∧ mkN sh (sh a) a = 0)
theorem fs_t {sh : Nat → Int32} {a : Nat} (h : fsB sh a = true) : ¬ sh a = 0 ∧ mkN sh (sh a) a = 0 := of_decide_eq_true h
theorem fs_i {sh : Nat → Int32} {a : Nat} (h : ¬ sh a = 0 ∧ mkN sh (sh a) a = 0) : fsB sh a = true := decide_eq_true h
theorem fs_uniq {sh : Nat → Int32} {a b : Nat} (ha : fsB sh a = true) (hb : fsB sh b = true) (h : sh a = sh b) : a = b := by
  rcases Nat.lt_trichotomy a b with c | c | c
  · exact absurd h ((mkN_0 b).mp (fs_t hb).2 a c)
  · exact c
  · exact absurd h.symm ((mkN_0 a).mp (fs_t ha).2 b c)
def GI (sh : Nat → Int32) (k : Nat) (B : BL) : Prop := B.1 = cnt (fsB sh) k ∧ ∀ a, a < k → fsB sh a = true → B.2.1 (cnt (fsB sh) a) = sh a ∧ B.2.2 (cnt (fsB sh) a) = mkF sh (sh a) k
theorem cnt_y {P : Nat → Bool} {k : Nat} (h : P k = true) : cnt P (k + 1) = cnt P k + 1 := by show cnt P k + (if P k then 1 else 0) = _; rw [if_pos h]
theorem cnt_n {P : Nat → Bool} {k : Nat} (h : ¬ P k = true) : cnt P (k + 1) = cnt P k := by show cnt P k + (if P k then 1 else 0) = _; rw [if_neg h]; rfl
theorem ga_inv {sh S M : Nat → Int32} : ∀ k, GI sh k (gaF sh S M k)
  | 0 => ⟨rfl, fun a ha => absurd ha (Nat.not_lt_zero a)⟩
  | k + 1 => by
    obtain ⟨i1, i2⟩ := ga_inv (sh := sh) (S := S) (M := M) k
    show GI sh (k + 1) (if sh k = 0 then gaF sh S M k else enF k (sh k) (gaF sh S M k))
    generalize gaF sh S M k = B at i1 i2
    by_cases c : sh k = 0
    · rw [if_pos c]
      have hn : ¬ fsB sh k = true := fun h => (fs_t h).1 c
      refine ⟨by rw [cnt_n hn]; exact i1, fun a ha hf => ?_⟩
      have hak : a ≠ k := fun e => hn (by rw [← e]; exact hf)
      obtain ⟨j1, j2⟩ := i2 a (by omega) hf
      exact ⟨j1, by rw [mkF_n (fun e => (fs_t hf).1 (by rw [← e]; exact c))]; exact j2⟩
    · rw [if_neg c]
      by_cases hN : mkN sh (sh k) k = 0
      · have hk : fsB sh k = true := fs_i ⟨c, hN⟩
        have hno := (mkN_0 k).mp hN
        have hfst : fst B.2.1 (sh k) B.1 0 = B.1 := fst_is (f := B.1) (sz := B.1) (i := B.1) (by omega) (by omega) (Nat.le_refl _) (fun i _ hi => by
          obtain ⟨a, h1, h2, h3⟩ := cnt_sur (P := fsB sh) (k := k) (j := i) (by omega)
          rw [← h3, (i2 a h1 h2).1]; exact hno a h1) (fun h => absurd h (Nat.lt_irrefl _))
        unfold enF
        rw [if_pos hfst]
        refine ⟨by rw [cnt_y hk]; show B.1 + 1 = _; rw [i1], fun a ha hf => ?_⟩
        show upd B.2.1 B.1 (sh k) (cnt (fsB sh) a) = sh a ∧ upd (upd B.2.2 B.1 0) B.1 (0 ||| ((1 : Int32) <<< (nI k &&& 31))) (cnt (fsB sh) a) = mkF sh (sh a) (k + 1)
        by_cases e : a = k
        · rw [e, i1, upd_s, upd_s, mkF_y rfl, mkF_0 k hno]; exact ⟨rfl, rfl⟩
        · have hl : cnt (fsB sh) a ≠ B.1 := by have := cnt_lt (show a < k by omega) hf; omega
          obtain ⟨j1, j2⟩ := i2 a (by omega) hf
          rw [upd_n hl, upd_n hl, upd_n hl, mkF_n (fun q => hno a (by omega) q.symm)]
          exact ⟨j1, j2⟩
      · obtain ⟨a, ha, hs, h0⟩ := mkN_1st k hN
        have hfa : fsB sh a = true := fs_i ⟨by rw [hs]; exact c, by rw [hs]; exact h0⟩
        have hn : ¬ fsB sh k = true := fun h => hN (fs_t h).2
        have hca : cnt (fsB sh) a < B.1 := by rw [i1]; exact cnt_lt ha hfa
        have hfst : fst B.2.1 (sh k) B.1 0 = cnt (fsB sh) a := fst_is (f := B.1) (sz := B.1) (i := cnt (fsB sh) a) (by omega) (by omega) (by omega) (fun i _ hi => by
          obtain ⟨b, h1, h2, h3⟩ := cnt_sur (P := fsB sh) (k := a) (j := i) hi
          rw [← h3, (i2 b (by omega) h2).1]; exact (mkN_0 a).mp h0 b h1) (fun _ => by rw [(i2 a ha hfa).1]; exact hs)
        unfold enF
        rw [hfst, if_neg (by omega)]
        refine ⟨by rw [cnt_n hn]; exact i1, fun b hb hfb => ?_⟩
        have hbk : b ≠ k := fun e => hn (by rw [← e]; exact hfb)
        obtain ⟨j1, j2⟩ := i2 b (by omega) hfb
        refine ⟨j1, ?_⟩
        show upd B.2.2 (cnt (fsB sh) a) (B.2.2 (cnt (fsB sh) a) ||| ((1 : Int32) <<< (nI k &&& 31))) (cnt (fsB sh) b) = mkF sh (sh b) (k + 1)
        by_cases e : b = a
        · rw [e, upd_s, (i2 a ha hfa).2, mkF_y hs.symm]
        · rw [upd_n (fun q => e (cnt_inj hfb hfa q)), mkF_n (fun q => e (fs_uniq hfb hfa (q.symm.trans hs.symm)))]; exact j2
theorem ga_ext {sh sh' S M : Nat → Int32} : ∀ k, (∀ i, i < k → sh i = sh' i) → gaF sh S M k = gaF sh' S M k
  | 0, _ => rfl
  | k + 1, h => by
    show (if sh k = 0 then gaF sh S M k else enF k (sh k) (gaF sh S M k)) = (if sh' k = 0 then gaF sh' S M k else enF k (sh' k) (gaF sh' S M k))
    rw [h k (by omega), ga_ext k (fun i hi => h i (by omega))]
/-- the model's set of a block at its first anchor -/
def blkF (sh : Nat → Int32) (m a : Nat) : Int32 := if sh a = 0 ∨ ¬ mkF sh (sh a) m &&& (((1 : Int32) <<< (nI a &&& 31)) - 1) = 0 then 0 else mkF sh (sh a) m
theorem mkN_64 {sh : Nat → Int32} {s : Int32} {m : Nat} (hm : m ≤ 6) : mkN sh s m < 64 := by
  have h1 := mkN_lt (sh := sh) (s := s) m
  have h2 : 2 ^ m ≤ 2 ^ 6 := Nat.pow_le_pow_right (by decide) hm
  omega
theorem blk_eq {sh : Nat → Int32} {m a : Nat} (hm : m ≤ 6) (ha : a < m) : blkF sh m a = if fsB sh a = true then mkF sh (sh a) m else 0 := by
  unfold blkF
  rw [mkF_N m hm, and_low a (by omega) _ (mkN_64 hm), mkN_mod m (by omega)]
  have h1 := mkN_lt (sh := sh) (s := sh a) a
  have h2 : 2 ^ a ≤ 2 ^ 6 := Nat.pow_le_pow_right (by decide) (by omega)
  by_cases c : fsB sh a = true
  · obtain ⟨c1, c2⟩ := fs_t c
    rw [if_pos c, if_neg (fun h => h.elim c1 (fun h => h (by rw [c2]; rfl)))]
  · rw [if_neg c]
    refine if_pos ?_
    by_cases c1 : sh a = 0
    · exact Or.inl c1
    · refine Or.inr (fun h => c (fs_i ⟨c1, ?_⟩))
      exact (nI_eq (by omega) (by omega)).mp (show nI (mkN sh (sh a) a) = nI 0 from h)
theorem mkN_ge {sh : Nat → Int32} {m a : Nat} (ha : a < m) : 0 < mkN sh (sh a) m := Nat.pos_of_ne_zero (fun h => (mkN_0 m).mp h a ha rfl)
theorem blk_pos {sh : Nat → Int32} {m a : Nat} (hm : m ≤ 6) (ha : a < m) : 0 < blkF sh m a ↔ fsB sh a = true := by
  rw [blk_eq hm ha]
  by_cases c : fsB sh a = true
  · rw [if_pos c]
    refine ⟨fun _ => c, fun _ => Int32.lt_iff_toInt_lt.mpr ?_⟩
    have h1 := mkN_ge (sh := sh) ha
    have h2 := mkN_64 (sh := sh) (s := sh a) hm
    rw [mkF_N m hm, nI_toInt (by omega)]
    show (0 : Int) < _; omega
  · rw [if_neg c]; exact ⟨fun h => absurd h Int32.lt_irrefl, fun h => absurd h c⟩
def bmF (sh : Nat → Int32) (m a k : Nat) : Bool := decide (onF (blkF sh m a) 6 < onF (blkF sh m k) 6 ∨ (0 < blkF sh m k ∧ onF (blkF sh m k) 6 = onF (blkF sh m a) 6 ∧ sh k < sh a))
theorem sub_pos32 {u w : Int32} (hu : 0 ≤ u.toInt ∧ u.toInt ≤ 6) (hw : 0 ≤ w.toInt ∧ w.toInt ≤ 6) : (0 < u - w ↔ w < u) ∧ (u - w = 0 ↔ u = w) := by
  have h : (u - w).toInt = u.toInt - w.toInt := t_sub (by omega) (by omega)
  have h0 : (0 : Int32).toInt = 0 := rfl
  refine ⟨?_, ?_⟩
  · rw [Int32.lt_iff_toInt_lt, Int32.lt_iff_toInt_lt, h, h0]; omega
  · refine ⟨fun e => i_inj (by have := congrArg Int32.toInt e; rw [h, h0] at this; omega), fun e => by rw [e, Int32.sub_self]⟩
theorem ab_bm {sh S M : Nat → Int32} {m a : Nat} (hm : m ≤ 6) (ha : a < m) (hfa : fsB sh a = true) : abF (gaF sh S M m) (cnt (fsB sh) a) = cnt (bmF sh m a) m := by
  obtain ⟨i1, i2⟩ := ga_inv (sh := sh) (S := S) (M := M) m
  unfold abF
  rw [i1, ← cnt_re]
  refine cnt_cong (fun k hk => ?_)
  have ra := on_rng _ (mkN_64 (sh := sh) (s := sh a) hm)
  have rk := on_rng _ (mkN_64 (sh := sh) (s := sh k) hm)
  have hbk := blk_eq (sh := sh) hm hk
  have hpk := blk_pos (sh := sh) hm hk
  unfold bmF
  rw [blk_eq hm ha, if_pos hfa, mkF_N m hm, on_bc _ (mkN_64 hm)]
  by_cases c : fsB sh k = true
  · rw [if_pos c, mkF_N m hm] at hbk
    rw [hbk] at hpk
    rw [hbk, on_bc _ (mkN_64 hm), c, Bool.true_and]
    unfold ahF
    rw [(i2 k hk c).1, (i2 k hk c).2, (i2 a ha hfa).1, (i2 a ha hfa).2, mkF_N m hm, mkF_N m hm]
    obtain ⟨s1, s2⟩ := sub_pos32 rk ra
    refine decide_eq_decide.mpr ?_
    rw [s1, s2, Int32.not_le]
    exact or_congr Iff.rfl ⟨fun h => ⟨hpk.mpr c, h.1, h.2⟩, fun h => ⟨h.2.1, h.2.2⟩⟩
  · rw [if_neg c] at hbk
    rw [hbk, Bool.not_eq_true _ |>.mp c, Bool.false_and]
    refine (decide_eq_false ?_).symm
    intro h
    rcases h with h | h
    · have h1 := i_lt h
      have h2 : (onF 0 6).toInt = 0 := by decide
      omega
    · exact Int32.lt_irrefl h.1
theorem bo_hit {sh S M : Nat → Int32} {m a : Nat} {x : Int32} (hm : m ≤ 6) (ha : a < m) (hp : 0 < blkF sh m a) (he : nI (cnt (bmF sh m a) m) = x) (hk : ∀ k, k < a → ¬ (0 < blkF sh m k ∧ nI (cnt (bmF sh m k) m) = x)) : ioF (gaF sh S M m) x (gaF sh S M m).1 0 = nI (cnt (fsB sh) a) ∧ whF (gaF sh S M m).2.2 (gaF sh S M m).1 (nI (cnt (fsB sh) a)) = blkF sh m a ∧ whF (gaF sh S M m).2.1 (gaF sh S M m).1 (nI (cnt (fsB sh) a)) = sh a := by
  obtain ⟨i1, i2⟩ := ga_inv (sh := sh) (S := S) (M := M) m
  have hfa := (blk_pos hm ha).mp hp
  have hc : cnt (fsB sh) a < (gaF sh S M m).1 := by rw [i1]; exact cnt_lt ha hfa
  have hle : (gaF sh S M m).1 ≤ m := gaF_le m
  refine ⟨io_is (by omega) (by omega) hc (fun j _ hj h => ?_) (by rw [ab_bm hm ha hfa]; exact he), ?_, ?_⟩
  · obtain ⟨b, h1, h2, h3⟩ := cnt_sur hj
    rw [← h3, ab_bm hm (by omega) h2] at h
    exact hk b h1 ⟨(blk_pos hm (by omega)).mpr h2, h⟩
  · rw [whF_nI hc (by omega), (i2 a ha hfa).2, blk_eq hm ha, if_pos hfa]
  · rw [whF_nI hc (by omega), (i2 a ha hfa).1]
theorem bo_no {sh S M : Nat → Int32} {m : Nat} {x : Int32} (hm : m ≤ 6) (hk : ∀ k, k < m → ¬ (0 < blkF sh m k ∧ nI (cnt (bmF sh m k) m) = x)) : ioF (gaF sh S M m) x (gaF sh S M m).1 0 = -1 := by
  obtain ⟨i1, i2⟩ := ga_inv (sh := sh) (S := S) (M := M) m
  refine io_no (by omega) (fun j _ hj h => ?_)
  obtain ⟨b, h1, h2, h3⟩ := cnt_sur (P := fsB sh) (k := m) (j := j) (by omega)
  rw [← h3, ab_bm hm h1 h2] at h
  exact hk b h1 ⟨(blk_pos hm h1).mpr h2, h⟩
theorem nI_n1 {k : Nat} (h : k < 2 ^ 31) : ¬ nI k = -1 := nI_m1 h
theorem bo_yesR {σ : SD} {sh : Nat → Int32} {a : Nat} {x y v : Int32} (hm : σ.2.1 ≤ 6) (hsh : ∀ k, k < σ.2.1 → sh k = aH σ k) (hx : 0 ≤ x.toInt ∧ InR y 0 1) (ha : a < σ.2.1) (hp : 0 < blkF sh σ.2.1 a) (he : nI (cnt (bmF sh σ.2.1 a) σ.2.1) = x) (hk : ∀ k, k < a → ¬ (0 < blkF sh σ.2.1 k ∧ nI (cnt (bmF sh σ.2.1 k) σ.2.1) = x)) (hv : (y = 0 → v = blkF sh σ.2.1 a) ∧ (¬ y = 0 → v = sh a + 100)) : blockOfR σ x y = v := by
  have hB : aBl σ = gaF sh (fun _ => 0) (fun _ => 0) σ.2.1 := (ga_ext _ hsh).symm
  obtain ⟨b1, b2, b3⟩ := bo_hit (S := fun _ => 0) (M := fun _ => 0) hm ha hp he hk
  have hle : cnt (fsB sh) a ≤ a := cnt_le _ _
  have hio : aIo σ x = nI (cnt (fsB sh) a) := by unfold aIo; rw [hB]; exact b1
  unfold blockOfR
  rw [if_neg (fun h => h hx), hio, if_neg (nI_n1 (by omega)), hB, b2, b3]
  by_cases c : y = 0
  · rw [if_pos c]; exact (hv.1 c).symm
  · rw [if_neg c]; exact (hv.2 c).symm
theorem bo_noR {σ : SD} {sh : Nat → Int32} {x y : Int32} (hm : σ.2.1 ≤ 6) (hsh : ∀ k, k < σ.2.1 → sh k = aH σ k) (hx : 0 ≤ x.toInt ∧ InR y 0 1) (hk : ∀ k, k < σ.2.1 → ¬ (0 < blkF sh σ.2.1 k ∧ nI (cnt (bmF sh σ.2.1 k) σ.2.1) = x)) : blockOfR σ x y = -1000004 := by
  have hB : aBl σ = gaF sh (fun _ => 0) (fun _ => 0) σ.2.1 := (ga_ext _ hsh).symm
  unfold blockOfR aIo
  rw [if_neg (fun h => h hx), hB, bo_no hm hk, if_pos rfl]
theorem aK3 (σ : SD) (a : Nat) : aK σ a 3 = decide (¬ σ.2.2.2.2.2.2.2.2.1 a = -1 ∧ σ.2.2.2.2.2.2.2.2.1 a = aB σ a (-1)) := by
  unfold aK kindF
  rw [if_neg (by decide), if_pos rfl]
  rfl
theorem ao_d {S : Nat → Int32} {σ : SD} {x y : Int32} {z q : Nat} (hS : MS S σ) (hG : Good σ) (hc : InA σ x ∧ 0 ≤ y.toInt ∧ y.toInt ≤ 12) (hz : x.toNatClampNeg = z) (hza : z < σ.2.1) (hq : q ≤ 6) (hy : y = nI q) : anchorOfR σ x y = if (S (48 + 7 * z + q)).toInt < 0 then -1000004 else S (48 + 7 * z + q) := by
  obtain ⟨a1, a2, a3⟩ := hS.2.2.2.2.2 z hza
  obtain ⟨g1, g2, g3⟩ := hG.2.2.2.2 z hza
  have hne : ∀ c : Nat, c < 100 → c ≠ q → ¬ y = nI c := fun c h1 h2 h => by
    rw [hy] at h
    have := (nI_eq (by omega) (by omega)).mp h
    omega
  unfold anchorOfR
  rw [if_neg (fun h => h hc), hz]
  have hm1 : (-1 : Int32).toInt = -1 := rfl
  by_cases e0 : q = 0
  · have e : S (48 + 7 * z + q) = σ.2.2.2.2.2.2.2.1 z := (congrArg S (by omega)).trans a1
    rw [if_pos (show y = 0 by rw [hy, e0]; rfl), e, if_neg (by omega)]
  · rw [if_neg (show ¬ y = 0 from hne 0 (by omega) (by omega))]
    by_cases e1 : q = 1
    · have e : S (48 + 7 * z + q) = σ.2.2.2.2.2.2.2.2.1 z := (congrArg S (by omega)).trans a2
      rw [if_pos (show y = 1 by rw [hy, e1]; rfl), e]
      refine orN_of ?_
      by_cases c : 0 ≤ (σ.2.2.2.2.2.2.2.2.1 z).toInt
      · exact Or.inr c
      · exact Or.inl (i_inj (by omega))
    · rw [if_neg (show ¬ y = 1 from hne 1 (by omega) (by omega)), if_neg (show ¬ y = 7 from hne 7 (by omega) (by omega)), if_neg (show ¬ y = 8 from hne 8 (by omega) (by omega)), if_neg (show ¬ y = 9 from hne 9 (by omega) (by omega)), if_neg (show ¬ y = 10 from hne 10 (by omega) (by omega)), if_neg (show ¬ y = 11 from hne 11 (by omega) (by omega)), if_neg (show ¬ y = 12 from hne 12 (by omega) (by omega))]
      have e : S (48 + 7 * z + q) = σ.2.2.2.2.2.2.2.2.2 z (q - 2) := (congrArg S (by omega)).trans (a3 (q - 2) (by omega))
      have e2 : y - 2 = nI (q - 2) := by rw [hy]; exact pk_sub (b := 2) (by omega)
      rw [e, e2, atF_nI (by omega) (by omega)]
      have g := g3 (q - 2) (by omega)
      refine orN_of ?_
      by_cases c : 0 ≤ (σ.2.2.2.2.2.2.2.2.2 z (q - 2)).toInt
      · exact Or.inr c
      · exact Or.inl (i_inj (by omega))
theorem sn_a {W : Nat → Int32} {v : Int32} {j : Nat} (h : (!seenF W v j) = false) : (0 : Int32) = bI (!seenF W v (j + 1)) := by
  have h1 : seenF W v j = true := by cases hs : seenF W v j <;> simp_all
  show _ = bI (!(seenF W v j || decide (W j = v)))
  rw [h1]; rfl
theorem sn_b {W : Nat → Int32} {v : Int32} {j : Nat} (h : W j = v) : (0 : Int32) = bI (!seenF W v (j + 1)) := by
  show _ = bI (!(seenF W v j || decide (W j = v)))
  rw [decide_eq_true h, Bool.or_true]; rfl
theorem sn_c {W : Nat → Int32} {v : Int32} {j : Nat} (h : (!seenF W v j) = true) (h2 : ¬ W j = v) : (1 : Int32) = bI (!seenF W v (j + 1)) := by
  have h1 : seenF W v j = false := by cases hs : seenF W v j <;> simp_all
  show _ = bI (!(seenF W v j || decide (W j = v)))
  rw [h1, decide_eq_false h2]; rfl
theorem of_decide_eq_false_b {P : Prop} [Decidable P] (h : ¬ P) : ¬ decide P = true := fun q => h (of_decide_eq_true q)
