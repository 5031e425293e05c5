/-! LIKENESS, THE CLEAREST PLACE, THE SAFEST -/
theorem lk_inc (j : Nat) : nI j - 2 + 1 = nI (j + 1) - 2 := by
  rw [← nI_1, Int32.sub_eq_add_neg, Int32.sub_eq_add_neg, Int32.add_assoc, Int32.add_comm (-2) 1, ← Int32.add_assoc]
theorem lk_a {j : Nat} (h : 2 ≤ j ∧ j < 5) : (3 : Int32) + (nI j - 2) = nI (1 + j) := by
  rcases (show j = 2 ∨ j = 3 ∨ j = 4 by omega) with rfl | rfl | rfl <;> decide
theorem lk_b {j : Nat} (h : j < 2) : (3 : Int32) + -(nI j - 2) = nI (5 - j) := by
  rcases (show j = 0 ∨ j = 1 by omega) with rfl | rfl <;> decide
theorem wg_a {S E : Nat → Int32} {j : Nat} (h : ∀ k, k < 5 → S (3 + k) = E k) (hj : 2 ≤ j ∧ j < 5) : S (1 + j) = wgt E j := by
  unfold wgt
  rw [if_neg (by omega), ← h (j - 2) (by omega)]
  exact congrArg S (by omega)
theorem wg_b {S E : Nat → Int32} {j : Nat} (h : ∀ k, k < 5 → S (3 + k) = E k) (hj : j < 2) : S (5 - j) = wgt E j := by
  unfold wgt
  rw [if_pos hj, ← h (2 - j) (by omega)]
  exact congrArg S (by omega)
def msV (n : Nat) (W E : Nat → Int32) (o p : Nat) : Int32 := if nI p = nI o then 0 else scr n W E (lookF n W (nI o)) (nI p)
/-- the greatest score of a new anchor among the other ones of the first places -/
def msF (n : Nat) (W E : Nat → Int32) (o : Nat) : Nat → Int32
  | 0 => 0
  | p + 1 => if msF n W E o p < msV n W E o p then msV n W E o p else msF n W E o p
theorem ms_1 {n : Nat} {W E : Nat → Int32} {o p : Nat} {v : Int32} (hv : v = msV n W E o p) (h : v ≤ msF n W E o p) : msF n W E o p = msF n W E o (p + 1) := by
  subst hv; exact (if_neg (Int32.not_lt.mpr h)).symm
theorem ms_2 {n : Nat} {W E : Nat → Int32} {o p : Nat} {v : Int32} (hv : v = msV n W E o p) (h : ¬ v ≤ msF n W E o p) : v = msF n W E o (p + 1) := by
  subst hv; exact (if_pos (Int32.not_le.mp h)).symm
theorem bst_sc {n : Nat} {W E f : Nat → Int32} {p x : Int32} : ∀ i, ¬ (bstF n W E f p x i).1 = -1 → scr n W E f (bstF n W E f p x i).1 = (bstF n W E f p x i).2.1
  | 0, h => absurd rfl h
  | i + 1, h => by
    unfold bstF at h ⊢
    split
    · rfl
    · next hc => rw [if_neg hc] at h; exact bst_sc i h
theorem ms_bst {n : Nat} {W E : Nat → Int32} {o : Nat} (hE : ∀ k, k < 3 → 0 ≤ (E k).toInt ∧ (E k).toInt ≤ 20) : ∀ i, i < 2 ^ 31 → msF n W E o i = if (bstF n W E (lookF n W (nI o)) (nI o) (nI o) i).1 = -1 then 0 else (bstF n W E (lookF n W (nI o)) (nI o) (nI o) i).2.1
  | 0, _ => (if_pos rfl).symm
  | i + 1, h => by
    have ih := ms_bst (n := n) (W := W) (o := o) hE i (by omega)
    have hs := scr_rng (n := n) (W := W) (f := lookF n W (nI o)) (x := nI i) hE
    have h0 : (0 : Int32).toInt = 0 := rfl
    have hms : 0 ≤ (msF n W E o i).toInt := by
      rw [ih]
      by_cases c : (bstF n W E (lookF n W (nI o)) (nI o) (nI o) i).1 = -1
      · rw [if_pos c]; exact (by decide)
      · rw [if_neg c, ← bst_sc i c]; exact (scr_rng hE).1
    show (if msF n W E o i < msV n W E o i then msV n W E o i else msF n W E o i) = _
    by_cases e : nI i = nI o
    · have hv : msV n W E o i = 0 := if_pos e
      have hb : bstF n W E (lookF n W (nI o)) (nI o) (nI o) (i + 1) = bstF n W E (lookF n W (nI o)) (nI o) (nI o) i := if_neg (fun q => q.1 e)
      rw [hv, hb, if_neg (fun q => by have := i_lt q; omega)]; exact ih
    · have hv : msV n W E o i = scr n W E (lookF n W (nI o)) (nI i) := if_neg e
      rw [hv, ih]
      by_cases c : (bstF n W E (lookF n W (nI o)) (nI o) (nI o) i).1 = -1
      · have hb : bstF n W E (lookF n W (nI o)) (nI o) (nI o) (i + 1) = (nI i, scr n W E (lookF n W (nI o)) (nI i), absI (nI i - nI o)) := if_pos ⟨e, Or.inl c⟩
        rw [if_pos c, hb]
        show _ = if nI i = -1 then 0 else scr n W E (lookF n W (nI o)) (nI i)
        rw [if_neg (nI_m1 (by omega))]
        by_cases q : 0 < scr n W E (lookF n W (nI o)) (nI i)
        · rw [if_pos q]
        · rw [if_neg q]; exact i_inj (by have := i_nlt q; omega)
      · rw [if_neg c]
        by_cases q : (bstF n W E (lookF n W (nI o)) (nI o) (nI o) i).2.1 < scr n W E (lookF n W (nI o)) (nI i)
        · have hb : bstF n W E (lookF n W (nI o)) (nI o) (nI o) (i + 1) = (nI i, scr n W E (lookF n W (nI o)) (nI i), absI (nI i - nI o)) := if_pos ⟨e, Or.inr (Or.inl q)⟩
          rw [if_pos q, hb]
          show _ = if nI i = -1 then 0 else scr n W E (lookF n W (nI o)) (nI i)
          rw [if_neg (nI_m1 (by omega))]
        · rw [if_neg q]
          by_cases q2 : scr n W E (lookF n W (nI o)) (nI i) = (bstF n W E (lookF n W (nI o)) (nI o) (nI o) i).2.1 ∧ ¬ (bstF n W E (lookF n W (nI o)) (nI o) (nI o) i).2.2 ≤ absI (nI i - nI o)
          · have hb : bstF n W E (lookF n W (nI o)) (nI o) (nI o) (i + 1) = (nI i, scr n W E (lookF n W (nI o)) (nI i), absI (nI i - nI o)) := if_pos ⟨e, Or.inr (Or.inr q2)⟩
            rw [hb]
            show _ = if nI i = -1 then 0 else scr n W E (lookF n W (nI o)) (nI i)
            rw [if_neg (nI_m1 (by omega))]; exact q2.1.symm
          · have hb : bstF n W E (lookF n W (nI o)) (nI o) (nI o) (i + 1) = bstF n W E (lookF n W (nI o)) (nI o) (nI o) i := if_neg (fun z => z.2.elim c (fun z => z.elim q q2))
            rw [hb, if_neg c]
theorem df_ms {σ : SD} {o : Nat} (hn : σ.1 ≤ 40) (hE : ∀ k, k < 3 → 0 ≤ (σ.2.2.2.2.2.2.1 k).toInt ∧ (σ.2.2.2.2.2.2.1 k).toInt ≤ 20) : scr σ.1 σ.2.2.2.1 σ.2.2.2.2.2.2.1 (lookF σ.1 σ.2.2.2.1 (nI o)) (nI o) - msF σ.1 σ.2.2.2.1 σ.2.2.2.2.2.2.1 o σ.1 = dfF σ o := by
  rw [ms_bst hE σ.1 (by omega)]
  unfold dfF bpF
  by_cases c : (bstF σ.1 σ.2.2.2.1 σ.2.2.2.2.2.2.1 (lookF σ.1 σ.2.2.2.1 (nI o)) (nI o) (nI o) σ.1).1 = -1
  · rw [if_pos c, if_pos c, Int32.sub_zero]
  · rw [if_neg c, if_neg c, bst_sc _ c]
theorem sc_le {n : Nat} {W E : Nat → Int32} {o : Int32} {x : Int32} (hE : ∀ k, k < 3 → 0 ≤ (E k).toInt ∧ (E k).toInt ≤ 20) : ∀ k, k ≤ 5 → (scF n W E (lookF n W o) x k).toInt ≤ (scF n W E (lookF n W o) o k).toInt
  | 0, _ => Int.le_refl _
  | k + 1, h => by
    have ih := sc_le (n := n) (W := W) (o := o) (x := x) hE k (by omega)
    have r1 := scF_rng (n := n) (W := W) (f := lookF n W o) (x := x) hE k (by omega)
    have r2 := scF_rng (n := n) (W := W) (f := lookF n W o) (x := o) hE k (by omega)
    have hw : 0 ≤ (wgt E k).toInt ∧ (wgt E k).toInt ≤ 20 := by
      unfold wgt
      exact hE _ (by split <;> omega)
    rw [← scF_yes (n := n) (W := W) (E := E) (f := lookF n W o) (x := o) (k := k) rfl, t_add (by omega) (by omega)]
    by_cases c : lookF n W o k = atF n W (x + nI k - 2)
    · rw [← scF_yes c, t_add (by omega) (by omega)]; omega
    · rw [← scF_no c]; omega
theorem df_rng {σ : SD} {o : Nat} (hE : ∀ k, k < 3 → 0 ≤ (σ.2.2.2.2.2.2.1 k).toInt ∧ (σ.2.2.2.2.2.2.1 k).toInt ≤ 20) : 0 ≤ (dfF σ o).toInt := by
  have r1 := scr_rng (n := σ.1) (W := σ.2.2.2.1) (f := lookF σ.1 σ.2.2.2.1 (nI o)) (x := nI o) hE
  unfold dfF
  split
  · exact r1.1
  · have r2 := scr_rng (n := σ.1) (W := σ.2.2.2.1) (f := lookF σ.1 σ.2.2.2.1 (nI o)) (x := bpF σ.1 σ.2.2.2.1 σ.2.2.2.2.2.2.1 (lookF σ.1 σ.2.2.2.1 (nI o)) (nI o) (nI o)) hE
    have r3 : (scr σ.1 σ.2.2.2.1 σ.2.2.2.2.2.2.1 (lookF σ.1 σ.2.2.2.1 (nI o)) (bpF σ.1 σ.2.2.2.1 σ.2.2.2.2.2.2.1 (lookF σ.1 σ.2.2.2.1 (nI o)) (nI o) (nI o))).toInt ≤ (scr σ.1 σ.2.2.2.1 σ.2.2.2.2.2.2.1 (lookF σ.1 σ.2.2.2.1 (nI o)) (nI o)).toInt := sc_le hE 5 (Nat.le_refl 5)
    rw [t_sub (by omega) (by omega)]; omega
def clP (σ : SD) (i : Nat) : Int32 := if (clF σ i).1 = -1 then -1000004 else (clF σ i).1
def clB (σ : SD) (i : Nat) : Int32 := if (clF σ i).1 = -1 then -1 else (clF σ i).2
theorem cl_y {σ : SD} {i : Nat} (h : ¬ dfF σ i ≤ clB σ i) : clF σ (i + 1) = (nI i, dfF σ i) := by
  refine if_pos ?_
  by_cases c : (clF σ i).1 = -1
  · exact Or.inl c
  · unfold clB at h; rw [if_neg c] at h; exact Or.inr h
theorem cl_n {σ : SD} {i : Nat} (h0 : 0 ≤ (dfF σ i).toInt) (h : dfF σ i ≤ clB σ i) : clF σ (i + 1) = clF σ i := by
  refine if_neg (fun q => ?_)
  unfold clB at h
  by_cases c : (clF σ i).1 = -1
  · rw [if_pos c] at h
    have h1 := i_le h
    have h2 : (-1 : Int32).toInt = -1 := rfl
    omega
  · rw [if_neg c] at h
    exact q.elim c (fun q => q h)
theorem clP_y {σ : SD} {i : Nat} (hi : i < 2 ^ 31) (h : clF σ (i + 1) = (nI i, dfF σ i)) : nI i = clP σ (i + 1) ∧ dfF σ i = clB σ (i + 1) := by
  unfold clP clB
  rw [h]
  exact ⟨(if_neg (nI_m1 hi)).symm, (if_neg (nI_m1 hi)).symm⟩
theorem clP_n {σ : SD} {i : Nat} (h : clF σ (i + 1) = clF σ i) : clP σ i = clP σ (i + 1) ∧ clB σ i = clB σ (i + 1) := by
  unfold clP clB
  rw [h]; exact ⟨rfl, rfl⟩
theorem cl_rng {σ : SD} : ∀ i, (clF σ i).1 = -1 ∨ ∃ q, q < i ∧ (clF σ i).1 = nI q
  | 0 => Or.inl rfl
  | i + 1 => by
    have ih := cl_rng (σ := σ) i
    show (if (clF σ i).1 = -1 ∨ ¬ dfF σ i ≤ (clF σ i).2 then (nI i, dfF σ i) else clF σ i).1 = -1 ∨ ∃ q, q < i + 1 ∧ (if (clF σ i).1 = -1 ∨ ¬ dfF σ i ≤ (clF σ i).2 then (nI i, dfF σ i) else clF σ i).1 = nI q
    split
    · exact Or.inr ⟨i, by omega, rfl⟩
    · rcases ih with h | ⟨q, h1, h2⟩
      · exact Or.inl h
      · exact Or.inr ⟨q, by omega, h2⟩
theorem clR_0 {σ : SD} {x : Int32} (h : InR x 0 1) (h0 : x = 0) : clearestR σ x = clP σ σ.1 := by
  unfold clearestR clP
  rw [if_neg (fun q => q h), if_pos h0]
theorem clR_1 {σ : SD} {x : Int32} (h : InR x 0 1) (h0 : ¬ x = 0) (hp : 0 ≤ clP σ σ.1) : clearestR σ x = clB σ σ.1 := by
  unfold clearestR clB
  by_cases c : (clF σ σ.1).1 = -1
  · exfalso; unfold clP at hp; rw [if_pos c] at hp; exact absurd hp (by decide)
  · rw [if_neg (fun q => q h), if_neg c, if_neg c, if_neg h0]
theorem clR_2 {σ : SD} {x : Int32} (hn : σ.1 ≤ 40) (h : InR x 0 1) (hp : ¬ 0 ≤ clP σ σ.1) : clearestR σ x = clP σ σ.1 := by
  unfold clearestR clP
  by_cases c : (clF σ σ.1).1 = -1
  · rw [if_neg (fun q => q h), if_pos c, if_pos c]
  · exfalso
    unfold clP at hp
    rw [if_neg c] at hp
    rcases cl_rng (σ := σ) σ.1 with q | ⟨q, h1, h2⟩
    · exact c q
    · rw [h2] at hp
      exact hp (Int32.le_iff_toInt_le.mpr (by rw [nI_toInt (by omega)]; show (0 : Int) ≤ _; omega))
def sfP (σ : SD) (i : Nat) : Int32 := if (sfF σ i).1 = -1 then -1000004 else (sfF σ i).1
theorem sf_y {σ : SD} {i : Nat} (h0 : 0 ≤ (bcF (aKs (remD i σ) 2 σ.2.1)).toInt) (h : bcF (aKs (remD i σ) 2 σ.2.1) < (sfF σ i).2) : sfF σ (i + 1) = (nI i, bcF (aKs (remD i σ) 2 σ.2.1)) := if_pos ⟨Int32.lt_iff_toInt_lt.mpr (by have := i_lt h; show (0 : Int) < _; omega), h⟩
theorem sf_n {σ : SD} {i : Nat} (h : ¬ bcF (aKs (remD i σ) 2 σ.2.1) < (sfF σ i).2) : sfF σ (i + 1) = sfF σ i := if_neg (fun q => h q.2)
theorem sfP_y {σ : SD} {i : Nat} {v : Int32} (hi : i < 2 ^ 31) (h : sfF σ (i + 1) = (nI i, v)) : nI i = sfP σ (i + 1) ∧ v = (sfF σ (i + 1)).2 := by
  unfold sfP
  rw [h]; exact ⟨(if_neg (nI_m1 hi)).symm, rfl⟩
theorem sfP_n {σ : SD} {i : Nat} (h : sfF σ (i + 1) = sfF σ i) : sfP σ i = sfP σ (i + 1) ∧ (sfF σ i).2 = (sfF σ (i + 1)).2 := by
  unfold sfP
  rw [h]; exact ⟨rfl, rfl⟩
theorem sf_rng {σ : SD} : ∀ i, (sfF σ i).1 = -1 ∨ ∃ q, q < i ∧ (sfF σ i).1 = nI q
  | 0 => Or.inl rfl
  | i + 1 => by
    have ih := sf_rng (σ := σ) i
    show (if 0 < (sfF σ i).2 ∧ bcF (aKs (remD i σ) 2 σ.2.1) < (sfF σ i).2 then (nI i, bcF (aKs (remD i σ) 2 σ.2.1)) else sfF σ i).1 = -1 ∨ ∃ q, q < i + 1 ∧ (if 0 < (sfF σ i).2 ∧ bcF (aKs (remD i σ) 2 σ.2.1) < (sfF σ i).2 then (nI i, bcF (aKs (remD i σ) 2 σ.2.1)) else sfF σ i).1 = nI q
    split
    · exact Or.inr ⟨i, by omega, rfl⟩
    · rcases ih with h | ⟨q, h1, h2⟩
      · exact Or.inl h
      · exact Or.inr ⟨q, by omega, h2⟩
theorem sfR_0 {σ : SD} {x : Int32} (h : InR x 0 1) (h0 : x = 0) : safestR σ x = sfP σ σ.1 := by
  unfold safestR sfP
  rw [if_neg (fun q => q h), if_pos h0]
theorem sfR_1 {σ : SD} {x : Int32} (h : InR x 0 1) (h0 : ¬ x = 0) (hp : 0 ≤ sfP σ σ.1) : safestR σ x = (sfF σ σ.1).2 := by
  unfold safestR
  by_cases c : (sfF σ σ.1).1 = -1
  · exfalso; unfold sfP at hp; rw [if_pos c] at hp; exact absurd hp (by decide)
  · rw [if_neg (fun q => q h), if_neg c, if_neg h0]
theorem sfR_2 {σ : SD} {x : Int32} (hn : σ.1 ≤ 40) (h : InR x 0 1) (hp : ¬ 0 ≤ sfP σ σ.1) : safestR σ x = sfP σ σ.1 := by
  unfold safestR sfP
  by_cases c : (sfF σ σ.1).1 = -1
  · rw [if_neg (fun q => q h), if_pos c, if_pos c]
  · exfalso
    unfold sfP at hp
    rw [if_neg c] at hp
    rcases sf_rng (σ := σ) σ.1 with q | ⟨q, h1, h2⟩
    · exact c q
    · rw [h2] at hp
      exact hp (Int32.le_iff_toInt_le.mpr (by rw [nI_toInt (by omega)]; show (0 : Int) ≤ _; omega))
