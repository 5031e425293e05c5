/-! WHAT THE CALLS LEAVE IS GOOD -/
theorem fol_rng {tp : Nat → Int32} {v : Int32} {n n1 : Nat} (hv : -1 ≤ v.toInt ∧ v.toInt < n) (h : ∀ p, p < n → -1 ≤ (tp p).toInt ∧ (tp p).toInt < n1) : -1 ≤ (folV tp v).toInt ∧ (folV tp v).toInt < n1 := by
  unfold folV
  by_cases c : v.toInt < 0
  · rw [if_pos c]; exact ⟨by decide, by have : (-1 : Int32).toInt = -1 := rfl; omega⟩
  · rw [if_neg c]; exact h _ (by have := cl_toInt (x := v) (by omega); omega)
theorem good_step {n1 : Nat} {W1 tp : Nat → Int32} {σ : SD} (hg : Good σ) (hn : n1 ≤ 40) (hW : ∀ p, p < n1 → 0 ≤ (W1 p).toInt ∧ (W1 p).toInt ≤ 99) (ht : ∀ p, p < σ.1 → -1 ≤ (tp p).toInt ∧ (tp p).toInt < n1) : Good (stepD n1 W1 tp σ) := by
  obtain ⟨g1, g2, g3, g4, g5⟩ := hg
  exact ⟨hn, g2, hW, g4, fun k hk => ⟨(g5 k hk).1, fol_rng (g5 k hk).2.1 ht, (g5 k hk).2.2⟩⟩
theorem good_ins {σ : SD} {q : Nat} {w : Int32} (hg : Good σ) (hq : q ≤ σ.1) (hn : σ.1 < 40) (hw : 0 ≤ w.toInt ∧ w.toInt ≤ 99) : Good (insD q w σ) := by
  refine good_step hg (by omega) (fun p hp => ?_) (fun p hp => ?_)
  · unfold insW
    by_cases c1 : p < q
    · rw [if_pos c1]; exact hg.2.2.1 p (by omega)
    · rw [if_neg c1]
      by_cases c2 : p = q
      · rw [if_pos c2]; exact hw
      · rw [if_neg c2]; exact hg.2.2.1 _ (by omega)
  · show -1 ≤ (nI (insP q p)).toInt ∧ (nI (insP q p)).toInt < (σ.1 + 1 : Nat)
    have : insP q p ≤ p + 1 := by unfold insP; split <;> omega
    rw [nI_toInt (by omega)]; omega
theorem good_rem {σ : SD} {q : Nat} (hg : Good σ) (hq : q < σ.1) : Good (remD q σ) := by
  have hn := hg.1
  refine good_step hg (by omega) (fun p hp => ?_) (fun p hp => ?_)
  · unfold remW
    by_cases c1 : p < q
    · rw [if_pos c1]; exact hg.2.2.1 p (by omega)
    · rw [if_neg c1]; exact hg.2.2.1 _ (by omega)
  · unfold remP
    by_cases c1 : p < q
    · rw [if_pos c1, nI_toInt (by omega)]; omega
    · rw [if_neg c1]
      by_cases c2 : p = q
      · rw [if_pos c2]; have : (-1 : Int32).toInt = -1 := rfl; omega
      · rw [if_neg c2, nI_toInt (by omega)]; omega
theorem good_chg {σ : SD} {q : Nat} {w : Int32} (hg : Good σ) (hw : 0 ≤ w.toInt ∧ w.toInt ≤ 99) : Good (chgD q w σ) := by
  have hn := hg.1
  refine good_step hg hn (fun p hp => ?_) (fun p hp => ?_)
  · by_cases c : p = q
    · rw [c, upd_s]; exact hw
    · rw [upd_n c]; exact hg.2.2.1 p hp
  · by_cases c : p = q
    · show -1 ≤ (if p = q then (-1 : Int32) else nI p).toInt ∧ (if p = q then (-1 : Int32) else nI p).toInt < σ.1
      rw [if_pos c]; have : (-1 : Int32).toInt = -1 := rfl; omega
    · show -1 ≤ (if p = q then (-1 : Int32) else nI p).toInt ∧ (if p = q then (-1 : Int32) else nI p).toInt < σ.1
      rw [if_neg c, nI_toInt (by omega)]; omega
theorem good_mov {σ : SD} {f k t : Nat} (hg : Good σ) (h1 : f + k ≤ σ.1) (h2 : t + k ≤ σ.1) : Good (movD f k t σ) := by
  have hn := hg.1
  refine good_step hg hn (fun p hp => hg.2.2.1 _ (pas_lt h2 h1 hp)) (fun p hp => ?_)
  show -1 ≤ (nI (pasF f k t p)).toInt ∧ (nI (pasF f k t p)).toInt < σ.1
  have := pas_lt h1 h2 hp
  rw [nI_toInt (by omega)]; omega
theorem at_rng {n : Nat} {W : Nat → Int32} (h : ∀ p, p < n → 0 ≤ (W p).toInt ∧ (W p).toInt ≤ 99) (x : Int32) : -1 ≤ (atF n W x).toInt ∧ (atF n W x).toInt ≤ 99 := by
  unfold atF
  by_cases c : 0 ≤ x.toInt ∧ x.toInt < n
  · rw [if_pos c]; have := h x.toNatClampNeg (by have := cl_toInt (x := x) c.1; omega); omega
  · rw [if_neg c]; have : (-1 : Int32).toInt = -1 := rfl; omega
theorem good_anc {σ : SD} {m1 : Nat} {P1 V1 : Nat → Int32} {F1 : Nat → Nat → Int32} (hg : Good σ) (hm : m1 ≤ 6) (h : ∀ k, k < m1 → (0 ≤ (P1 k).toInt ∧ (P1 k).toInt ≤ 39) ∧ (-1 ≤ (V1 k).toInt ∧ (V1 k).toInt < σ.1) ∧ ∀ j, j < 5 → -1 ≤ (F1 k j).toInt ∧ (F1 k j).toInt ≤ 99) : Good (σ.1, m1, σ.2.2.1, σ.2.2.2.1, σ.2.2.2.2.1, σ.2.2.2.2.2.1, σ.2.2.2.2.2.2.1, P1, V1, F1) := ⟨hg.1, hm, hg.2.2.1, hg.2.2.2.1, h⟩
theorem good_add {σ : SD} {x : Int32} (hg : Good σ) (hx : 0 ≤ x.toInt ∧ x.toInt < σ.1) (hm : σ.2.1 < 6) : Good (addD x σ) := by
  have hn := hg.1
  refine good_anc hg (by omega) (fun k hk => ?_)
  by_cases c : k = σ.2.1
  · subst c; rw [upd_s, upd_s]
    exact ⟨by omega, by omega, fun j hj => by rw [show updF σ.2.2.2.2.2.2.2.2.2 σ.2.1 (lookF σ.1 σ.2.2.2.1 x) σ.2.1 = lookF σ.1 σ.2.2.2.1 x from if_pos rfl]; exact at_rng hg.2.2.1 _⟩
  · rw [upd_n c, upd_n c]
    obtain ⟨a1, a2, a3⟩ := hg.2.2.2.2 k (by omega)
    exact ⟨a1, a2, fun j hj => by rw [show updF σ.2.2.2.2.2.2.2.2.2 σ.2.1 (lookF σ.1 σ.2.2.2.1 x) k = σ.2.2.2.2.2.2.2.2.2 k from if_neg c]; exact a3 j hj⟩
theorem good_drop {σ : SD} {q : Nat} (hg : Good σ) : Good (dropD q σ) := by
  have hm := hg.2.1
  refine good_anc hg (by omega) (fun k hk => ?_)
  unfold drpP
  by_cases c : q ≤ k
  · simp only [if_pos c]; exact hg.2.2.2.2 (k + 1) (by omega)
  · simp only [if_neg c]; exact hg.2.2.2.2 k (by omega)
theorem good_go {σ : SD} {a : Nat} {x : Int32} (hg : Good σ) (hx : 0 ≤ x.toInt ∧ x.toInt ≤ 39) : Good (goD a x σ) := by
  refine good_anc hg hg.2.1 (fun k hk => ?_)
  obtain ⟨a1, a2, a3⟩ := hg.2.2.2.2 k hk
  by_cases c : k = a
  · rw [c, upd_s]; exact ⟨hx, by rw [← c]; exact a2, fun j hj => by rw [← c]; exact a3 j hj⟩
  · rw [upd_n c]; exact ⟨a1, a2, a3⟩
theorem good_rememb {σ : SD} {a : Nat} (hg : Good σ) (ha : a < σ.2.1) (hp : (σ.2.2.2.2.2.2.2.1 a).toInt < σ.1) : Good (remembD a σ) := by
  refine good_anc hg hg.2.1 (fun k hk => ?_)
  obtain ⟨a1, a2, a3⟩ := hg.2.2.2.2 k hk
  by_cases c : k = a
  · subst c; rw [upd_s]
    exact ⟨a1, by omega, fun j hj => by rw [show updF σ.2.2.2.2.2.2.2.2.2 k (lookF σ.1 σ.2.2.2.1 (σ.2.2.2.2.2.2.2.1 k)) k = lookF σ.1 σ.2.2.2.1 (σ.2.2.2.2.2.2.2.1 k) from if_pos rfl]; exact at_rng hg.2.2.1 _⟩
  · rw [upd_n c]
    exact ⟨a1, a2, fun j hj => by rw [show updF σ.2.2.2.2.2.2.2.2.2 a (lookF σ.1 σ.2.2.2.1 (σ.2.2.2.2.2.2.2.1 a)) k = σ.2.2.2.2.2.2.2.2.2 k from if_neg c]; exact a3 j hj⟩
theorem good_set {σ : SD} {q : Nat} {x : Int32} (hg : Good σ) (hx : q < 3 → 0 ≤ x.toInt ∧ x.toInt ≤ 20) : Good (setD q x σ) := by
  refine ⟨hg.1, hg.2.1, hg.2.2.1, fun k hk => ?_, hg.2.2.2.2⟩
  show 0 ≤ (upd _ q x k).toInt ∧ (upd _ q x k).toInt ≤ 20
  by_cases c : k = q
  · rw [c, upd_s]; exact hx (by omega)
  · rw [upd_n c]; exact hg.2.2.2.1 k hk
/-- the best place is a place, or none -/
theorem bst_rng {n : Nat} {W E f : Nat → Int32} {p x : Int32} : ∀ i, i < 2 ^ 31 → (bstF n W E f p x i).1 = -1 ∨ ∃ q, q < i ∧ (bstF n W E f p x i).1 = nI q
  | 0, _ => Or.inl rfl
  | i + 1, h => by
    rcases bst_rng (n := n) (W := W) (E := E) (f := f) (p := p) (x := x) i (by omega) with h1 | ⟨q, h1, h2⟩
    · show (if _ then (nI i, _, _) else bstF n W E f p x i).1 = -1 ∨ _
      split
      · exact Or.inr ⟨i, by omega, by simp only [bstF]; rw [if_pos (by assumption)]⟩
      · exact Or.inl h1
    · simp only [bstF]
      split
      · exact Or.inr ⟨i, by omega, rfl⟩
      · exact Or.inr ⟨q, by omega, h2⟩
theorem aB_rng (σ : SD) (hn : σ.1 ≤ 40) (a : Nat) (x : Int32) : aB σ a x = -1 ∨ ∃ q, q < σ.1 ∧ aB σ a x = nI q := bst_rng σ.1 (by omega)
theorem aL_none {σ : SD} {a : Nat} {x : Int32} (h : ¬ aL σ a x = true) : ¬ x = -1 := fun e => h (lost_t (Or.inl e))
theorem aH_go {σ : SD} {a : Nat} (h : ¬ aL σ a (aB σ a (-1)) = true) : aH σ a = aB σ a (-1) - σ.2.2.2.2.2.2.2.1 a := if_neg h
theorem aH_no {σ : SD} {a : Nat} (h : aL σ a (aB σ a (-1)) = true) : aH σ a = 0 := if_pos h
theorem addsub2 (a b : Int32) : a + (b - a) = b := by rw [addsub, Int32.add_comm, Int32.add_sub_cancel]
theorem fa_place (σ : SD) (k : Nat) : σ.2.2.2.2.2.2.2.1 k + aH σ k = if aL σ k (aB σ k (-1)) = true then σ.2.2.2.2.2.2.2.1 k else aB σ k (-1) := by
  by_cases c : aL σ k (aB σ k (-1)) = true
  · rw [if_pos c, aH_no c, Int32.add_zero]
  · rw [if_neg c, aH_go c, addsub2]
theorem good_fa {σ : SD} {i : Nat} (hg : Good σ) : Good (faD σ i) := by
  refine good_anc hg hg.2.1 (fun k hk => ?_)
  obtain ⟨a1, a2, a3⟩ := hg.2.2.2.2 k hk
  refine ⟨?_, a2, a3⟩
  show 0 ≤ (if k < i then σ.2.2.2.2.2.2.2.1 k + aH σ k else σ.2.2.2.2.2.2.2.1 k).toInt ∧ (if k < i then σ.2.2.2.2.2.2.2.1 k + aH σ k else σ.2.2.2.2.2.2.2.1 k).toInt ≤ 39
  by_cases l : k < i
  · rw [if_pos l, fa_place]
    by_cases c : aL σ k (aB σ k (-1)) = true
    · rw [if_pos c]; exact a1
    · rw [if_neg c]
      have hn := hg.1
      rcases aB_rng σ hn k (-1) with h | ⟨q, h1, h2⟩
      · exact absurd h (aL_none c)
      · rw [h2, nI_toInt (by omega)]; omega
  · rw [if_neg l]; exact a1
