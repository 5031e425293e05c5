/-! THE PROPERTY, SAID OF STATES -/
def Inv (σ : SD) : Prop := Good σ ∧ ∀ k, k < σ.2.1 → 0 ≤ (σ.2.2.2.2.2.2.2.2.2 k 2).toInt ∧ (0 ≤ (σ.2.2.2.2.2.2.2.2.1 k).toInt → σ.2.2.2.1 (σ.2.2.2.2.2.2.2.2.1 k).toNatClampNeg = σ.2.2.2.2.2.2.2.2.2 k 2)
theorem neg1 : ¬ 0 ≤ ((-1 : Int32)).toInt := by decide
theorem inv_step {n1 : Nat} {W1 tp : Nat → Int32} {σ : SD} (hI : Inv σ) (hg : Good (stepD n1 W1 tp σ)) (h : ∀ p, p < σ.1 → 0 ≤ (tp p).toInt → W1 (tp p).toNatClampNeg = σ.2.2.2.1 p) : Inv (stepD n1 W1 tp σ) := by
  refine ⟨hg, fun k hk => ?_⟩
  have hk' : k < σ.2.1 := hk
  obtain ⟨a, b⟩ := hI.2 k hk'
  refine ⟨a, ?_⟩
  show 0 ≤ (folV tp (σ.2.2.2.2.2.2.2.2.1 k)).toInt → W1 (folV tp (σ.2.2.2.2.2.2.2.2.1 k)).toNatClampNeg = σ.2.2.2.2.2.2.2.2.2 k 2
  have hv := (hI.1.2.2.2.2 k hk').2.1
  generalize σ.2.2.2.2.2.2.2.2.1 k = v at b hv ⊢
  unfold folV
  by_cases c : v.toInt < 0
  · rw [if_pos c]; intro h1; exact absurd h1 neg1
  · rw [if_neg c]; intro h1
    have hc := cl_toInt (x := v) (by omega)
    rw [h _ (by omega) h1]; exact b (by omega)
theorem inv_ins {σ : SD} {q : Nat} {w : Int32} (hI : Inv σ) (hq : q ≤ σ.1) (hn : σ.1 < 40) (hw : 0 ≤ w.toInt ∧ w.toInt ≤ 99) : Inv (insD q w σ) := by
  refine inv_step hI (good_ins hI.1 hq hn hw) (fun p hp _ => ?_)
  show insW q w σ.2.2.2.1 (nI (insP q p)).toNatClampNeg = _
  have hle : insP q p ≤ p + 1 := by unfold insP; split <;> omega
  rw [nI_clamp (by omega)]
  by_cases c : p < q
  · rw [show insP q p = p from if_pos c]; exact if_pos c
  · rw [show insP q p = p + 1 from if_neg c]
    unfold insW
    rw [if_neg (by omega), if_neg (by omega)]; rfl
theorem inv_rem {σ : SD} {q : Nat} (hI : Inv σ) (hq : q < σ.1) : Inv (remD q σ) := by
  have hn := hI.1.1
  refine inv_step hI (good_rem hI.1 hq) (fun p hp h0 => ?_)
  have h1 : 0 ≤ (remP q p).toInt := h0
  show remW q σ.2.2.2.1 (remP q p).toNatClampNeg = _
  by_cases c : p < q
  · rw [← remP_lo c, nI_clamp (by omega)]; exact if_pos c
  · by_cases d : p = q
    · rw [← remP_eq d] at h1; exact absurd h1 neg1
    · rw [show remP q p = nI (p - 1) by unfold remP; rw [if_neg c, if_neg d], nI_clamp (by omega)]
      unfold remW
      rw [if_neg (by omega), show p - 1 + 1 = p by omega]
theorem inv_chg {σ : SD} {q : Nat} {w : Int32} (hI : Inv σ) (hw : 0 ≤ w.toInt ∧ w.toInt ≤ 99) : Inv (chgD q w σ) := by
  have hn := hI.1.1
  refine inv_step hI (good_chg hI.1 hw) (fun p hp h0 => ?_)
  have h1 : 0 ≤ (if p = q then (-1 : Int32) else nI p).toInt := h0
  show upd σ.2.2.2.1 q w (if p = q then (-1 : Int32) else nI p).toNatClampNeg = _
  by_cases c : p = q
  · rw [if_pos c] at h1; exact absurd h1 neg1
  · rw [if_neg c, nI_clamp (by omega), upd_n c]
theorem inv_mov {σ : SD} {f k t : Nat} (hI : Inv σ) (h1 : f + k ≤ σ.1) (h2 : t + k ≤ σ.1) : Inv (movD f k t σ) := by
  have hn := hI.1.1
  refine inv_step hI (good_mov hI.1 h1 h2) (fun p hp _ => ?_)
  show σ.2.2.2.1 (pasF t k f (nI (pasF f k t p)).toNatClampNeg) = _
  have hl := pas_lt h1 h2 hp
  rw [nI_clamp (by omega), pas_inv h2 h1 hp]
theorem mid2 (x : Int32) : x + nI 2 - 2 = x := by
  rw [show nI 2 = 2 by decide, Int32.add_sub_cancel]
theorem look2 {n : Nat} {W : Nat → Int32} {x : Int32} (h : 0 ≤ x.toInt ∧ x.toInt < n) : lookF n W x 2 = W x.toNatClampNeg := by
  unfold lookF; rw [mid2]; exact if_pos h
theorem inv_add {σ : SD} {x : Int32} (hI : Inv σ) (hx : 0 ≤ x.toInt ∧ x.toInt < σ.1) (hm : σ.2.1 < 6) : Inv (addD x σ) := by
  refine ⟨good_add hI.1 hx hm, fun k hk => ?_⟩
  have hk' : k < σ.2.1 + 1 := hk
  have hc := cl_toInt (x := x) hx.1
  show 0 ≤ (updF σ.2.2.2.2.2.2.2.2.2 σ.2.1 (lookF σ.1 σ.2.2.2.1 x) k 2).toInt ∧ (0 ≤ (upd σ.2.2.2.2.2.2.2.2.1 σ.2.1 x k).toInt → σ.2.2.2.1 (upd σ.2.2.2.2.2.2.2.2.1 σ.2.1 x k).toNatClampNeg = updF σ.2.2.2.2.2.2.2.2.2 σ.2.1 (lookF σ.1 σ.2.2.2.1 x) k 2)
  by_cases c : k = σ.2.1
  · rw [show updF σ.2.2.2.2.2.2.2.2.2 σ.2.1 (lookF σ.1 σ.2.2.2.1 x) k = lookF σ.1 σ.2.2.2.1 x from if_pos c, look2 hx, c, upd_s]
    exact ⟨(hI.1.2.2.1 _ (by omega)).1, fun _ => rfl⟩
  · rw [upd_n c, show updF σ.2.2.2.2.2.2.2.2.2 σ.2.1 (lookF σ.1 σ.2.2.2.1 x) k = σ.2.2.2.2.2.2.2.2.2 k from if_neg c]
    exact hI.2 k (by omega)
theorem inv_rememb {σ : SD} {a : Nat} (hI : Inv σ) (ha : a < σ.2.1) (hp : (σ.2.2.2.2.2.2.2.1 a).toInt < σ.1) : Inv (remembD a σ) := by
  have h0 := (hI.1.2.2.2.2 a ha).1.1
  have hc := cl_toInt (x := σ.2.2.2.2.2.2.2.1 a) h0
  refine ⟨good_rememb hI.1 ha hp, fun k hk => ?_⟩
  have hk' : k < σ.2.1 := hk
  show 0 ≤ (updF σ.2.2.2.2.2.2.2.2.2 a (lookF σ.1 σ.2.2.2.1 (σ.2.2.2.2.2.2.2.1 a)) k 2).toInt ∧ (0 ≤ (upd σ.2.2.2.2.2.2.2.2.1 a (σ.2.2.2.2.2.2.2.1 a) k).toInt → σ.2.2.2.1 (upd σ.2.2.2.2.2.2.2.2.1 a (σ.2.2.2.2.2.2.2.1 a) k).toNatClampNeg = updF σ.2.2.2.2.2.2.2.2.2 a (lookF σ.1 σ.2.2.2.1 (σ.2.2.2.2.2.2.2.1 a)) k 2)
  by_cases c : k = a
  · rw [show updF σ.2.2.2.2.2.2.2.2.2 a (lookF σ.1 σ.2.2.2.1 (σ.2.2.2.2.2.2.2.1 a)) k = lookF σ.1 σ.2.2.2.1 (σ.2.2.2.2.2.2.2.1 a) from if_pos c, look2 ⟨h0, hp⟩, c, upd_s]
    exact ⟨(hI.1.2.2.1 _ (by omega)).1, fun _ => rfl⟩
  · rw [upd_n c, show updF σ.2.2.2.2.2.2.2.2.2 a (lookF σ.1 σ.2.2.2.1 (σ.2.2.2.2.2.2.2.1 a)) k = σ.2.2.2.2.2.2.2.2.2 k from if_neg c]
    exact hI.2 k hk'
theorem inv_fa {σ : SD} {i : Nat} (hI : Inv σ) : Inv (faD σ i) := ⟨good_fa hI.1, hI.2⟩
/-! bits -/
theorem bit_1 : ∀ i : Fin 6, ∀ j : Fin 32, ((1 : Int32) <<< (nI i.val &&& 31)).toBitVec.getLsbD j.val = decide (j.val = i.val) := by decide +kernel
theorem bit_m : ∀ i : Fin 7, ∀ j : Fin 32, (((1 : Int32) <<< (nI i.val &&& 31)) - 1).toBitVec.getLsbD j.val = decide (j.val < i.val) := by decide +kernel
theorem bit_0 : ∀ j : Fin 32, (0 : Int32).toBitVec.getLsbD j.val = false := by decide +kernel
theorem bit_n : ∀ j : Fin 32, (-1 : Int32).toBitVec.getLsbD j.val = true := by decide +kernel
theorem aKs_bit (σ : SD) (x : Int32) {j : Nat} (hj : j < 32) : ∀ i, i ≤ 6 → (aKs σ x i).toBitVec.getLsbD j = (decide (j < i) && aK σ j x)
  | 0, _ => (bit_0 ⟨j, hj⟩).trans (by simp)
  | i + 1, h => by
    have ih := aKs_bit σ x hj i (by omega)
    have hb : ((1 : Int32) <<< (nI i &&& 31)).toBitVec.getLsbD j = decide (j = i) := bit_1 ⟨i, by omega⟩ ⟨j, hj⟩
    show (if aK σ i x = true then aKs σ x i ||| ((1 : Int32) <<< (nI i &&& 31)) else aKs σ x i).toBitVec.getLsbD j = _
    by_cases e : j = i
    · subst e
      by_cases c : aK σ j x = true
      · rw [if_pos c, Int32.toBitVec_or, BitVec.getLsbD_or, ih, hb, c]; simp
      · rw [if_neg c, ih]; simp [c]
    · have e2 : decide (j < i + 1) = decide (j < i) := decide_eq_decide.mpr (by omega)
      by_cases c : aK σ i x = true
      · rw [if_pos c, Int32.toBitVec_or, BitVec.getLsbD_or, ih, hb, e2]; simp [e]
      · rw [if_neg c, ih, e2]
theorem i32_ext {a b : Int32} (h : ∀ j, j < 32 → a.toBitVec.getLsbD j = b.toBitVec.getLsbD j) : a = b := Int32.toBitVec_inj.mp (BitVec.eq_of_getLsbD_eq (fun j hj => h j hj))
theorem aK_0 (σ : SD) (k : Nat) : aK σ k 0 = decide (aT σ k = 0) := by
  unfold aK kindF; rw [if_neg (by decide), if_neg (by decide), if_neg (by decide), if_neg (by decide)]; rfl
theorem aK_1 (σ : SD) (k : Nat) : aK σ k 1 = decide (aT σ k = 1) := by
  unfold aK kindF; rw [if_neg (by decide), if_neg (by decide), if_neg (by decide), if_neg (by decide)]; rfl
theorem aK_2 (σ : SD) (k : Nat) : aK σ k 2 = aL σ k (aB σ k (-1)) := by
  unfold aK kindF; rw [if_pos rfl]; rfl
theorem aK_3 (σ : SD) (k : Nat) : aK σ k 3 = decide (¬ σ.2.2.2.2.2.2.2.2.1 k = -1 ∧ σ.2.2.2.2.2.2.2.2.1 k = aB σ k (-1)) := by
  unfold aK kindF; rw [if_neg (by decide), if_pos rfl]; rfl
theorem aK_4 (σ : SD) (k : Nat) : aK σ k 4 = decide (σ.2.2.2.2.2.2.2.2.1 k = -1) := by
  unfold aK kindF; rw [if_neg (by decide), if_neg (by decide), if_pos rfl]
theorem aK_5 (σ : SD) (k : Nat) : aK σ k 5 = decide (¬ σ.2.2.2.2.2.2.2.2.1 k = -1 ∧ aL σ k (aB σ k (-1)) = true) := by
  unfold aK kindF; rw [if_neg (by decide), if_neg (by decide), if_neg (by decide), if_pos rfl]; rfl
theorem aT_is (σ : SD) (k : Nat) : aT σ k = if aL σ k (aB σ k (-1)) = true then 2 else if ¬ aB σ k (aB σ k (-1)) = -1 ∧ ¬ aS σ k (aB σ k (aB σ k (-1))) < aS σ k (aB σ k (-1)) - σ.2.2.2.2.2.2.1 4 then 1 else 0 := rfl
theorem kinds (σ : SD) (k : Nat) : ∃ l c t g : Bool, aK σ k 2 = l ∧ aK σ k 0 = (!l && !c) ∧ aK σ k 1 = (!l && c) ∧ aK σ k 3 = (!t && g) ∧ aK σ k 4 = t ∧ aK σ k 5 = (!t && l) := by
  refine ⟨aL σ k (aB σ k (-1)), decide (¬ aB σ k (aB σ k (-1)) = -1 ∧ ¬ aS σ k (aB σ k (aB σ k (-1))) < aS σ k (aB σ k (-1)) - σ.2.2.2.2.2.2.1 4), decide (σ.2.2.2.2.2.2.2.2.1 k = -1), decide (σ.2.2.2.2.2.2.2.2.1 k = aB σ k (-1)), aK_2 σ k, ?_, ?_, ?_, aK_4 σ k, ?_⟩
  · rw [aK_0, aT_is]
    cases aL σ k (aB σ k (-1)) with
    | true => rw [if_pos rfl]; rfl
    | false =>
      rw [if_neg (by decide)]
      by_cases c : ¬ aB σ k (aB σ k (-1)) = -1 ∧ ¬ aS σ k (aB σ k (aB σ k (-1))) < aS σ k (aB σ k (-1)) - σ.2.2.2.2.2.2.1 4
      · rw [if_pos c, decide_eq_true c]; rfl
      · rw [if_neg c, decide_eq_false c]; rfl
  · rw [aK_1, aT_is]
    cases aL σ k (aB σ k (-1)) with
    | true => rw [if_pos rfl]; rfl
    | false =>
      rw [if_neg (by decide)]
      by_cases c : ¬ aB σ k (aB σ k (-1)) = -1 ∧ ¬ aS σ k (aB σ k (aB σ k (-1))) < aS σ k (aB σ k (-1)) - σ.2.2.2.2.2.2.1 4
      · rw [if_pos c, decide_eq_true c]; rfl
      · rw [if_neg c, decide_eq_false c]; rfl
  · rw [aK_3]
    by_cases a : σ.2.2.2.2.2.2.2.2.1 k = -1
    · rw [decide_eq_false (fun h => h.1 a), decide_eq_true a]; rfl
    · rw [decide_eq_false a]
      by_cases b : σ.2.2.2.2.2.2.2.2.1 k = aB σ k (-1)
      · rw [decide_eq_true (p := _ ∧ _) ⟨a, b⟩, decide_eq_true b]; rfl
      · rw [decide_eq_false (fun h => b h.2), decide_eq_false b]; rfl
  · rw [aK_5]
    by_cases a : σ.2.2.2.2.2.2.2.2.1 k = -1
    · rw [decide_eq_false (fun h => h.1 a), decide_eq_true a]; rfl
    · rw [decide_eq_false a]
      by_cases b : aL σ k (aB σ k (-1)) = true
      · rw [decide_eq_true (p := _ ∧ _) ⟨a, b⟩, b]; rfl
      · rw [decide_eq_false (fun h => b h.2), Bool.eq_false_iff.mpr b]; rfl
theorem bits_all {σ : SD} (hm : σ.2.1 ≤ 6) : aKs σ 0 σ.2.1 ||| aKs σ 1 σ.2.1 ||| aKs σ 2 σ.2.1 = ((1 : Int32) <<< (nI σ.2.1 &&& 31)) - 1 := i32_ext (fun j hj => by
  have hb : (((1 : Int32) <<< (nI σ.2.1 &&& 31)) - 1).toBitVec.getLsbD j = decide (j < σ.2.1) := bit_m ⟨σ.2.1, by omega⟩ ⟨j, hj⟩
  obtain ⟨l, c, t, g, e2, e0, e1, e3, e4, e5⟩ := kinds σ j
  rw [hb, Int32.toBitVec_or, Int32.toBitVec_or, BitVec.getLsbD_or, BitVec.getLsbD_or, aKs_bit σ 0 hj _ hm, aKs_bit σ 1 hj _ hm, aKs_bit σ 2 hj _ hm, e0, e1, e2]
  cases decide (j < σ.2.1) <;> cases l <;> cases c <;> rfl)
theorem bits_01 {σ : SD} (hm : σ.2.1 ≤ 6) : aKs σ 0 σ.2.1 &&& aKs σ 1 σ.2.1 = 0 := i32_ext (fun j hj => by
  obtain ⟨l, c, t, g, e2, e0, e1, e3, e4, e5⟩ := kinds σ j
  rw [show (0 : Int32).toBitVec.getLsbD j = false from bit_0 ⟨j, hj⟩, Int32.toBitVec_and, BitVec.getLsbD_and, aKs_bit σ 0 hj _ hm, aKs_bit σ 1 hj _ hm, e0, e1]
  cases decide (j < σ.2.1) <;> cases l <;> cases c <;> rfl)
theorem bits_2 {σ : SD} (hm : σ.2.1 ≤ 6) : aKs σ 2 σ.2.1 &&& (aKs σ 0 σ.2.1 ||| aKs σ 1 σ.2.1) = 0 := i32_ext (fun j hj => by
  obtain ⟨l, c, t, g, e2, e0, e1, e3, e4, e5⟩ := kinds σ j
  rw [show (0 : Int32).toBitVec.getLsbD j = false from bit_0 ⟨j, hj⟩, Int32.toBitVec_and, Int32.toBitVec_or, BitVec.getLsbD_and, BitVec.getLsbD_or, aKs_bit σ 0 hj _ hm, aKs_bit σ 1 hj _ hm, aKs_bit σ 2 hj _ hm, e0, e1, e2]
  cases decide (j < σ.2.1) <;> cases l <;> cases c <;> rfl)
theorem bits_34 {σ : SD} (hm : σ.2.1 ≤ 6) : aKs σ 3 σ.2.1 &&& aKs σ 4 σ.2.1 = 0 := i32_ext (fun j hj => by
  obtain ⟨l, c, t, g, e2, e0, e1, e3, e4, e5⟩ := kinds σ j
  rw [show (0 : Int32).toBitVec.getLsbD j = false from bit_0 ⟨j, hj⟩, Int32.toBitVec_and, BitVec.getLsbD_and, aKs_bit σ 3 hj _ hm, aKs_bit σ 4 hj _ hm, e3, e4]
  cases decide (j < σ.2.1) <;> cases t <;> cases g <;> rfl)
theorem bits_5 {σ : SD} (hm : σ.2.1 ≤ 6) : aKs σ 5 σ.2.1 &&& (aKs σ 2 σ.2.1 ^^^ (-1)) = 0 := i32_ext (fun j hj => by
  obtain ⟨l, c, t, g, e2, e0, e1, e3, e4, e5⟩ := kinds σ j
  rw [show (0 : Int32).toBitVec.getLsbD j = false from bit_0 ⟨j, hj⟩, Int32.toBitVec_and, Int32.toBitVec_xor, BitVec.getLsbD_and, BitVec.getLsbD_xor, aKs_bit σ 5 hj _ hm, aKs_bit σ 2 hj _ hm, show (-1 : Int32).toBitVec.getLsbD j = true from bit_n ⟨j, hj⟩, e5, e2]
  cases decide (j < σ.2.1) <;> cases t <;> cases l <;> rfl)
/-! scores -/
abbrev E3 (E : Nat → Int32) : Prop := ∀ k, k < 3 → 0 ≤ (E k).toInt ∧ (E k).toInt ≤ 20
def fullF (E : Nat → Int32) : Int32 := E 0 + 2 * E 1 + 2 * E 2
theorem t_mul2 {x : Int32} (h : 0 ≤ x.toInt ∧ x.toInt ≤ 20) : (2 * x).toInt = 2 * x.toInt := by
  rw [Int32.toInt_mul, show (2 : Int32).toInt = 2 from rfl]; exact t_bmod (by omega) (by omega)
theorem full_t {E : Nat → Int32} (h : E3 E) : (fullF E).toInt = (E 0).toInt + 2 * (E 1).toInt + 2 * (E 2).toInt := by
  have h0 := h 0 (by omega)
  have h1 := h 1 (by omega)
  have h2 := h 2 (by omega)
  have m1 := t_mul2 h1
  have m2 := t_mul2 h2
  unfold fullF
  have a1 : (E 0 + 2 * E 1).toInt = (E 0).toInt + (2 * E 1).toInt := t_add (by omega) (by omega)
  rw [t_add (by omega) (by omega), a1, m1, m2]
theorem sc_step {n : Nat} {W E f : Nat → Int32} {x : Int32} {k : Nat} {B : Int} (h : 0 ≤ (scF n W E f x k).toInt ∧ (scF n W E f x k).toInt ≤ B) (hB : B ≤ 1000) (hw : 0 ≤ (wgt E k).toInt ∧ (wgt E k).toInt ≤ 20) : 0 ≤ (scF n W E f x (k + 1)).toInt ∧ (scF n W E f x (k + 1)).toInt ≤ B + (wgt E k).toInt := by
  by_cases c : f k = atF n W (x + nI k - 2)
  · rw [← scF_yes c, t_add (by omega) (by omega)]; omega
  · rw [← scF_no c]; omega
theorem scr_le {n : Nat} {W E f : Nat → Int32} {x : Int32} (h : E3 E) : 0 ≤ (scr n W E f x).toInt ∧ (scr n W E f x).toInt ≤ (E 0).toInt + 2 * (E 1).toInt + 2 * (E 2).toInt := by
  have h0 := h 0 (by omega)
  have h1 := h 1 (by omega)
  have h2 := h 2 (by omega)
  have w0 : wgt E 0 = E 2 := rfl
  have w1 : wgt E 1 = E 1 := rfl
  have w2 : wgt E 2 = E 0 := rfl
  have w3 : wgt E 3 = E 1 := rfl
  have w4 : wgt E 4 = E 2 := rfl
  have s0 : 0 ≤ (scF n W E f x 0).toInt ∧ (scF n W E f x 0).toInt ≤ 0 := ⟨Int.le_refl _, Int.le_refl _⟩
  have s1 : 0 ≤ (scF n W E f x 1).toInt ∧ (scF n W E f x 1).toInt ≤ 0 + (wgt E 0).toInt := sc_step s0 (by omega) (by rw [w0]; exact h2)
  have s2 : 0 ≤ (scF n W E f x 2).toInt ∧ (scF n W E f x 2).toInt ≤ 0 + (wgt E 0).toInt + (wgt E 1).toInt := sc_step s1 (by rw [w0]; omega) (by rw [w1]; exact h1)
  have s3 : 0 ≤ (scF n W E f x 3).toInt ∧ (scF n W E f x 3).toInt ≤ 0 + (wgt E 0).toInt + (wgt E 1).toInt + (wgt E 2).toInt := sc_step s2 (by rw [w0, w1]; omega) (by rw [w2]; exact h0)
  have s4 : 0 ≤ (scF n W E f x 4).toInt ∧ (scF n W E f x 4).toInt ≤ 0 + (wgt E 0).toInt + (wgt E 1).toInt + (wgt E 2).toInt + (wgt E 3).toInt := sc_step s3 (by rw [w0, w1, w2]; omega) (by rw [w3]; exact h1)
  have s5 : 0 ≤ (scF n W E f x 5).toInt ∧ (scF n W E f x 5).toInt ≤ 0 + (wgt E 0).toInt + (wgt E 1).toInt + (wgt E 2).toInt + (wgt E 3).toInt + (wgt E 4).toInt := sc_step s4 (by rw [w0, w1, w2, w3]; omega) (by rw [w4]; exact h2)
  rw [w0, w1, w2, w3, w4] at s5
  unfold scr
  omega
theorem scr_full {n : Nat} {W E : Nat → Int32} {x : Int32} (h : E3 E) : scr n W E (lookF n W x) x = fullF E := by
  have h0 := h 0 (by omega)
  have h1 := h 1 (by omega)
  have h2 := h 2 (by omega)
  have st : ∀ k, scF n W E (lookF n W x) x (k + 1) = scF n W E (lookF n W x) x k + wgt E k := fun k => (scF_yes rfl).symm
  have z0 : scF n W E (lookF n W x) x 0 = 0 := rfl
  have w0 : wgt E 0 = E 2 := rfl
  have w1 : wgt E 1 = E 1 := rfl
  have w2 : wgt E 2 = E 0 := rfl
  have w3 : wgt E 3 = E 1 := rfl
  have w4 : wgt E 4 = E 2 := rfl
  apply i_inj
  rw [full_t h]
  unfold scr
  rw [st 4, st 3, st 2, st 1, st 0, z0, w0, w1, w2, w3, w4, Int32.zero_add]
  have a1 : (E 2 + E 1).toInt = (E 2).toInt + (E 1).toInt := t_add (by omega) (by omega)
  have a2 : (E 2 + E 1 + E 0).toInt = (E 2).toInt + (E 1).toInt + (E 0).toInt := by rw [t_add (by omega) (by omega), a1]
  have a3 : (E 2 + E 1 + E 0 + E 1).toInt = (E 2).toInt + (E 1).toInt + (E 0).toInt + (E 1).toInt := by rw [t_add (by omega) (by omega), a2]
  rw [t_add (by omega) (by omega), a3]; omega
/-! the best place -/
def dI (p : Int32) (q : Nat) : Int := (absI (nI q - p)).toInt
def LexI (n : Nat) (W E f : Nat → Int32) (p : Int32) (q r : Nat) : Prop := (scr n W E f (nI r)).toInt < (scr n W E f (nI q)).toInt ∨ ((scr n W E f (nI r)).toInt = (scr n W E f (nI q)).toInt ∧ (dI p q < dI p r ∨ (dI p q = dI p r ∧ q ≤ r)))
theorem dI_is {p : Int32} {q : Nat} (hp : 0 ≤ p.toInt ∧ p.toInt ≤ 39) (hq : q < 40) : (p.toInt ≤ q ∧ dI p q = q - p.toInt) ∨ ((q : Int) < p.toInt ∧ dI p q = p.toInt - q) := by
  have tq : (nI q).toInt = (q : Int) := nI_toInt (by omega)
  have ts : (nI q - p).toInt = q - p.toInt := by rw [t_sub (by omega) (by omega), tq]
  have z : (0 : Int32).toInt = 0 := rfl
  unfold dI absI
  by_cases c : 0 ≤ nI q - p
  · rw [if_pos c, ts]
    have := i_le c
    left; omega
  · rw [if_neg c, t_sub (by omega) (by omega), ts, z]
    have := i_nle c
    right; omega
def BSp (n : Nat) (W E f : Nat → Int32) (p x : Int32) (i : Nat) : Prop := ((bstF n W E f p x i).1 = -1 ∧ ∀ r, r < i → nI r = x) ∨ ∃ q, q < i ∧ ¬ nI q = x ∧ bstF n W E f p x i = (nI q, scr n W E f (nI q), absI (nI q - p)) ∧ ∀ r, r < i → ¬ nI r = x → LexI n W E f p q r
theorem bst_spec {n : Nat} {W E f : Nat → Int32} {p x : Int32} : ∀ i, i ≤ 40 → BSp n W E f p x i
  | 0, _ => Or.inl ⟨rfl, fun r hr => absurd hr (Nat.not_lt_zero r)⟩
  | i + 1, h => by
    have hs : bstF n W E f p x (i + 1) = if ¬ nI i = x ∧ ((bstF n W E f p x i).1 = -1 ∨ (bstF n W E f p x i).2.1 < scr n W E f (nI i) ∨ (scr n W E f (nI i) = (bstF n W E f p x i).2.1 ∧ ¬ (bstF n W E f p x i).2.2 ≤ absI (nI i - p))) then (nI i, scr n W E f (nI i), absI (nI i - p)) else bstF n W E f p x i := rfl
    rcases bst_spec (n := n) (W := W) (E := E) (f := f) (p := p) (x := x) i (by omega) with ⟨h1, h2⟩ | ⟨q, hq, hx, hb, hr⟩
    · by_cases c : nI i = x
      · rw [if_neg (fun k => k.1 c)] at hs
        refine Or.inl ⟨by rw [hs]; exact h1, fun r hr => ?_⟩
        by_cases e : r = i
        · rw [e]; exact c
        · exact h2 r (by omega)
      · rw [if_pos ⟨c, Or.inl h1⟩] at hs
        refine Or.inr ⟨i, by omega, c, hs, fun r hr hx => ?_⟩
        by_cases e : r = i
        · rw [e]; exact Or.inr ⟨rfl, Or.inr ⟨rfl, Nat.le_refl _⟩⟩
        · exact absurd (h2 r (by omega)) hx
    · rw [hb] at hs
      have tq : (nI q).toInt = (q : Int) := nI_toInt (by omega)
      have hn1 : ¬ nI q = -1 := fun e => by
        have := i_eq e
        rw [tq, show (-1 : Int32).toInt = -1 from rfl] at this; omega
      have self : ∀ r, r = i → LexI n W E f p i r := fun r e => by rw [e]; exact Or.inr ⟨rfl, Or.inr ⟨rfl, Nat.le_refl _⟩⟩
      by_cases c : nI i = x
      · rw [if_neg (fun k => k.1 c)] at hs
        refine Or.inr ⟨q, by omega, hx, hs, fun r hr1 hx1 => ?_⟩
        by_cases e : r = i
        · rw [e] at hx1; exact absurd c hx1
        · exact hr r (by omega) hx1
      · by_cases c2 : scr n W E f (nI q) < scr n W E f (nI i)
        · rw [if_pos ⟨c, Or.inr (Or.inl c2)⟩] at hs
          refine Or.inr ⟨i, by omega, c, hs, fun r hr1 hx1 => ?_⟩
          by_cases e : r = i
          · exact self r e
          · have l1 := hr r (by omega) hx1
            have l2 := i_lt c2
            unfold LexI at l1 ⊢
            omega
        · by_cases c3 : scr n W E f (nI i) = scr n W E f (nI q) ∧ ¬ absI (nI q - p) ≤ absI (nI i - p)
          · rw [if_pos ⟨c, Or.inr (Or.inr c3)⟩] at hs
            refine Or.inr ⟨i, by omega, c, hs, fun r hr1 hx1 => ?_⟩
            by_cases e : r = i
            · exact self r e
            · have l1 := hr r (by omega) hx1
              have l2 := i_eq c3.1
              have l3 : dI p i < dI p q := i_nle c3.2
              unfold LexI at l1 ⊢
              omega
          · rw [if_neg (fun k => k.2.elim hn1 (fun k => k.elim c2 c3))] at hs
            refine Or.inr ⟨q, by omega, hx, hs, fun r hr1 hx1 => ?_⟩
            by_cases e : r = i
            · rw [e]
              have l1 := i_nlt c2
              unfold LexI
              by_cases c4 : scr n W E f (nI i) = scr n W E f (nI q)
              · have l2 := i_eq c4
                have l3 : dI p q ≤ dI p i := i_le (Decidable.byContradiction (fun k => c3 ⟨c4, k⟩))
                omega
              · have l2 := i_ne c4
                omega
            · exact hr r (by omega) hx1
theorem aB_spec {σ : SD} (hn : σ.1 ≤ 40) (k : Nat) (x : Int32) : (aB σ k x = -1 ∧ ∀ r, r < σ.1 → nI r = x) ∨ ∃ q, q < σ.1 ∧ ¬ nI q = x ∧ aB σ k x = nI q ∧ ∀ r, r < σ.1 → ¬ nI r = x → LexI σ.1 σ.2.2.2.1 σ.2.2.2.2.2.2.1 (σ.2.2.2.2.2.2.2.2.2 k) (σ.2.2.2.2.2.2.2.1 k) q r := by
  rcases bst_spec (n := σ.1) (W := σ.2.2.2.1) (E := σ.2.2.2.2.2.2.1) (f := σ.2.2.2.2.2.2.2.2.2 k) (p := σ.2.2.2.2.2.2.2.1 k) (x := x) σ.1 hn with ⟨h1, h2⟩ | ⟨q, h1, h2, h3, h4⟩
  · exact Or.inl ⟨h1, h2⟩
  · exact Or.inr ⟨q, h1, h2, by unfold aB bpF; rw [h3], h4⟩
theorem nI_n1 {r : Nat} (h : r < 40) : ¬ nI r = -1 := fun e => by
  have := i_eq e
  rw [nI_toInt (by omega), show (-1 : Int32).toInt = -1 from rfl] at this; omega
