/-! what the calls answer -/
section ANS
variable {σ : SD} {hn L k p : Nat}
theorem count_0 : countR σ hn L 0 = nI σ.1 := if_pos rfl
theorem count_1 : countR σ hn L 1 = nI σ.2.1 := (if_neg (by decide)).trans (if_pos rfl)
theorem count_2 : countR σ hn L 2 = nI (cnt (fun p => !seenF σ.2.2.2.1 (σ.2.2.2.1 p) p) σ.1) := (if_neg (by decide)).trans ((if_neg (by decide)).trans (if_pos rfl))
theorem count_3 : countR σ hn L 3 = σ.2.2.1 := (if_neg (by decide)).trans ((if_neg (by decide)).trans ((if_neg (by decide)).trans (if_pos rfl)))
theorem count_20 : countR σ hn L 20 = σ.2.2.2.2.2.2.1 0 := by
  unfold countR
  rw [if_neg (by decide), if_neg (by decide), if_neg (by decide), if_neg (by decide), if_neg (by decide), if_neg (by decide), if_pos (by decide)]
  exact congrArg _ (show ((20 : Int32) - 20).toNatClampNeg = 0 by decide)
theorem count_21 : countR σ hn L 21 = σ.2.2.2.2.2.2.1 1 := by
  unfold countR
  rw [if_neg (by decide), if_neg (by decide), if_neg (by decide), if_neg (by decide), if_neg (by decide), if_neg (by decide), if_pos (by decide)]
  exact congrArg _ (show ((21 : Int32) - 20).toNatClampNeg = 1 by decide)
theorem count_22 : countR σ hn L 22 = σ.2.2.2.2.2.2.1 2 := by
  unfold countR
  rw [if_neg (by decide), if_neg (by decide), if_neg (by decide), if_neg (by decide), if_neg (by decide), if_neg (by decide), if_pos (by decide)]
  exact congrArg _ (show ((22 : Int32) - 20).toNatClampNeg = 2 by decide)
theorem anchors_x {x : Int32} (h : InR x 0 5) : anchorsR σ x = aKs σ x σ.2.1 := if_neg (fun k => k h)
theorem inA_nI (hk : k < σ.2.1) (hm : σ.2.1 ≤ 6) : InA σ (nI k) := by
  have := nI_toInt (n := k) (by omega)
  exact ⟨by omega, by omega⟩
theorem anc_0 (hk : k < σ.2.1) (hm : σ.2.1 ≤ 6) : anchorOfR σ (nI k) 0 = σ.2.2.2.2.2.2.2.1 k := by
  unfold anchorOfR
  rw [if_neg (fun h => h ⟨inA_nI hk hm, by decide⟩), if_pos rfl, nI_clamp (by omega)]
theorem anc_1 (hk : k < σ.2.1) (hm : σ.2.1 ≤ 6) : anchorOfR σ (nI k) 1 = orN (σ.2.2.2.2.2.2.2.2.1 k) := by
  unfold anchorOfR
  rw [if_neg (fun h => h ⟨inA_nI hk hm, by decide⟩), if_neg (by decide), if_pos rfl, nI_clamp (by omega)]
theorem anc_8 (hk : k < σ.2.1) (hm : σ.2.1 ≤ 6) : anchorOfR σ (nI k) 8 = orN (aB σ k (-1)) := by
  unfold anchorOfR
  rw [if_neg (fun h => h ⟨inA_nI hk hm, by decide⟩), if_neg (by decide), if_neg (by decide), if_neg (by decide), if_pos rfl, nI_clamp (by omega)]
theorem anc_9 (hk : k < σ.2.1) (hm : σ.2.1 ≤ 6) : anchorOfR σ (nI k) 9 = scN σ k (aB σ k (-1)) := by
  unfold anchorOfR
  rw [if_neg (fun h => h ⟨inA_nI hk hm, by decide⟩), if_neg (by decide), if_neg (by decide), if_neg (by decide), if_neg (by decide), if_pos rfl, nI_clamp (by omega)]
theorem anc_11 (hk : k < σ.2.1) (hm : σ.2.1 ≤ 6) : anchorOfR σ (nI k) 11 = scN σ k (aB σ k (aB σ k (-1))) := by
  unfold anchorOfR
  rw [if_neg (fun h => h ⟨inA_nI hk hm, by decide⟩), if_neg (by decide), if_neg (by decide), if_neg (by decide), if_neg (by decide), if_neg (by decide), if_neg (by decide), if_pos rfl, nI_clamp (by omega)]
theorem orN_nn {x : Int32} (h : 0 ≤ x.toInt) : orN x = x := if_neg (fun e => by rw [e] at h; exact absurd h neg1)
theorem orN_n1 : orN (-1) = -1000004 := if_pos rfl
theorem scN_n1 : scN σ k (-1) = -1000004 := if_pos rfl
theorem scN_nI (h : p < 40) : scN σ k (nI p) = aS σ k (nI p) := if_neg (nI_n1 h)
theorem anc_4 (hI : Inv σ) (hk : k < σ.2.1) : anchorOfR σ (nI k) 4 = σ.2.2.2.2.2.2.2.2.2 k 2 := by
  have hm := hI.1.2.1
  unfold anchorOfR
  rw [if_neg (fun h => h ⟨inA_nI hk hm, by decide⟩), if_neg (by decide), if_neg (by decide), if_neg (by decide), if_neg (by decide), if_neg (by decide), if_neg (by decide), if_neg (by decide), if_neg (by decide), nI_clamp (by omega), show (4 : Int32) - 2 = nI 2 by decide, atF_nI (by omega) (by omega)]
  exact orN_nn (hI.2 k hk).1
theorem wordAt_in (hp : p < σ.1) (hn : σ.1 ≤ 40) : wordAtR σ (nI p) = σ.2.2.2.1 p := by
  have := nI_toInt (n := p) (by omega)
  unfold wordAtR
  rw [if_neg (by omega), if_pos (by omega), nI_clamp (by omega)]
theorem score_in (hk : k < σ.2.1) (hm : σ.2.1 ≤ 6) (hp : p < σ.1) (hn : σ.1 ≤ 40) : scoreR σ (nI k) (nI p) = aS σ k (nI p) := by
  have := nI_toInt (n := p) (by omega)
  unfold scoreR
  rw [if_neg (fun h => h ⟨inA_nI hk hm, by omega, by omega⟩), nI_clamp (by omega)]
theorem true_fact (hI : Inv σ) (hk : k < σ.2.1) : (orN (σ.2.2.2.2.2.2.2.2.1 k)).toInt < 0 ∨ ((orN (σ.2.2.2.2.2.2.2.2.1 k)).toInt < σ.1 ∧ wordAtR σ (orN (σ.2.2.2.2.2.2.2.2.1 k)) = σ.2.2.2.2.2.2.2.2.2 k 2) := by
  have hv := (hI.1.2.2.2.2 k hk).2.1
  have ht := (hI.2 k hk).2
  generalize σ.2.2.2.2.2.2.2.2.1 k = v at hv ht ⊢
  by_cases c : v.toInt < 0
  · left
    rw [show v = -1 from i_inj (by rw [show (-1 : Int32).toInt = -1 from rfl]; omega), orN_n1]; decide
  · right
    rw [orN_nn (by omega)]
    refine ⟨hv.2, ?_⟩
    unfold wordAtR
    rw [if_neg c, if_pos hv.2]
    exact ht (by omega)
theorem holds_facts (hI : Inv σ) (hk : k < σ.2.1) : ∃ x6 x7 x8 x9 : Int32, anchorOfR σ (nI k) 1 = x6 ∧ anchorOfR σ (nI k) 8 = x7 ∧ anchorOfR σ (nI k) 9 = x8 ∧ anchorOfR σ (nI k) 11 = x9 ∧ (x6.toInt < 0 ∨ (x6.toInt < σ.1 ∧ wordAtR σ x6 = σ.2.2.2.2.2.2.2.2.2 k 2)) ∧ x8.toInt ≤ (fullF σ.2.2.2.2.2.2.1).toInt ∧ x9.toInt ≤ x8.toInt ∧ ((σ.1 = 0 ∧ x7.toInt < 0 ∧ x9.toInt < 0) ∨ (0 < σ.1 ∧ 0 ≤ x7.toInt ∧ x7.toInt < σ.1 ∧ ((σ.1 < 2 ∧ x9.toInt < 0) ∨ (2 ≤ σ.1 ∧ 0 ≤ x9.toInt)))) ∧ (0 ≤ x7.toInt → scoreR σ (nI k) x7 = x8) ∧ (∀ p, p < σ.1 → ∃ db dp : Int, (((σ.2.2.2.2.2.2.2.1 k).toInt ≤ p ∧ dp = p - (σ.2.2.2.2.2.2.2.1 k).toInt) ∨ ((p : Int) < (σ.2.2.2.2.2.2.2.1 k).toInt ∧ dp = (σ.2.2.2.2.2.2.2.1 k).toInt - p)) ∧ (((σ.2.2.2.2.2.2.2.1 k).toInt ≤ x7.toInt ∧ db = x7.toInt - (σ.2.2.2.2.2.2.2.1 k).toInt) ∨ (x7.toInt < (σ.2.2.2.2.2.2.2.1 k).toInt ∧ db = (σ.2.2.2.2.2.2.2.1 k).toInt - x7.toInt)) ∧ ((aS σ k (nI p)).toInt < x8.toInt ∨ ((aS σ k (nI p)).toInt = x8.toInt ∧ (db < dp ∨ (db = dp ∧ x7.toInt ≤ p))))) ∧ 0 ≤ (σ.2.2.2.2.2.2.2.2.2 k 2).toInt ∧ 0 ≤ (σ.2.2.2.2.2.2.2.1 k).toInt ∧ (σ.2.2.2.2.2.2.2.1 k).toInt ≤ 39 := by
  have hm := hI.1.2.1
  have hn := hI.1.1
  have hP := (hI.1.2.2.2.2 k hk).1
  have hE : E3 σ.2.2.2.2.2.2.1 := hI.1.2.2.2.1
  have hft := full_t hE
  have h4 : (-1000004 : Int32).toInt = -1000004 := rfl
  have hE0 := hE 0 (by omega)
  have hE1 := hE 1 (by omega)
  have hE2 := hE 2 (by omega)
  rcases aB_spec hn k (-1) with ⟨b1, b2⟩ | ⟨q, hq, hx, hb, hr⟩
  · have hz : σ.1 = 0 := by
      rcases Nat.eq_zero_or_pos σ.1 with h | h
      · exact h
      · exact absurd (b2 0 h) (nI_n1 (by omega))
    refine ⟨_, -1000004, -1000004, -1000004, anc_1 hk hm, by rw [anc_8 hk hm, b1, orN_n1], by rw [anc_9 hk hm, b1, scN_n1], by rw [anc_11 hk hm, b1, b1, scN_n1], true_fact hI hk, by omega, Int.le_refl _, Or.inl ⟨hz, by omega, by omega⟩, fun h => absurd h (by omega), fun p hp => absurd hp (by omega), (hI.2 k hk).1, hP⟩
  · have tq : (nI q).toInt = (q : Int) := nI_toInt (by omega)
    have hs := scr_le (n := σ.1) (W := σ.2.2.2.1) (f := σ.2.2.2.2.2.2.2.2.2 k) (x := nI q) hE
    have hnx : ∃ x9 : Int32, scN σ k (aB σ k (nI q)) = x9 ∧ x9.toInt ≤ (aS σ k (nI q)).toInt ∧ ((σ.1 < 2 ∧ x9.toInt < 0) ∨ (2 ≤ σ.1 ∧ 0 ≤ x9.toInt)) := by
      rcases aB_spec hn k (nI q) with ⟨c1, c2⟩ | ⟨r, hr1, hrx, hrb, -⟩
      · refine ⟨-1000004, by rw [c1, scN_n1], ?_, Or.inl ⟨?_, by omega⟩⟩
        · have : 0 ≤ (aS σ k (nI q)).toInt := hs.1
          omega
        · rcases Nat.lt_or_ge σ.1 2 with h | h
          · exact h
          · have e0 := (nI_eq (a := 0) (b := q) (by omega) (by omega)).mp (c2 0 (by omega))
            have e1 := (nI_eq (a := 1) (b := q) (by omega) (by omega)).mp (c2 1 (by omega))
            omega
      · have hrq : r ≠ q := fun e => hrx (by rw [e])
        refine ⟨aS σ k (nI r), by rw [hrb, scN_nI (by omega)], ?_, Or.inr ⟨by omega, (scr_le hE).1⟩⟩
        have l := hr r hr1 (nI_n1 (by omega))
        unfold LexI at l
        show (scr _ _ _ _ _).toInt ≤ (scr _ _ _ _ _).toInt
        omega
    obtain ⟨x9, e9, l9, c9⟩ := hnx
    refine ⟨_, nI q, aS σ k (nI q), x9, anc_1 hk hm, by rw [anc_8 hk hm, hb, orN_nn (by omega)], by rw [anc_9 hk hm, hb, scN_nI (by omega)], by rw [anc_11 hk hm, hb, e9], true_fact hI hk, ?_, l9, Or.inr ⟨by omega, by omega, by omega, c9⟩, fun _ => score_in hk hm hq hn, fun p hp => ?_, (hI.2 k hk).1, hP⟩
    · rw [hft]; exact hs.2
    · have d1 := dI_is hP (show q < 40 by omega)
      have d2 := dI_is hP (show p < 40 by omega)
      have l := hr p hp (nI_n1 (by omega))
      unfold LexI at l
      refine ⟨dI (σ.2.2.2.2.2.2.2.1 k) q, dI (σ.2.2.2.2.2.2.2.1 k) p, d2, by rw [tq]; exact d1, ?_⟩
      rw [tq]
      show (scr σ.1 σ.2.2.2.1 σ.2.2.2.2.2.2.1 (σ.2.2.2.2.2.2.2.2.2 k) (nI p)).toInt < (scr σ.1 σ.2.2.2.1 σ.2.2.2.2.2.2.1 (σ.2.2.2.2.2.2.2.2.2 k) (nI q)).toInt ∨ _
      rcases l with l | ⟨l1, l2⟩
      · exact Or.inl l
      · exact Or.inr ⟨l1, by omega⟩
end ANS
/-! found anew -/
theorem cnt_zero {P : Nat → Bool} : ∀ {n : Nat}, (∀ i, i < n → P i = false) → cnt P n = 0
  | 0, _ => rfl
  | n + 1, h => by show cnt P n + (if P n then 1 else 0) = 0; rw [cnt_zero (fun i hi => h i (by omega)), h n (by omega)]; rfl
theorem cnt_pos {P : Nat → Bool} {i : Nat} (hP : P i = true) : ∀ {n : Nat}, i < n → 0 < cnt P n
  | 0, h => absurd h (Nat.not_lt_zero i)
  | n + 1, h => by
    show 0 < cnt P n + (if P n then 1 else 0)
    by_cases e : i = n
    · rw [← e, if_pos hP]; omega
    · have := cnt_pos hP (n := n) (by omega)
      omega
theorem fa_P {σ : SD} {k : Nat} (hk : k < σ.2.1) : (faD σ σ.2.1).2.2.2.2.2.2.2.1 k = if aL σ k (aB σ k (-1)) = true then σ.2.2.2.2.2.2.2.1 k else aB σ k (-1) := (show (faD σ σ.2.1).2.2.2.2.2.2.2.1 k = σ.2.2.2.2.2.2.2.1 k + aH σ k from if_pos hk).trans (fa_place σ k)
theorem fa_again {σ : SD} {k : Nat} (hn : σ.1 ≤ 40) (hk : k < σ.2.1) : aB (faD σ σ.2.1) k (-1) = aB σ k (-1) ∧ aH (faD σ σ.2.1) k = 0 := by
  have hP := fa_P hk
  have hB : aB (faD σ σ.2.1) k (-1) = bpF σ.1 σ.2.2.2.1 σ.2.2.2.2.2.2.1 (σ.2.2.2.2.2.2.2.2.2 k) ((faD σ σ.2.1).2.2.2.2.2.2.2.1 k) (-1) := rfl
  have hH : aH (faD σ σ.2.1) k = if aL σ k (aB (faD σ σ.2.1) k (-1)) = true then 0 else aB (faD σ σ.2.1) k (-1) - (faD σ σ.2.1).2.2.2.2.2.2.2.1 k := rfl
  by_cases c : aL σ k (aB σ k (-1)) = true
  · rw [if_pos c] at hP
    have h1 : aB (faD σ σ.2.1) k (-1) = aB σ k (-1) := by rw [hB, hP]; rfl
    exact ⟨h1, by rw [hH, h1, if_pos c]⟩
  · rw [if_neg c] at hP
    rcases aB_spec hn k (-1) with ⟨b1, -⟩ | ⟨q, hq, hx, hb, hr⟩
    · exact absurd b1 (aL_none c)
    · have hn' : (faD σ σ.2.1).1 ≤ 40 := hn
      rcases aB_spec hn' k (-1) with ⟨b1, b2⟩ | ⟨q', hq', hx', hb', hr'⟩
      · exact absurd (b2 q hq) hx
      · have hq2 : q' < σ.1 := hq'
        have l1 := hr q' hq2 hx'
        have l2 : LexI σ.1 σ.2.2.2.1 σ.2.2.2.2.2.2.1 (σ.2.2.2.2.2.2.2.2.2 k) ((faD σ σ.2.1).2.2.2.2.2.2.2.1 k) q' q := hr' q hq hx
        rw [hP, hb] at l2
        have tq : (nI q).toInt = (q : Int) := nI_toInt (by omega)
        have d1 := dI_is (p := nI q) (q := q) ⟨by omega, by omega⟩ (by omega)
        have d2 := dI_is (p := nI q) (q := q') ⟨by omega, by omega⟩ (by omega)
        unfold LexI at l1 l2
        have e : q' = q := by omega
        have h1 : aB (faD σ σ.2.1) k (-1) = aB σ k (-1) := by rw [hb', hb, e]
        exact ⟨h1, by rw [hH, h1, if_neg c, hP, Int32.sub_self]⟩
theorem fa_none {σ : SD} (hn : σ.1 ≤ 40) : findAllR (faD σ σ.2.1) = 0 := by
  show nI (cnt (fun k => decide (¬ aH (faD σ σ.2.1) k = 0)) σ.2.1) = 0
  rw [cnt_zero (fun i hi => by simp [(fa_again hn hi).2])]; rfl
theorem fa_lost {σ : SD} (hn : σ.1 ≤ 40) : aKs (faD σ σ.2.1) 2 σ.2.1 = aKs σ 2 σ.2.1 := by
  have h : ∀ i, i ≤ σ.2.1 → aKs (faD σ σ.2.1) 2 i = aKs σ 2 i := by
    intro i
    induction i with
    | zero => intro _; rfl
    | succ i ih =>
      intro hi
      show (if aK (faD σ σ.2.1) i 2 = true then _ else _) = (if aK σ i 2 = true then _ else _)
      rw [aK_2, aK_2, (fa_again hn (show i < σ.2.1 by omega)).1, ih (by omega)]; rfl
  exact h _ (Nat.le_refl _)
theorem ga_zero {sh S M : Nat → Int32} : ∀ {n : Nat}, (∀ i, i < n → sh i = 0) → gaF sh S M n = (0, S, M)
  | 0, _ => rfl
  | n + 1, h => by
    show (if sh n = 0 then gaF sh S M n else enF n (sh n) (gaF sh S M n)) = _
    rw [if_pos (h n (by omega)), ga_zero (fun i hi => h i (by omega))]
theorem fa_block {σ : SD} (hn : σ.1 ≤ 40) : blockOfR (faD σ σ.2.1) 0 0 = -1000004 := by
  have hB : aBl (faD σ σ.2.1) = (0, (fun _ => 0), (fun _ => 0)) := ga_zero (fun i hi => (fa_again hn hi).2)
  unfold blockOfR
  rw [if_neg (fun h => h (by decide)), if_pos]
  unfold aIo
  rw [hB]; rfl
/-! moved there and back -/
def mvc (f k t n : Nat) : Nat := cnt (fun p => decide (¬ pasF f k t p = p)) n
theorem mvc_0 {f k t n : Nat} (h1 : f + k ≤ n) (h2 : t + k ≤ n) (hk : 1 ≤ k) : mvc f k t n = 0 ↔ f = t := by
  constructor
  · intro h
    by_cases e : f = t
    · exact e
    · have hp : pasF f k t f = t := by unfold pasF; rw [if_pos (by omega)]; omega
      have : 0 < mvc f k t n := cnt_pos (i := f) (by rw [hp]; exact decide_eq_true (fun q => e q.symm)) (by omega)
      omega
  · intro e
    subst e
    refine cnt_zero (fun p hp => decide_eq_false (fun h => h ?_))
    unfold pasF; (repeat' split) <;> omega
theorem mvc_sym {f k t n : Nat} (h1 : f + k ≤ n) (h2 : t + k ≤ n) : mvc t k f n = mvc f k t n := by
  refine cnt_cong (fun p hp => decide_eq_decide.mpr (not_congr ⟨fun h => ?_, fun h => ?_⟩))
  · have := pas_inv h1 h2 hp; rw [h] at this; exact this
  · have := pas_inv h2 h1 hp; rw [h] at this; exact this
theorem move_ok {σ : SD} {f k t : Nat} (hn : σ.1 ≤ 40) (hk : 1 ≤ k) (h1 : f + k ≤ σ.1) (h2 : t + k ≤ σ.1) : moveR σ (nI f) (nI k) (nI t) = nI (mvc f k t σ.1) ∧ moveO σ (nI f) (nI k) (nI t) = some (movD f k t σ) := by
  have hc : CSh σ.1 (nI f) (nI k) (nI t) := by
    have a := nI_toInt (n := f) (by omega)
    have b := nI_toInt (n := k) (by omega)
    have c := nI_toInt (n := t) (by omega)
    exact ⟨by omega, by omega, by omega, by omega, by omega, by omega⟩
  unfold moveR moveO
  rw [if_neg (fun h => h hc), if_pos hc, nI_clamp (by omega), nI_clamp (by omega), nI_clamp (by omega)]
  exact ⟨rfl, rfl⟩
theorem mov_word {σ : SD} {f k t : Nat} (hk : 1 ≤ k) : (movD f k t σ).2.2.2.1 t = σ.2.2.2.1 f := by
  show σ.2.2.2.1 (pasF t k f t) = _
  rw [show pasF t k f t = f by unfold pasF; rw [if_pos (by omega)]; omega]
theorem mov_back {σ : SD} {f k t p : Nat} (h1 : f + k ≤ σ.1) (h2 : t + k ≤ σ.1) (hp : p < σ.1) : (movD t k f (movD f k t σ)).2.2.2.1 p = σ.2.2.2.1 p := by
  show σ.2.2.2.1 (pasF t k f (pasF f k t p)) = _
  rw [pas_inv h2 h1 hp]
theorem mov_true {σ : SD} {f k t i : Nat} (hG : Good σ) (h1 : f + k ≤ σ.1) (h2 : t + k ≤ σ.1) (hi : i < σ.2.1) : (movD t k f (movD f k t σ)).2.2.2.2.2.2.2.2.1 i = σ.2.2.2.2.2.2.2.2.1 i := by
  have hn := hG.1
  have hv := (hG.2.2.2.2 i hi).2.1
  show folV (fun p => nI (pasF t k f p)) (folV (fun p => nI (pasF f k t p)) (σ.2.2.2.2.2.2.2.2.1 i)) = _
  generalize σ.2.2.2.2.2.2.2.2.1 i = v at hv ⊢
  have m1 : (-1 : Int32).toInt = -1 := rfl
  by_cases c : v.toInt < 0
  · have e : v = -1 := i_inj (by omega)
    subst e
    rfl
  · have hc := cl_toInt (x := v) (by omega)
    rw [show folV (fun p => nI (pasF f k t p)) v = nI (pasF f k t v.toNatClampNeg) from if_neg c]
    have hl := pas_lt h1 h2 (show v.toNatClampNeg < σ.1 by omega)
    have tl := nI_toInt (n := pasF f k t v.toNatClampNeg) (by omega)
    rw [show folV (fun p => nI (pasF t k f p)) (nI (pasF f k t v.toNatClampNeg)) = nI (pasF t k f (nI (pasF f k t v.toNatClampNeg)).toNatClampNeg) from if_neg (by omega), nI_clamp (by omega), pas_inv h2 h1 (by omega)]
    exact (nI_cl (by omega)).symm
/-- the law's sums -/
def hF (c : Int32) (g : Nat → Int32) : Nat → Int32
  | 0 => 0
  | i + 1 => c * hF c g i + g i
theorem hF_cong {c : Int32} {g g' : Nat → Int32} : ∀ {n : Nat}, (∀ i, i < n → g i = g' i) → hF c g n = hF c g' n
  | 0, _ => rfl
  | n + 1, h => by show c * hF c g n + g n = c * hF c g' n + g' n; rw [hF_cong (fun i hi => h i (by omega)), h n (by omega)]
/-! single calls -/
section CALLS
variable {σ : SD} {hn q : Nat} {hi : Nat → SD} {w : Int32}
theorem put_ok (h40 : σ.1 < 40) (hq : q ≤ σ.1) (hw : 0 ≤ w.toInt ∧ w.toInt ≤ 99) : putR σ (nI q) w = nI (σ.1 + 1) ∧ putO σ (nI q) w = some (insD q w σ) := by
  have tq := nI_toInt (n := q) (by omega)
  have hc : InR (nI q) 0 σ.1 ∧ InR w 0 99 := ⟨⟨by omega, by omega⟩, hw⟩
  unfold putR putO
  rw [if_neg (fun h => h hc), if_neg (by omega), if_pos ⟨hc, by omega⟩, nI_clamp (by omega)]
  exact ⟨rfl, rfl⟩
theorem put_full (h40 : σ.1 = 40) (hq : q ≤ σ.1) (hw : 0 ≤ w.toInt ∧ w.toInt ≤ 99) : putR σ (nI q) w = -1000003 ∧ putO σ (nI q) w = none := by
  have tq := nI_toInt (n := q) (by omega)
  have hc : InR (nI q) 0 σ.1 ∧ InR w 0 99 := ⟨⟨by omega, by omega⟩, hw⟩
  unfold putR putO
  rw [if_neg (fun h => h hc), if_pos (by omega), if_neg (fun h => h.2 (by omega))]
  exact ⟨rfl, rfl⟩
theorem ins_word : (insD q w σ).2.2.2.1 q = w := by
  show insW q w σ.2.2.2.1 q = w
  unfold insW; rw [if_neg (Nat.lt_irrefl q), if_pos rfl]
theorem take_ok (hn : σ.1 ≤ 40) (hq : q < σ.1) : takeR σ (nI q) = σ.2.2.2.1 q ∧ takeO σ (nI q) = some (remD q σ) := by
  have tq := nI_toInt (n := q) (by omega)
  unfold takeR takeO
  rw [if_neg (fun h => h ⟨by omega, by omega⟩), if_pos ⟨by omega, by omega⟩, nI_clamp (by omega)]
  exact ⟨rfl, rfl⟩
theorem take_no (h0 : σ.1 = 0) : takeR σ 0 = -1000001 ∧ takeO σ 0 = none := by
  have z : (0 : Int32).toInt = 0 := rfl
  unfold takeR takeO
  rw [if_pos (by omega), if_neg (by omega)]
  exact ⟨rfl, rfl⟩
theorem move_no (h0 : σ.1 = 0) : moveR σ 0 1 0 = -1000001 ∧ moveO σ 0 1 0 = none := by
  have z : (0 : Int32).toInt = 0 := rfl
  have hc : ¬ CSh σ.1 0 1 0 := fun h => by have := h.2.1; omega
  unfold moveR moveO
  rw [if_pos hc, if_neg hc]
  exact ⟨rfl, rfl⟩
theorem anchor_no (h0 : σ.1 = 0) : anchorR σ 0 = -1000001 ∧ anchorO σ 0 = none := by
  have z : (0 : Int32).toInt = 0 := rfl
  unfold anchorR anchorO
  rw [if_pos (by omega), if_neg (by omega)]
  exact ⟨rfl, rfl⟩
theorem anchor_full (hn : σ.1 ≤ 40) (hq : q < σ.1) (hm : σ.2.1 = 6) : anchorR σ (nI q) = -1000003 ∧ anchorO σ (nI q) = none := by
  have tq := nI_toInt (n := q) (by omega)
  unfold anchorR anchorO
  rw [if_neg (fun h => h ⟨by omega, by omega⟩), if_pos (by omega), if_neg (fun h => h.2 (by omega))]
  exact ⟨rfl, rfl⟩
theorem anchor_ok (hn : σ.1 ≤ 40) (hq : q < σ.1) (hm : σ.2.1 < 6) : anchorR σ (nI q) = nI σ.2.1 ∧ anchorO σ (nI q) = some (addD (nI q) σ) := by
  have tq := nI_toInt (n := q) (by omega)
  unfold anchorR anchorO
  rw [if_neg (fun h => h ⟨by omega, by omega⟩), if_neg (by omega), if_pos ⟨⟨by omega, by omega⟩, by omega⟩]
  exact ⟨rfl, rfl⟩
theorem add_at (hm : σ.2.1 < 6) (hq : q < 40) : anchorOfR (addD (nI q) σ) (nI σ.2.1) 0 = nI q ∧ anchorOfR (addD (nI q) σ) (nI σ.2.1) 1 = nI q := by
  have hk : σ.2.1 < (addD (nI q) σ).2.1 := Nat.lt_succ_self _
  have hm1 : (addD (nI q) σ).2.1 ≤ 6 := hm
  have tq := nI_toInt (n := q) (by omega)
  refine ⟨(anc_0 hk hm1).trans ?_, (anc_1 hk hm1).trans ?_⟩
  · exact upd_s
  · rw [show (addD (nI q) σ).2.2.2.2.2.2.2.2.1 σ.2.1 = nI q from upd_s]
    exact orN_nn (by omega)
theorem add_score (hI : Good σ) (hm : σ.2.1 < 6) (hq : q < σ.1) : scoreR (addD (nI q) σ) (nI σ.2.1) (nI q) = fullF σ.2.2.2.2.2.2.1 := by
  have hk : σ.2.1 < (addD (nI q) σ).2.1 := Nat.lt_succ_self _
  have hm1 : (addD (nI q) σ).2.1 ≤ 6 := hm
  rw [score_in hk hm1 (show q < (addD (nI q) σ).1 from hq) hI.1]
  show scr σ.1 σ.2.2.2.1 σ.2.2.2.2.2.2.1 (updF σ.2.2.2.2.2.2.2.2.2 σ.2.1 (lookF σ.1 σ.2.2.2.1 (nI q)) σ.2.1) (nI q) = _
  rw [show updF σ.2.2.2.2.2.2.2.2.2 σ.2.1 (lookF σ.1 σ.2.2.2.1 (nI q)) σ.2.1 = lookF σ.1 σ.2.2.2.1 (nI q) from if_pos rfl]
  exact scr_full hI.2.2.2.1
theorem change_no (h0 : σ.1 = 0) : changeR σ 0 1 = -1000001 ∧ changeO σ 0 1 = none := by
  have z : (0 : Int32).toInt = 0 := rfl
  unfold changeR changeO
  rw [if_pos (fun h => by have := h.1; omega), if_neg (fun h => by have := h.1; omega)]
  exact ⟨rfl, rfl⟩
theorem change_ok (hn : σ.1 ≤ 40) (hq : q < σ.1) (hw : 0 ≤ w.toInt ∧ w.toInt ≤ 99) : changeR σ (nI q) w = σ.2.2.2.1 q ∧ changeO σ (nI q) w = some (chgD q w σ) := by
  have tq := nI_toInt (n := q) (by omega)
  unfold changeR changeO
  rw [if_neg (fun h => h ⟨⟨by omega, by omega⟩, hw⟩), if_pos ⟨⟨by omega, by omega⟩, hw⟩, nI_clamp (by omega)]
  exact ⟨rfl, rfl⟩
theorem chg_true {k : Nat} (hG : Good σ) (hk : k < σ.2.1) (hq : q < σ.1) : ¬ anchorOfR (chgD q w σ) (nI k) 1 = nI q := by
  have hn := hG.1
  have hv := (hG.2.2.2.2 k hk).2.1
  have tq := nI_toInt (n := q) (by omega)
  rw [anc_1 (σ := chgD q w σ) hk hG.2.1]
  show ¬ orN (folV (fun p => if p = q then -1 else nI p) (σ.2.2.2.2.2.2.2.2.1 k)) = nI q
  generalize σ.2.2.2.2.2.2.2.2.1 k = v at hv ⊢
  have h4 : (-1000004 : Int32).toInt = -1000004 := rfl
  unfold folV
  by_cases c : v.toInt < 0
  · rw [if_pos c, orN_n1]; intro h; have := i_eq h; omega
  · rw [if_neg c]
    have hc := cl_toInt (x := v) (by omega)
    by_cases d : v.toNatClampNeg = q
    · simp only [if_pos d]; rw [orN_n1]; intro h; have := i_eq h; omega
    · simp only [if_neg d]
      have tv := nI_toInt (n := v.toNatClampNeg) (by omega)
      rw [orN_nn (by omega)]; intro h; have := i_eq h; omega
theorem rem_no (h0 : σ.2.1 = 0) : rememberR σ 0 = -1000001 ∧ rememberO σ 0 = none := by
  have z : (0 : Int32).toInt = 0 := rfl
  unfold rememberR rememberO
  rw [if_pos (fun h => by have := h.2; omega), if_neg (fun h => by have := h.1.2; omega)]
  exact ⟨rfl, rfl⟩
theorem rem_out (hG : Good σ) (hq : q < σ.2.1) (hp : (σ.1 : Int) ≤ (σ.2.2.2.2.2.2.2.1 q).toInt) : rememberR σ (nI q) = -1000002 ∧ rememberO σ (nI q) = none := by
  have hm := hG.2.1
  unfold rememberR rememberO
  rw [nI_clamp (by omega), if_neg (fun h => h (inA_nI hq hm)), if_pos (by omega), if_neg (fun h => by have := h.2.2; omega)]
  exact ⟨rfl, rfl⟩
theorem rem_ok (hG : Good σ) (hq : q < σ.2.1) (hp : (σ.2.2.2.2.2.2.2.1 q).toInt < σ.1) : rememberR σ (nI q) = nI (cnt (fun j => decide (¬ σ.2.2.2.2.2.2.2.2.2 q j = lookF σ.1 σ.2.2.2.1 (σ.2.2.2.2.2.2.2.1 q) j)) 5) ∧ rememberO σ (nI q) = some (remembD q σ) := by
  have hm := hG.2.1
  have h0 := (hG.2.2.2.2 q hq).1.1
  unfold rememberR rememberO
  rw [nI_clamp (by omega), if_neg (fun h => h (inA_nI hq hm)), if_neg (fun h => h ⟨h0, hp⟩), if_pos ⟨inA_nI hq hm, h0, hp⟩]
  exact ⟨rfl, rfl⟩
theorem rem_true (hG : Good σ) (hq : q < σ.2.1) : anchorOfR (remembD q σ) (nI q) 1 = σ.2.2.2.2.2.2.2.1 q := by
  rw [anc_1 (σ := remembD q σ) hq hG.2.1, show (remembD q σ).2.2.2.2.2.2.2.2.1 q = σ.2.2.2.2.2.2.2.1 q from upd_s]
  exact orN_nn (hG.2.2.2.2 q hq).1.1
theorem rem_again (hG : Good σ) (hq : q < σ.2.1) (hp : (σ.2.2.2.2.2.2.2.1 q).toInt < σ.1) (hG1 : Good (remembD q σ)) : rememberR (remembD q σ) (nI q) = 0 ∧ rememberO (remembD q σ) (nI q) = some (remembD q (remembD q σ)) := by
  have h := rem_ok (σ := remembD q σ) hG1 hq hp
  refine ⟨h.1.trans ?_, h.2⟩
  have hz : ∀ j, (remembD q σ).2.2.2.2.2.2.2.2.2 q j = lookF (remembD q σ).1 (remembD q σ).2.2.2.1 ((remembD q σ).2.2.2.2.2.2.2.1 q) j := fun j => congrFun (show updF σ.2.2.2.2.2.2.2.2.2 q (lookF σ.1 σ.2.2.2.1 (σ.2.2.2.2.2.2.2.1 q)) q = lookF σ.1 σ.2.2.2.1 (σ.2.2.2.2.2.2.2.1 q) from if_pos rfl) j
  rw [cnt_zero (fun j _ => decide_eq_false (fun k => k (hz j)))]; rfl
theorem rc_back {s : SD} : undoS s (rcN hn) (rcH hn hi σ) = σ := by
  unfold undoS rcN rcH
  by_cases c : hn < 4
  · simp only [if_pos c]
    rw [if_neg (by omega), show hn + 1 - 1 = hn by omega, if_pos rfl]
  · simp only [if_neg c]
    rw [if_neg (by omega)]; simp
theorem rc_undo (h : hn ≤ 4) : 0 ≤ (undoR (rcN hn)).toInt := by
  have h1 : rcN hn ≤ 4 ∧ 1 ≤ rcN hn := by unfold rcN; split <;> omega
  unfold undoR
  rw [if_neg (by omega), nI_toInt (by omega)]; omega
end CALLS
