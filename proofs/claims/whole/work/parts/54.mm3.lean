/-! THE MODEL'S CHANGES -/
theorem ms_no {S : Nat → Int32} {σ : SD} {o : Option SD} (h : o = none) (hS : MS S σ) : MS S (nxS σ o) := by subst h; exact hS
theorem ms_yes {S : Nat → Int32} {σ s : SD} {o : Option SD} (h : o = some s) (hS : MS S s) : MS S (nxS σ o) := by subst h; exact hS
theorem dec_nI {a : Nat} (h : 1 ≤ a) : nI a + (-1) = nI (a - 1) := (Int32.sub_eq_add_neg _ _).symm.trans (pk_sub (b := 1) h)
/-- a true place behind an edit at z, as the model counts -/
def flw (z : Nat) (b gb v : Int32) : Int32 := if v.toInt < 0 then -1 else if v = nI z ∧ ¬ gb = 0 then -1 else if (z : Int) ≤ v.toInt then v + b else v
theorem flw_ins {z : Nat} {v : Int32} (hv : v.toInt < 40) : flw z 1 0 v = folV (fun p => nI (insP z p)) v := by
  unfold flw folV
  by_cases c : v.toInt < 0
  · rw [if_pos c, if_pos c]
  · rw [if_neg c, if_neg c, if_neg (fun h => h.2 rfl)]
    have e := nI_cl (x := v) (by omega)
    have k := cl_toInt (x := v) (by omega)
    generalize v.toNatClampNeg = q at e k ⊢
    subst e
    show _ = nI (insP z q)
    by_cases c2 : (z : Int) ≤ (nI q).toInt
    · rw [if_pos c2, nI_1, show insP z q = q + 1 from if_neg (by omega)]
    · rw [if_neg c2, show insP z q = q from if_pos (by omega)]
theorem flw_rem {z : Nat} {v : Int32} (hv : v.toInt < 40) (hz : z < 40) : flw z (-1) 1 v = folV (remP z) v := by
  unfold flw folV
  by_cases c : v.toInt < 0
  · rw [if_pos c, if_pos c]
  · rw [if_neg c, if_neg c]
    have e := nI_cl (x := v) (by omega)
    have k := cl_toInt (x := v) (by omega)
    generalize v.toNatClampNeg = q at e k ⊢
    subst e
    unfold remP
    by_cases c1 : q = z
    · subst c1; rw [if_pos ⟨rfl, by decide⟩, if_neg (Nat.lt_irrefl q), if_pos rfl]
    · rw [if_neg (fun h => c1 ((nI_eq (by omega) (by omega)).mp h.1))]
      by_cases c2 : (z : Int) ≤ (nI q).toInt
      · rw [if_pos c2, if_neg (by omega), if_neg c1]; exact dec_nI (by omega)
      · rw [if_neg c2, if_pos (by omega)]
theorem flw_chg {z : Nat} {v : Int32} (hv : v.toInt < 40) (hz : z < 40) : flw z 0 1 v = folV (fun p => if p = z then -1 else nI p) v := by
  unfold flw folV
  by_cases c : v.toInt < 0
  · rw [if_pos c, if_pos c]
  · rw [if_neg c, if_neg c]
    have e := nI_cl (x := v) (by omega)
    have k := cl_toInt (x := v) (by omega)
    generalize v.toNatClampNeg = q at e k ⊢
    subst e
    show _ = if q = z then -1 else nI q
    by_cases c1 : q = z
    · subst c1; rw [if_pos ⟨rfl, by decide⟩, if_pos rfl]
    · rw [if_neg (fun h => c1 ((nI_eq (by omega) (by omega)).mp h.1)), if_neg c1]
      by_cases c2 : (z : Int) ≤ (nI q).toInt
      · rw [if_pos c2, Int32.add_zero]
      · rw [if_neg c2]
theorem ms_step {S S1 : Nat → Int32} {σ : SD} {n1 : Nat} {W1 tp : Nat → Int32} (h : MS S σ) (hn : n1 ≤ 40) (h0 : S1 0 = nI n1) (h2 : S1 2 = S 2 + 1) (hW : ∀ p, p < n1 → S1 (8 + p) = W1 p) (hV : ∀ k, k < σ.2.1 → S1 (49 + 7 * k) = folV tp (σ.2.2.2.2.2.2.2.2.1 k)) (ho : ∀ j, j ≠ 0 → j ≠ 2 → (j < 8 ∨ 48 ≤ j) → (∀ k, k < σ.2.1 → j ≠ 49 + 7 * k) → S1 j = S j) : MS S1 (stepD n1 W1 tp σ) := by
  obtain ⟨a0, a1, a2, a3, a4, a5⟩ := h
  refine ⟨h0, (ho 1 (by omega) (by omega) (by omega) (fun k hk => by omega)).trans a1, by rw [h2, a2]; rfl, fun k hk => (ho _ (by omega) (by omega) (by omega) (fun i hi => by omega)).trans (a3 k hk), hW, fun k hk => ?_⟩
  have hk' : k < σ.2.1 := hk
  obtain ⟨b1, b2, b3⟩ := a5 k hk'
  exact ⟨(ho _ (by omega) (by omega) (by omega) (fun i hi => by omega)).trans b1, hV k hk', fun j hj => (ho _ (by omega) (by omega) (by omega) (fun i hi => by omega)).trans (b3 j hj)⟩
theorem ms_fol {S F S1 : Nat → Int32} {σ : SD} {n1 z : Nat} {b gb : Int32} {W1 tp : Nat → Int32} (h : MS S σ) (hn : n1 ≤ 40) (b0 : F 0 = nI n1) (b2 : F 2 = S 2 + 1) (bW : ∀ p, p < n1 → F (8 + p) = W1 p) (bo : ∀ j, j ≠ 0 → j ≠ 2 → (j < 8 ∨ 48 ≤ j) → F j = S j) (f1 : ∀ k, k < σ.2.1 → S1 (49 + 7 * k) = flw z b gb (F (49 + 7 * k))) (f2 : ∀ j, (∀ k, k < σ.2.1 → j ≠ 49 + 7 * k) → S1 j = F j) (hv : ∀ k, k < σ.2.1 → flw z b gb (σ.2.2.2.2.2.2.2.2.1 k) = folV tp (σ.2.2.2.2.2.2.2.2.1 k)) : MS S1 (stepD n1 W1 tp σ) :=
  ms_step h hn ((f2 0 (fun k hk => by omega)).trans b0) ((f2 2 (fun k hk => by omega)).trans b2) (fun p hp => (f2 _ (fun k hk => by omega)).trans (bW p hp)) (fun k hk => by rw [f1 k hk, bo _ (by omega) (by omega) (by omega), (h.2.2.2.2.2 k hk).2.1]; exact hv k hk) (fun j a b c d => (f2 j d).trans (bo j a b c))
theorem vt_lt {σ : SD} (hG : Good σ) {k : Nat} (hk : k < σ.2.1) : (σ.2.2.2.2.2.2.2.2.1 k).toInt < 40 := by
  have h1 := (hG.2.2.2.2 k hk).2.1
  have h2 := hG.1
  omega
theorem sg_none {o : Option SD} {r : Int32} (h : o = none) (hr : ¬ -1000001 < r.toInt) : o.isSome = true ↔ -1000001 < r.toInt := by subst h; exact ⟨fun q => (by cases q), fun q => absurd q hr⟩
theorem sg_some {o : Option SD} {s : SD} {r : Int32} (h : o = some s) (hr : -1000001 < r.toInt) : o.isSome = true ↔ -1000001 < r.toInt := by subst h; exact ⟨fun _ => hr, fun _ => rfl⟩
theorem put_sg {σ : SD} {x w : Int32} (hG : Good σ) : (putO σ x w).isSome = true ↔ -1000001 < (putR σ x w).toInt := by
  by_cases c : InR x 0 σ.1 ∧ InR w 0 99
  · by_cases c2 : 40 ≤ σ.1
    · have hR : putR σ x w = -1000003 := (if_neg (fun h => h c)).trans (if_pos c2)
      have hO : putO σ x w = none := if_neg (fun h => h.2 c2)
      exact sg_none hO (by rw [hR]; decide)
    · have hR : putR σ x w = nI (σ.1 + 1) := (if_neg (fun h => h c)).trans (if_neg c2)
      have hO : putO σ x w = some _ := if_pos ⟨c, c2⟩
      exact sg_some hO (by rw [hR, nI_toInt (by omega)]; omega)
  · have hR : putR σ x w = -1000001 := if_pos c
    have hO : putO σ x w = none := if_neg (fun h => c h.1)
    exact sg_none hO (by rw [hR]; decide)
theorem wd_rng {σ : SD} {x : Int32} (hG : Good σ) (hx : 0 ≤ x.toInt ∧ x.toInt < σ.1) : 0 ≤ (σ.2.2.2.1 x.toNatClampNeg).toInt := (hG.2.2.1 _ (by have := cl_toInt hx.1; omega)).1
theorem take_sg {σ : SD} {x : Int32} (hG : Good σ) : (takeO σ x).isSome = true ↔ -1000001 < (takeR σ x).toInt := by
  by_cases c : 0 ≤ x.toInt ∧ x.toInt < σ.1
  · have hR : takeR σ x = σ.2.2.2.1 x.toNatClampNeg := if_neg (fun h => h c)
    have hO : takeO σ x = some _ := if_pos c
    exact sg_some hO (by rw [hR]; have := wd_rng hG c; omega)
  · have hR : takeR σ x = -1000001 := if_pos c
    have hO : takeO σ x = none := if_neg c
    exact sg_none hO (by rw [hR]; decide)
theorem change_sg {σ : SD} {x w : Int32} (hG : Good σ) : (changeO σ x w).isSome = true ↔ -1000001 < (changeR σ x w).toInt := by
  by_cases c : (0 ≤ x.toInt ∧ x.toInt < σ.1) ∧ InR w 0 99
  · have hR : changeR σ x w = σ.2.2.2.1 x.toNatClampNeg := if_neg (fun h => h c)
    have hO : changeO σ x w = some _ := if_pos c
    exact sg_some hO (by rw [hR]; have := wd_rng hG c.1; omega)
  · have hR : changeR σ x w = -1000001 := if_pos c
    have hO : changeO σ x w = none := if_neg c
    exact sg_none hO (by rw [hR]; decide)
theorem move_sg {σ : SD} {f k t : Int32} (hG : Good σ) : (moveO σ f k t).isSome = true ↔ -1000001 < (moveR σ f k t).toInt := by
  have hn := hG.1
  by_cases c : CSh σ.1 f k t
  · have hR : moveR σ f k t = nI (cnt (fun p => decide (¬ pasF f.toNatClampNeg k.toNatClampNeg t.toNatClampNeg p = p)) σ.1) := if_neg (fun h => h c)
    have hO : moveO σ f k t = some _ := if_pos c
    have h1 := cnt_le (fun p => decide (¬ pasF f.toNatClampNeg k.toNatClampNeg t.toNatClampNeg p = p)) σ.1
    exact sg_some hO (by rw [hR, nI_toInt (by omega)]; omega)
  · have hR : moveR σ f k t = -1000001 := if_pos c
    have hO : moveO σ f k t = none := if_neg c
    exact sg_none hO (by rw [hR]; decide)
theorem nI_sg {a : Nat} (h : a < 2 ^ 31) : -1000001 < (nI a).toInt := by rw [nI_toInt h]; omega
/-- the history of the model -/
def acN (r : Int32) (hn : Nat) : Nat := if -1000001 < r.toInt then rcN hn else hn
def acW (hn : Nat) (Wa Bg : Nat → Int32) : Nat → Int32 := fun j => if 90 * (rcN hn - 1) ≤ j ∧ j < 90 * rcN hn then Bg (j - 90 * (rcN hn - 1)) else if hn < 4 then Wa j else Wa (j + 90)
def MNx (cell : Nat → va_E) (adr : Nat → Nat) (kc : Nat → ClassId) (σ : SD) (hn : Nat) (hi : Nat → SD) (o : Option SD) (L : Nat) (ch : Nat → Int32) : Prop := MAt cell adr kc (nxS σ o) (nxN hn o) (nxH σ hn hi o) L ch
theorem MNx.no {cell : Nat → va_E} {adr : Nat → Nat} {kc : Nat → ClassId} {σ : SD} {hn : Nat} {hi : Nat → SD} {o : Option SD} {L : Nat} {ch : Nat → Int32} (ho : o = none) (h : MAt cell adr kc σ hn hi L ch) : MNx cell adr kc σ hn hi o L ch := by subst ho; exact h
theorem win_act {Wa Wa1 Bg : Nat → Int32} {σ : SD} {hn : Nat} {hi : Nat → SD} (hBg : MS Bg σ) (hG : Good σ) (hgh : ∀ i, i < hn → Good (hi i)) (hH : ∀ i, i < hn → MS (fun k => Wa (90 * i + k)) (hi i)) (h1 : ∀ j, j < 90 * rcN hn → Wa1 j = acW hn Wa Bg j) (h4 : hn ≤ 4) : ∀ i, i < rcN hn → MS (fun k => Wa1 (90 * i + k)) (rcH hn hi σ i) := by
  intro i hi1
  by_cases c : hn < 4
  · have hr : rcN hn = hn + 1 := if_pos c
    rw [hr] at hi1
    have hw : ∀ j, j < 90 * (hn + 1) → Wa1 j = if 90 * hn ≤ j ∧ j < 90 * (hn + 1) then Bg (j - 90 * hn) else Wa j := fun j hj => by
      rw [h1 j (by rw [hr]; exact hj)]; unfold acW; rw [hr, if_pos c]; rfl
    unfold rcH
    simp only [if_pos c]
    by_cases e : i = hn
    · rw [if_pos e]
      exact ms_cong hBg hG.1 hG.2.1 (fun k hk => by show Wa1 (90 * i + k) = _; rw [hw _ (by omega), if_pos (by omega)]; exact congrArg Bg (by omega))
    · rw [if_neg e]
      have hg := hgh i (by omega)
      exact ms_cong (hH i (by omega)) hg.1 hg.2.1 (fun k hk => by show Wa1 (90 * i + k) = Wa (90 * i + k); rw [hw _ (by omega), if_neg (by omega)])
  · have hr : rcN hn = 4 := if_neg c
    rw [hr] at hi1
    have hw : ∀ j, j < 360 → Wa1 j = if 270 ≤ j ∧ j < 360 then Bg (j - 270) else Wa (j + 90) := fun j hj => by
      rw [h1 j (by rw [hr]; omega)]; unfold acW; rw [hr, if_neg c]
    unfold rcH
    simp only [if_neg c]
    by_cases e : i = 3
    · rw [if_pos e]
      exact ms_cong hBg hG.1 hG.2.1 (fun k hk => by show Wa1 (90 * i + k) = _; rw [hw _ (by omega), if_pos (by omega)]; exact congrArg Bg (by omega))
    · rw [if_neg e]
      have hg := hgh (i + 1) (by omega)
      exact ms_cong (hH (i + 1) (by omega)) hg.1 hg.2.1 (fun k hk => by show Wa1 (90 * i + k) = Wa (90 * (i + 1) + k); rw [hw _ (by omega), if_neg (by omega)]; exact congrArg Wa (by omega))
theorem mat_act {cell : Nat → va_E} {adr : Nat → Nat} {kc : Nat → ClassId} {S1 Wa Wa1 Bg As tx : Nat → Int32} {at' re : Int32} {nu mo sh : Nat → Int32} {σ : SD} {hn : Nat} {hi : Nat → SD} {L : Nat} {ch : Nat → Int32} {r : Int32} {o : Option SD} (hB : MB cell adr kc S1 Wa1 Bg As (nI (acN r hn)) tx (nI L) at' re nu mo sh) (hS1 : MS S1 (nxS σ o)) (hr : o.isSome = true ↔ -1000001 < r.toInt) (hBg : MS Bg σ) (hG : Good σ) (hgh : ∀ i, i < hn → Good (hi i)) (hH : ∀ i, i < hn → MS (fun k => Wa (90 * i + k)) (hi i)) (h1 : -1000001 < r.toInt → ∀ j, j < 90 * rcN hn → Wa1 j = acW hn Wa Bg j) (h2 : ¬ -1000001 < r.toInt → Wa1 = Wa) (ht : ∀ j, j < L → tx j = ch j) (h4 : hn ≤ 4) (hL : L ≤ 60) : MNx cell adr kc σ hn hi o L ch := by
  cases o with
  | none =>
    have hr' : ¬ -1000001 < r.toInt := fun h => by have := hr.mpr h; cases this
    have ha : acN r hn = hn := if_neg hr'
    rw [ha] at hB
    rw [h2 hr'] at hB
    exact ⟨S1, Wa, Bg, As, tx, at', re, nu, mo, sh, hB, hS1, hH, ht, h4, hL⟩
  | some s =>
    have hr' := hr.mp rfl
    have ha : acN r hn = rcN hn := if_pos hr'
    rw [ha] at hB
    have hle : rcN hn ≤ 4 := by unfold rcN; split <;> omega
    exact ⟨S1, Wa1, Bg, As, tx, at', re, nu, mo, sh, hB, hS1, win_act hBg hG hgh hH (h1 hr') h4, ht, hle, hL⟩
theorem ms_lo {S S1 : Nat → Int32} {σ : SD} (h : MS S σ) (hn : σ.1 ≤ 40) (ho : ∀ j, j < 48 + 7 * σ.2.1 → S1 j = S j) : MS S1 σ := by
  obtain ⟨a0, a1, a2, a3, a4, a5⟩ := h
  refine ⟨(ho _ (by omega)).trans a0, (ho _ (by omega)).trans a1, (ho _ (by omega)).trans a2, fun k hk => (ho _ (by omega)).trans (a3 k hk), fun p hp => (ho _ (by omega)).trans (a4 p hp), fun k hk => ?_⟩
  obtain ⟨b1, b2, b3⟩ := a5 k hk
  exact ⟨(ho _ (by omega)).trans b1, (ho _ (by omega)).trans b2, fun j hj => (ho _ (by omega)).trans (b3 j hj)⟩
theorem ms_add {S S1 : Nat → Int32} {σ : SD} {x : Int32} (h : MS S σ) (hn : σ.1 ≤ 40) (h1 : S1 1 = nI (σ.2.1 + 1)) (hP : S1 (48 + 7 * σ.2.1) = x) (hV : S1 (49 + 7 * σ.2.1) = x) (hF : ∀ j, j < 5 → S1 (50 + 7 * σ.2.1 + j) = lookF σ.1 σ.2.2.2.1 x j) (ho : ∀ j, j ≠ 1 → j < 48 + 7 * σ.2.1 → S1 j = S j) : MS S1 (addD x σ) := by
  obtain ⟨a0, a1, a2, a3, a4, a5⟩ := h
  refine ⟨(ho _ (by omega) (by omega)).trans a0, h1, (ho _ (by omega) (by omega)).trans a2, fun k hk => (ho _ (by omega) (by omega)).trans (a3 k hk), fun p hp => (ho _ (by omega) (by have : p < σ.1 := hp; omega)).trans (a4 p hp), fun k hk => ?_⟩
  have hk' : k < σ.2.1 + 1 := hk
  show S1 (48 + 7 * k) = upd _ σ.2.1 x k ∧ S1 (49 + 7 * k) = upd _ σ.2.1 x k ∧ ∀ j, j < 5 → S1 (50 + 7 * k + j) = updF _ σ.2.1 _ k j
  by_cases c : k = σ.2.1
  · subst c
    rw [upd_s, upd_s]
    exact ⟨hP, hV, fun j hj => by rw [hF j hj]; unfold updF; rw [if_pos rfl]⟩
  · rw [upd_n c, upd_n c]
    obtain ⟨b1, b2, b3⟩ := a5 k (by omega)
    exact ⟨(ho _ (by omega) (by omega)).trans b1, (ho _ (by omega) (by omega)).trans b2, fun j hj => by unfold updF; rw [if_neg c]; exact (ho _ (by omega) (by omega)).trans (b3 j hj)⟩
theorem ms_drop {S S1 : Nat → Int32} {σ : SD} {z : Nat} (h : MS S σ) (hn : σ.1 ≤ 40) (hz : z < σ.2.1) (hs : ∀ j, S1 j = if 48 + 7 * z ≤ j ∧ j < 48 + 7 * (σ.2.1 - 1) then S (j + 7) else if j = 1 then nI (σ.2.1 - 1) else S j) : MS S1 (dropD z σ) := by
  obtain ⟨a0, a1, a2, a3, a4, a5⟩ := h
  have ho : ∀ j, j ≠ 1 → j < 48 + 7 * z → S1 j = S j := fun j h1 h2 => by rw [hs, if_neg (by omega), if_neg h1]
  refine ⟨(ho _ (by omega) (by omega)).trans a0, by rw [hs, if_neg (by omega), if_pos rfl]; rfl, (ho _ (by omega) (by omega)).trans a2, fun k hk => (ho _ (by omega) (by omega)).trans (a3 k hk), fun p hp => (ho _ (by omega) (by have : p < σ.1 := hp; omega)).trans (a4 p hp), fun k hk => ?_⟩
  have hk' : k < σ.2.1 - 1 := hk
  show S1 (48 + 7 * k) = drpP z σ.2.2.2.2.2.2.2.1 k ∧ S1 (49 + 7 * k) = drpP z σ.2.2.2.2.2.2.2.2.1 k ∧ ∀ j, j < 5 → S1 (50 + 7 * k + j) = (if z ≤ k then σ.2.2.2.2.2.2.2.2.2 (k + 1) else σ.2.2.2.2.2.2.2.2.2 k) j
  unfold drpP
  by_cases c : z ≤ k
  · obtain ⟨b1, b2, b3⟩ := a5 (k + 1) (by omega)
    rw [if_pos c, if_pos c, if_pos c]
    refine ⟨?_, ?_, fun j hj => ?_⟩
    · rw [hs, if_pos (by omega)]; exact (congrArg S (by omega)).trans b1
    · rw [hs, if_pos (by omega)]; exact (congrArg S (by omega)).trans b2
    · rw [hs, if_pos (by omega)]; exact (congrArg S (by omega)).trans (b3 j hj)
  · obtain ⟨b1, b2, b3⟩ := a5 k (by omega)
    rw [if_neg c, if_neg c, if_neg c]
    exact ⟨(ho _ (by omega) (by omega)).trans b1, (ho _ (by omega) (by omega)).trans b2, fun j hj => (ho _ (by omega) (by omega)).trans (b3 j hj)⟩
theorem ms_go {S : Nat → Int32} {σ : SD} {z i : Nat} {x : Int32} (h : MS S σ) (hn : σ.1 ≤ 40) (hi : i = 48 + 7 * z) : MS (upd S i x) (goD z x σ) := by
  obtain ⟨a0, a1, a2, a3, a4, a5⟩ := h
  subst hi
  refine ⟨(upd_n (by omega)).trans a0, (upd_n (by omega)).trans a1, (upd_n (by omega)).trans a2, fun k hk => (upd_n (by omega)).trans (a3 k hk), fun p hp => (upd_n (by have : p < σ.1 := hp; omega)).trans (a4 p hp), fun k hk => ?_⟩
  obtain ⟨b1, b2, b3⟩ := a5 k hk
  refine ⟨?_, (upd_n (by omega)).trans b2, fun j hj => (upd_n (by omega)).trans (b3 j hj)⟩
  show upd S (48 + 7 * z) x (48 + 7 * k) = upd _ z x k
  by_cases c : k = z
  · subst c; rw [upd_s, upd_s]
  · rw [upd_n (by omega), upd_n c]; exact b1
theorem ms_fa {S : Nat → Int32} {σ : SD} {i q : Nat} {x : Int32} (h : MS S (faD σ i)) (hn : σ.1 ≤ 40) (hq : q = 48 + 7 * i) (hx : x = σ.2.2.2.2.2.2.2.1 i + aH σ i) : MS (upd S q x) (faD σ (i + 1)) := by
  obtain ⟨a0, a1, a2, a3, a4, a5⟩ := h
  subst hq
  refine ⟨(upd_n (by omega)).trans a0, (upd_n (by omega)).trans a1, (upd_n (by omega)).trans a2, fun k hk => (upd_n (by omega)).trans (a3 k hk), fun p hp => (upd_n (by have : p < σ.1 := hp; omega)).trans (a4 p hp), fun k hk => ?_⟩
  obtain ⟨b1, b2, b3⟩ := a5 k hk
  refine ⟨?_, (upd_n (by omega)).trans b2, fun j hj => (upd_n (by omega)).trans (b3 j hj)⟩
  by_cases c : k = i
  · subst c
    rw [upd_s, hx]
    exact (if_pos (Nat.lt_succ_self k)).symm
  · rw [upd_n (by omega), b1]; exact (faN c).symm
theorem ms_rem {S S1 : Nat → Int32} {σ : SD} {z : Nat} (h : MS S σ) (hn : σ.1 ≤ 40) (h1 : S1 (49 + 7 * z) = σ.2.2.2.2.2.2.2.1 z) (h2 : ∀ j, j < 5 → S1 (50 + 7 * z + j) = lookF σ.1 σ.2.2.2.1 (σ.2.2.2.2.2.2.2.1 z) j) (ho : ∀ j, (j < 49 + 7 * z ∨ 55 + 7 * z ≤ j) → S1 j = S j) : MS S1 (remembD z σ) := by
  obtain ⟨a0, a1, a2, a3, a4, a5⟩ := h
  refine ⟨(ho _ (by omega)).trans a0, (ho _ (by omega)).trans a1, (ho _ (by omega)).trans a2, fun k hk => (ho _ (by omega)).trans (a3 k hk), fun p hp => (ho _ (by have : p < σ.1 := hp; omega)).trans (a4 p hp), fun k hk => ?_⟩
  obtain ⟨b1, b2, b3⟩ := a5 k hk
  refine ⟨(ho _ (by omega)).trans b1, ?_, fun j hj => ?_⟩
  · show S1 (49 + 7 * k) = upd _ z _ k
    by_cases c : k = z
    · subst c; rw [upd_s]; exact h1
    · rw [upd_n c]; exact (ho _ (by omega)).trans b2
  · show S1 (50 + 7 * k + j) = updF _ z _ k j
    unfold updF
    by_cases c : k = z
    · subst c; rw [if_pos rfl]; exact h2 j hj
    · rw [if_neg c]; exact (ho _ (by omega)).trans (b3 j hj)
theorem ms_set {S : Nat → Int32} {σ : SD} {z : Nat} {x : Int32} (h : MS S σ) (hz : z < 5) : MS (upd S (3 + z) x) (setD z x σ) := by
  obtain ⟨a0, a1, a2, a3, a4, a5⟩ := h
  refine ⟨(upd_n (by omega)).trans a0, (upd_n (by omega)).trans a1, (upd_n (by omega)).trans a2, fun k hk => ?_, fun p hp => (upd_n (by omega)).trans (a4 p hp), fun k hk => ?_⟩
  · show upd S (3 + z) x (3 + k) = upd _ z x k
    by_cases c : k = z
    · subst c; rw [upd_s, upd_s]
    · rw [upd_n (by omega), upd_n c]; exact a3 k hk
  · obtain ⟨b1, b2, b3⟩ := a5 k hk
    exact ⟨(upd_n (by omega)).trans b1, (upd_n (by omega)).trans b2, fun j hj => (upd_n (by omega)).trans (b3 j hj)⟩
/-- a state with the row's words, and whatever anchors the row of numbers has -/
def rmS (σ : SD) (S : Nat → Int32) : SD := (σ.1, σ.2.1, σ.2.2.1, σ.2.2.2.1, σ.2.2.2.2.1, σ.2.2.2.2.2.1, σ.2.2.2.2.2.2.1, fun k => S (48 + 7 * k), fun k => S (49 + 7 * k), fun k j => S (50 + 7 * k + j))
theorem rmS_ok {S S1 : Nat → Int32} {σ : SD} (h : MS S σ) (hn : σ.1 ≤ 40) (ho : ∀ j, j < 48 → S1 j = S j) : MS S1 (rmS σ S1) := by
  obtain ⟨a0, a1, a2, a3, a4, a5⟩ := h
  exact ⟨(ho _ (by omega)).trans a0, (ho _ (by omega)).trans a1, (ho _ (by omega)).trans a2, fun k hk => (ho _ (by omega)).trans (a3 k hk), fun p hp => (ho _ (by have : p < σ.1 := hp; omega)).trans (a4 p hp), fun k hk => ⟨rfl, rfl, fun j hj => rfl⟩⟩
theorem faB (σ : SD) (i : Nat) (x : Int32) : aB (faD σ i) i x = aB σ i x := by
  show bpF σ.1 σ.2.2.2.1 σ.2.2.2.2.2.2.1 (σ.2.2.2.2.2.2.2.2.2 i) ((faD σ i).2.2.2.2.2.2.2.1 i) x = _
  rw [faQ]; rfl
theorem faT (σ : SD) (i : Nat) : aT (faD σ i) i = aT σ i := by
  show standF σ.1 σ.2.2.2.1 σ.2.2.2.2.2.2.1 (σ.2.2.2.2.2.2.2.2.2 i) ((faD σ i).2.2.2.2.2.2.2.1 i) = _
  rw [faQ]; rfl
theorem fa_l {σ : SD} {i : Nat} (h : aT σ i = 2) : aH σ i = 0 ∧ σ.2.2.2.2.2.2.2.1 i = σ.2.2.2.2.2.2.2.1 i + aH σ i := by
  have h1 : aH σ i = 0 := aH_no (stand_2.mp h)
  exact ⟨h1, by rw [h1, Int32.add_zero]⟩
theorem fa_f {σ : SD} {i : Nat} (h : ¬ aT σ i = 2) : aH σ i = aB σ i (-1) - σ.2.2.2.2.2.2.2.1 i ∧ aB σ i (-1) = σ.2.2.2.2.2.2.2.1 i + aH σ i := by
  have h1 : aH σ i = aB σ i (-1) - σ.2.2.2.2.2.2.2.1 i := aH_go (fun q => h (stand_2.mpr q))
  exact ⟨h1, by rw [h1, addsub2]⟩
theorem pas_inj {f k t p q n : Nat} (h1 : f + k ≤ n) (h2 : t + k ≤ n) (hp : p < n) (hq : q < n) (h : pasF f k t p = pasF f k t q) : p = q := by
  have a := pas_inv (f := t) (t := f) h2 h1 hp
  have b := pas_inv (f := t) (t := f) h2 h1 hq
  rw [h] at a
  omega
