/-! THE MODEL'S TEXT -/
def sgF (L : Nat) (ch : Nat → Int32) (a : Nat) : Int32 := if a < L then ch a else -1
theorem sg_in {L : Nat} {ch : Nat → Int32} {a : Nat} (h : a < L) : sgF L ch a = chF L ch a := by unfold sgF chF; rw [if_pos h, if_pos h]
theorem sg_ch {L : Nat} {ch : Nat → Int32} {a : Nat} (h : isD (chF L ch a)) : sgF L ch a = chF L ch a := by
  by_cases c : a < L
  · exact sg_in c
  · exfalso
    have h1 : chF L ch a = 0 := if_neg c
    rw [h1] at h
    exact absurd h.1 (by decide)
theorem sg_ch2 {L : Nat} {ch : Nat → Int32} {a : Nat} (h : 48 ≤ (sgF L ch a).toInt) : sgF L ch a = chF L ch a := by
  by_cases c : a < L
  · exact sg_in c
  · exfalso
    have h1 : sgF L ch a = -1 := if_neg c
    rw [h1] at h
    exact absurd h (by decide)
theorem sg_44 {L : Nat} {ch : Nat → Int32} {a : Nat} {c : Int32} (h0 : ¬ c = 0) (h1 : ¬ c = -1) : sgF L ch a = c ↔ chF L ch a = c := by
  by_cases k : a < L
  · rw [sg_in k]
  · rw [show sgF L ch a = -1 from if_neg k, show chF L ch a = 0 from if_neg k]
    exact ⟨fun h => absurd h.symm h1, fun h => absurd h.symm h0⟩
theorem rn_v {x c : Int32} : 10 * x + c - 48 = x * 10 + (c - 48) := by rw [Int32.mul_comm, addsub]
def rdF (L : Nat) (ch : Nat → Int32) (a d : Nat) : Option Nat := if d = 0 then none else (pnF L ch a d).bind (fun q => if chF L ch q = 59 then some (q + 1) else none)
theorem rd_ed (L : Nat) (ch : Nat → Int32) (a : Nat) : edF L ch a = rdF L ch (a + 1) (dueN (chF L ch a)) := rfl
theorem rd_pn {L : Nat} {ch : Nat → Int32} {a k d : Nat} (hk : k ≤ d) (h : pnF L ch a k = none) : rdF L ch a d = none := by
  unfold rdF; split
  · rfl
  · rw [pn_none hk h]; rfl
theorem rd_some {L : Nat} {ch : Nat → Int32} {a d q : Nat} (h0 : ¬ d = 0) (h : pnF L ch a d = some q) : rdF L ch a d = if chF L ch q = 59 then some (q + 1) else none := by
  unfold rdF; rw [if_neg h0, h]; rfl
theorem pn_ge {L : Nat} {ch : Nat → Int32} {a : Nat} : ∀ {k q : Nat}, pnF L ch a k = some q → a ≤ q
  | 0, q, h => by cases h; exact Nat.le_refl _
  | k + 1, q, h => by
    cases hk : pnF L ch a k with
    | none => have h1 : (pnF L ch a k).bind (pstep L ch k) = some q := h; rw [hk] at h1; cases h1
    | some z =>
      have ih := pn_ge hk
      rw [pn_s hk] at h
      unfold pstep at h
      split at h
      · cases h
      · cases h
        have : z ≤ nbg k z := by unfold nbg; split <;> omega
        omega
theorem ed_rng {L : Nat} {ch : Nat → Int32} {a e : Nat} (h : edF L ch a = some e) : a < e ∧ e ≤ L := by
  have h0 := ed_due h
  cases hp : pnF L ch (a + 1) (dueN (chF L ch a)) with
  | none => rw [ed_pn (Nat.le_refl _) hp] at h; cases h
  | some q =>
    rw [ed_some h0 hp] at h
    have hq := pn_ge hp
    by_cases c : chF L ch q = 59
    · rw [if_pos c] at h; cases h
      by_cases l : q < L
      · omega
      · rw [show chF L ch q = 0 from if_neg l] at c; exact absurd c (by decide)
    · rw [if_neg c] at h; cases h
/-- why an edit cannot be, out of the answer of the call that does it -/
def rcd (r : Int32) : Int32 := if r = -1000001 then 2 else if r = -1000003 then 3 else 0
theorem rcd_0 {r : Int32} (h : -1000001 < r.toInt) : rcd r = 0 := by
  unfold rcd
  rw [if_neg (fun e => by rw [e] at h; exact absurd h (by decide)), if_neg (fun e => by rw [e] at h; exact absurd h (by decide))]
theorem pl_put {σ : SD} {c p w t : Int32} (hG : Good σ) (hc : c = 43) (hw : 0 ≤ w.toInt ∧ w.toInt ≤ 99) : fltF σ.1 c p w t = rcd (putR σ p w) ∧ nxS σ (putO σ p w) = if rcd (putR σ p w) = 0 then apD c p w t σ else σ := by
  have hf : fltF σ.1 c p w t = if 0 ≤ p.toInt ∧ p.toInt ≤ σ.1 then (if 40 ≤ σ.1 then 3 else 0) else 2 := if_pos hc
  have ha : apD c p w t σ = insD p.toNatClampNeg w σ := if_pos hc
  rw [hf, ha]
  by_cases c1 : 0 ≤ p.toInt ∧ p.toInt ≤ σ.1
  · rw [if_pos c1]
    by_cases c2 : 40 ≤ σ.1
    · have hR : putR σ p w = -1000003 := (if_neg (fun h => h ⟨c1, hw⟩)).trans (if_pos c2)
      have hO : putO σ p w = none := if_neg (fun h => h.2 c2)
      rw [if_pos c2, hR, hO]; exact ⟨rfl, (if_neg (by decide)).symm⟩
    · have hR : putR σ p w = nI (σ.1 + 1) := (if_neg (fun h => h ⟨c1, hw⟩)).trans (if_neg c2)
      have hO : putO σ p w = some (insD p.toNatClampNeg w σ) := if_pos ⟨⟨c1, hw⟩, c2⟩
      rw [if_neg c2, hR, hO, rcd_0 (by rw [nI_toInt (by omega)]; omega)]; exact ⟨rfl, (if_pos rfl).symm⟩
  · have hR : putR σ p w = -1000001 := if_pos (fun h => c1 h.1)
    have hO : putO σ p w = none := if_neg (fun h => c1 h.1.1)
    rw [if_neg c1, hR, hO]; exact ⟨rfl, (if_neg (by decide)).symm⟩
theorem pl_take {σ : SD} {c p k t : Int32} (hG : Good σ) (hc : c = 45) : fltF σ.1 c p k t = rcd (takeR σ p) ∧ nxS σ (takeO σ p) = if rcd (takeR σ p) = 0 then apD c p k t σ else σ := by
  have hf : fltF σ.1 c p k t = if 0 ≤ p.toInt ∧ p.toInt < σ.1 then 0 else 2 := (if_neg (by rw [hc]; decide)).trans (if_neg (by rw [hc]; decide))
  have ha : apD c p k t σ = remD p.toNatClampNeg σ := (if_neg (by rw [hc]; decide)).trans (if_pos hc)
  rw [hf, ha]
  by_cases c1 : 0 ≤ p.toInt ∧ p.toInt < σ.1
  · have hR : takeR σ p = σ.2.2.2.1 p.toNatClampNeg := if_neg (fun h => h c1)
    have hO : takeO σ p = some (remD p.toNatClampNeg σ) := if_pos c1
    rw [if_pos c1, hR, hO, rcd_0 (by have := wd_rng hG c1; omega)]; exact ⟨rfl, (if_pos rfl).symm⟩
  · have hR : takeR σ p = -1000001 := if_pos c1
    have hO : takeO σ p = none := if_neg c1
    rw [if_neg c1, hR, hO]; exact ⟨rfl, (if_neg (by decide)).symm⟩
theorem pl_change {σ : SD} {c p w t : Int32} (hG : Good σ) (hc : c = 61) (hw : 0 ≤ w.toInt ∧ w.toInt ≤ 99) : fltF σ.1 c p w t = rcd (changeR σ p w) ∧ nxS σ (changeO σ p w) = if rcd (changeR σ p w) = 0 then apD c p w t σ else σ := by
  have hf : fltF σ.1 c p w t = if 0 ≤ p.toInt ∧ p.toInt < σ.1 then 0 else 2 := (if_neg (by rw [hc]; decide)).trans (if_neg (by rw [hc]; decide))
  have ha : apD c p w t σ = chgD p.toNatClampNeg w σ := (if_neg (by rw [hc]; decide)).trans ((if_neg (by rw [hc]; decide)).trans (if_pos hc))
  rw [hf, ha]
  by_cases c1 : 0 ≤ p.toInt ∧ p.toInt < σ.1
  · have hR : changeR σ p w = σ.2.2.2.1 p.toNatClampNeg := if_neg (fun h => h ⟨c1, hw⟩)
    have hO : changeO σ p w = some (chgD p.toNatClampNeg w σ) := if_pos ⟨c1, hw⟩
    rw [if_pos c1, hR, hO, rcd_0 (by have := wd_rng hG c1; omega)]; exact ⟨rfl, (if_pos rfl).symm⟩
  · have hR : changeR σ p w = -1000001 := if_pos (fun h => c1 h.1)
    have hO : changeO σ p w = none := if_neg (fun h => c1 h.1)
    rw [if_neg c1, hR, hO]; exact ⟨rfl, (if_neg (by decide)).symm⟩
theorem pl_move {σ : SD} {c p k t : Int32} (hG : Good σ) (hc : c = 62) : fltF σ.1 c p k t = rcd (moveR σ p k t) ∧ nxS σ (moveO σ p k t) = if rcd (moveR σ p k t) = 0 then apD c p k t σ else σ := by
  have hn := hG.1
  have hf : fltF σ.1 c p k t = if CSh σ.1 p k t then 0 else 2 := (if_neg (by rw [hc]; decide)).trans (if_pos hc)
  have ha : apD c p k t σ = movD p.toNatClampNeg k.toNatClampNeg t.toNatClampNeg σ := (if_neg (by rw [hc]; decide)).trans ((if_neg (by rw [hc]; decide)).trans (if_neg (by rw [hc]; decide)))
  rw [hf, ha]
  by_cases c1 : CSh σ.1 p k t
  · have hR : moveR σ p k t = nI (cnt (fun y => decide (¬ pasF p.toNatClampNeg k.toNatClampNeg t.toNatClampNeg y = y)) σ.1) := if_neg (fun h => h c1)
    have hO : moveO σ p k t = some (movD p.toNatClampNeg k.toNatClampNeg t.toNatClampNeg σ) := if_pos c1
    have h1 := cnt_le (fun y => decide (¬ pasF p.toNatClampNeg k.toNatClampNeg t.toNatClampNeg y = y)) σ.1
    rw [if_pos c1, hR, hO, rcd_0 (by rw [nI_toInt (by omega)]; omega)]; exact ⟨rfl, (if_pos rfl).symm⟩
  · have hR : moveR σ p k t = -1000001 := if_pos c1
    have hO : moveO σ p k t = none := if_neg c1
    rw [if_neg c1, hR, hO]; exact ⟨rfl, (if_neg (by decide)).symm⟩
/-- what an edit's doing answers, and leaves -/
def dneF (L : Nat) (ch : Nat → Int32) (a : Nat) (σ : SD) : Int32 := match edF L ch a with
  | none => 1
  | some _ => flE L ch a σ
def dneS (L : Nat) (ch : Nat → Int32) (a : Nat) (σ : SD) : SD := match edF L ch a with
  | none => σ
  | some _ => if flE L ch a σ = 0 then apE L ch a σ else σ
theorem dne_none {L : Nat} {ch : Nat → Int32} {a : Nat} {σ : SD} {S : Nat → Int32} (h : edF L ch a = none) (hS : MS S σ) : dneF L ch a σ = 1 ∧ MS S (dneS L ch a σ) := by
  unfold dneF dneS; rw [h]; exact ⟨rfl, hS⟩
theorem dne_ok {L : Nat} {ch : Nat → Int32} {a e : Nat} {σ : SD} {S : Nat → Int32} {r : Int32} {o : Option SD} (h : edF L ch a = some e) (h1 : flE L ch a σ = rcd r ∧ nxS σ o = if rcd r = 0 then apE L ch a σ else σ) (hS : MS S (nxS σ o)) : dneF L ch a σ = rcd r ∧ MS S (dneS L ch a σ) := by
  unfold dneF dneS
  rw [h]
  refine ⟨h1.1, ?_⟩
  show MS S (if flE L ch a σ = 0 then apE L ch a σ else σ)
  rw [h1.1, ← h1.2]; exact hS
theorem rcd_2 {r : Int32} (h : r = -1000001) : rcd r = 2 := if_pos h
theorem rcd_3 {r : Int32} (h : ¬ r = -1000001) (h2 : r = -1000003) : rcd r = 3 := (if_neg h).trans (if_pos h2)
theorem rcd_n {r : Int32} (h : ¬ r = -1000001) (h2 : ¬ r = -1000003) : rcd r = 0 := (if_neg h).trans (if_neg h2)
theorem flt_rng {n : Nat} {c p k t : Int32} : fltF n c p k t = 0 ∨ fltF n c p k t = 2 ∨ fltF n c p k t = 3 := by
  unfold fltF; (repeat' split) <;> simp
theorem dne_0 {L : Nat} {ch : Nat → Int32} {a : Nat} {σ : SD} (h : dneF L ch a σ ≤ 0) : ∃ e, edF L ch a = some e ∧ flE L ch a σ = 0 := by
  unfold dneF at h
  cases he : edF L ch a with
  | none => rw [he] at h; exact absurd (show (1 : Int32) ≤ 0 from h) (by decide)
  | some e =>
    rw [he] at h
    refine ⟨e, rfl, ?_⟩
    have hr : flE L ch a σ = 0 ∨ flE L ch a σ = 2 ∨ flE L ch a σ = 3 := flt_rng
    rcases hr with q | q | q
    · exact q
    · have h1 : flE L ch a σ ≤ 0 := h
      rw [q] at h1; exact absurd h1 (by decide)
    · have h1 : flE L ch a σ ≤ 0 := h
      rw [q] at h1; exact absurd h1 (by decide)
theorem dneS_0 {L : Nat} {ch : Nat → Int32} {a e : Nat} {σ : SD} (h : edF L ch a = some e) (h0 : flE L ch a σ = 0) : dneS L ch a σ = apE L ch a σ := by
  unfold dneS; rw [h]; exact if_pos h0
theorem dne_bad {L : Nat} {ch : Nat → Int32} {f a : Nat} {s : SD} (hf : 0 < f) (ha : a < L) (h : ¬ dneF L ch a s ≤ 0) : rhF L ch f a s = (dneF L ch a s, a, s) := by
  unfold dneF at h ⊢
  cases he : edF L ch a with
  | none => rw [rh_none hf ha he]
  | some e =>
    rw [he] at h
    exact rh_bad hf ha he (fun q => h (by show flE L ch a s ≤ 0; rw [q]; exact Int32.le_refl _))
theorem rh_z {L : Nat} {ch : Nat → Int32} {f a : Nat} {s : SD} (hf : 0 < f) (ha : a < L) (h : (rhF L ch f a s).1 = 0) : ∃ e, edF L ch a = some e ∧ flE L ch a s = 0 := by
  cases he : edF L ch a with
  | none => rw [rh_none hf ha he] at h; exact absurd (show (1 : Int32) = 0 from h) (by decide)
  | some e =>
    refine ⟨e, rfl, ?_⟩
    by_cases q : flE L ch a s = 0
    · exact q
    · rw [rh_bad hf ha he q] at h; exact h
theorem rh_pos {L : Nat} {ch : Nat → Int32} : ∀ {f a : Nat} {s : SD}, a ≤ L → (rhF L ch f a s).2.1 ≤ L
  | 0, a, s, h => h
  | f + 1, a, s, h => by
    by_cases c : a < L
    · cases he : edF L ch a with
      | none => rw [rh_none (by omega) c he]; exact h
      | some e =>
        by_cases hr : flE L ch a s = 0
        · rw [rh_ok (by omega) c he hr]; exact rh_pos (ed_rng he).2
        · rw [rh_bad (by omega) c he hr]; exact h
    · rw [rh_end c]; exact h
theorem nI_m4 {i : Nat} (h : i < 2 ^ 31) : ¬ nI i = -1000004 := fun q => by
  have h1 : (nI i).toInt = (i : Int) := nI_toInt h
  rw [q] at h1
  have h3 : (-1000004 : Int32).toInt = -1000004 := rfl
  omega
def fpF (L : Nat) (ch : Nat → Int32) (σ : SD) : Int32 := if (rhF L ch 60 0 σ).1 = 0 then -1000004 else nI (rhF L ch 60 0 σ).2.1
theorem fp_eq {L : Nat} {ch : Nat → Int32} {σ : SD} (hL : L ≤ 60) : fpF L ch σ = -1000004 ↔ (rhF L ch 60 0 σ).1 = 0 := by
  unfold fpF
  by_cases c : (rhF L ch 60 0 σ).1 = 0
  · rw [if_pos c]; exact ⟨fun _ => c, fun _ => rfl⟩
  · rw [if_neg c]
    have := rh_pos (L := L) (ch := ch) (f := 60) (a := 0) (s := σ) (Nat.zero_le _)
    exact ⟨fun h => absurd h (nI_m4 (by omega)), fun h => absurd h c⟩
theorem fr_1 {L : Nat} {ch : Nat → Int32} {σ : SD} {x : Int32} (hL : L ≤ 60) (hx : InR x 0 1) (h : fpF L ch σ = -1000004 ∨ x = 0) : faultR σ L ch x = fpF L ch σ := by
  unfold faultR fpF
  rw [if_neg (fun q => q hx)]
  by_cases c : (rhF L ch 60 0 σ).1 = 0
  · rw [if_pos c, if_pos c]
  · rw [if_neg c, if_neg c]
    exact if_pos (h.elim (fun q => absurd ((fp_eq hL).mp q) c) id)
theorem fr_2 {L : Nat} {ch : Nat → Int32} {σ : SD} {x : Int32} (hL : L ≤ 60) (hx : InR x 0 1) (h : ¬ fpF L ch σ = -1000004) (h0 : ¬ x = 0) : faultR σ L ch x = (rhF L ch 60 0 σ).1 ∧ ¬ (rhF L ch 60 0 σ).1 = 0 := by
  have c : ¬ (rhF L ch 60 0 σ).1 = 0 := fun q => h ((fp_eq hL).mpr q)
  unfold faultR
  rw [if_neg (fun q => q hx), if_neg c, if_neg h0]
  exact ⟨rfl, c⟩
