/-! A TEXT'S EDITS, ONE BEHIND ANOTHER -/
def flE (L : Nat) (ch : Nat → Int32) (a : Nat) (s : SD) : Int32 := fltF s.1 (chF L ch a) (nvF L ch (a + 1) 0) (nvF L ch (a + 1) 1) (nvF L ch (a + 1) 2)
def apE (L : Nat) (ch : Nat → Int32) (a : Nat) (s : SD) : SD := apD (chF L ch a) (nvF L ch (a + 1) 0) (nvF L ch (a + 1) 1) (nvF L ch (a + 1) 2) s
def rhF (L : Nat) (ch : Nat → Int32) : Nat → Nat → SD → Int32 × Nat × SD
  | 0, a, s => (0, a, s)
  | f + 1, a, s => if ¬ a < L then (0, a, s) else match edF L ch a with
    | none => (1, a, s)
    | some e => if flE L ch a s = 0 then rhF L ch f e (apE L ch a s) else (flE L ch a s, a, s)
theorem rh_end {L : Nat} {ch : Nat → Int32} {f a : Nat} {s : SD} (h : ¬ a < L) : rhF L ch f a s = (0, a, s) := by
  cases f with
  | zero => rfl
  | succ f => exact if_pos h
theorem rh_none {L : Nat} {ch : Nat → Int32} {f a : Nat} {s : SD} (hf : 0 < f) (h : a < L) (he : edF L ch a = none) : rhF L ch f a s = (1, a, s) := by
  cases f with
  | zero => omega
  | succ f => simp only [rhF]; rw [if_neg (by omega), he]
theorem rh_bad {L : Nat} {ch : Nat → Int32} {f a e : Nat} {s : SD} (hf : 0 < f) (h : a < L) (he : edF L ch a = some e) (hr : ¬ flE L ch a s = 0) : rhF L ch f a s = (flE L ch a s, a, s) := by
  cases f with
  | zero => omega
  | succ f => simp only [rhF]; rw [if_neg (by omega), he]; exact if_neg hr
theorem rh_ok {L : Nat} {ch : Nat → Int32} {f a e : Nat} {s : SD} (hf : 0 < f) (h : a < L) (he : edF L ch a = some e) (hr : flE L ch a s = 0) : rhF L ch f a s = rhF L ch (f - 1) e (apE L ch a s) := by
  cases f with
  | zero => omega
  | succ f => simp only [rhF]; rw [if_neg (by omega), he]; exact if_pos hr
theorem ed_due {L : Nat} {ch : Nat → Int32} {a e : Nat} (he : edF L ch a = some e) : ¬ dueN (chF L ch a) = 0 := fun h => by rw [ed_none h] at he; cases he
theorem due_sg {c : Int32} (h : ¬ dueN c = 0) : c = 43 ∨ c = 45 ∨ c = 61 ∨ c = 62 := by
  unfold dueN at h
  by_cases c1 : c = 43
  · exact Or.inl c1
  · by_cases c2 : c = 45
    · exact Or.inr (Or.inl c2)
    · by_cases c3 : c = 61
      · exact Or.inr (Or.inr (Or.inl c3))
      · by_cases c4 : c = 62
        · exact Or.inr (Or.inr (Or.inr c4))
        · rw [if_neg c1, if_neg c2, if_neg c3, if_neg c4] at h; exact absurd rfl h
theorem par_flt {n : Nat} {c : Int32} {nu nv : Nat → Int32} (h0 : ¬ dueN c = 0) (h : ∀ k, k < dueN c → nu k = nv k) : fltF n c (nu 0) (nu 1) (nu 2) = fltF n c (nv 0) (nv 1) (nv 2) := by
  have e0 := h 0 (by omega)
  unfold fltF
  rcases due_sg h0 with e | e | e | e
  · simp only [if_pos e, e0]
  · simp only [if_neg (show ¬ c = 43 by rw [e]; decide), if_neg (show ¬ c = 62 by rw [e]; decide), e0]
  · simp only [if_neg (show ¬ c = 43 by rw [e]; decide), if_neg (show ¬ c = 62 by rw [e]; decide), e0]
  · have e1 := h 1 (by rw [e]; decide)
    have e2 := h 2 (by rw [e]; decide)
    simp only [if_neg (show ¬ c = 43 by rw [e]; decide), if_pos e, e0, e1, e2]
theorem par_ap {c : Int32} {nu nv : Nat → Int32} (h0 : ¬ dueN c = 0) (h : ∀ k, k < dueN c → nu k = nv k) : apD c (nu 0) (nu 1) (nu 2) = apD c (nv 0) (nv 1) (nv 2) := by
  have e0 := h 0 (by omega)
  funext σ
  unfold apD
  rcases due_sg h0 with e | e | e | e
  · have e1 := h 1 (by rw [e]; decide)
    simp only [if_pos e, e0, e1]
  · simp only [if_neg (show ¬ c = 43 by rw [e]; decide), if_pos e, e0]
  · have e1 := h 1 (by rw [e]; decide)
    simp only [if_neg (show ¬ c = 43 by rw [e]; decide), if_neg (show ¬ c = 45 by rw [e]; decide), if_pos e, e0, e1]
  · have e1 := h 1 (by rw [e]; decide)
    have e2 := h 2 (by rw [e]; decide)
    simp only [if_neg (show ¬ c = 43 by rw [e]; decide), if_neg (show ¬ c = 45 by rw [e]; decide), if_neg (show ¬ c = 61 by rw [e]; decide), e0, e1, e2]
theorem num_nI {L : Nat} {ch : Nat → Int32} {a k : Nat} : ∀ {c : Nat}, c ≤ 2 → (∀ j, j < c → isD (chF L ch (a + j))) → ∃ q, numV L ch a c = nI q ∧ q < 10 ^ c := by
  intro c
  induction c with
  | zero => intro _ _; exact ⟨0, rfl, by decide⟩
  | succ c ih =>
    intro hc hd
    obtain ⟨q, h1, h2⟩ := ih (by omega) (fun j hj => hd j (by omega))
    have hx := hd c (by omega)
    have h0 := nI_cl (x := chF L ch (a + c)) (by have := hx.1; omega)
    have hk := cl_toInt (x := chF L ch (a + c)) (by have := hx.1; omega)
    have hx1 := hx.1
    have hx2 := hx.2
    generalize (chF L ch (a + c)).toNatClampNeg = w at h0 hk
    refine ⟨q * 10 + (w - 48), ?_, by rw [Nat.pow_succ]; omega⟩
    show numV L ch a c * 10 + (chF L ch (a + c) - 48) = _
    rw [h1, h0, show (10 : Int32) = nI 10 from rfl, show (48 : Int32) = nI 48 from rfl, pk_mul, pk_sub (by omega), nI_add]
theorem numC_d {L : Nat} {ch : Nat → Int32} {a : Nat} : ∀ j, j < numC L ch a → isD (chF L ch (a + j)) := by
  intro j hj
  unfold numC at hj
  by_cases c0 : ¬ isD (chF L ch a)
  · rw [if_pos c0] at hj; omega
  · rw [if_neg c0] at hj
    have d0 := Decidable.not_not.mp c0
    by_cases c1 : ¬ isD (chF L ch (a + 1))
    · rw [if_pos c1] at hj; rw [show j = 0 by omega]; exact d0
    · rw [if_neg c1] at hj
      rcases (show j = 0 ∨ j = 1 by omega) with rfl | rfl
      · exact d0
      · exact Decidable.not_not.mp c1
theorem nv_rng (L : Nat) (ch : Nat → Int32) (a k : Nat) : 0 ≤ (nvF L ch a k).toInt ∧ (nvF L ch a k).toInt ≤ 99 := by
  unfold nvF
  cases pnF L ch a k with
  | none => show 0 ≤ (0 : Int32).toInt ∧ (0 : Int32).toInt ≤ 99; exact ⟨by decide, by decide⟩
  | some q =>
    show 0 ≤ (numV L ch (nbg k q) (numC L ch (nbg k q))).toInt ∧ (numV L ch (nbg k q) (numC L ch (nbg k q))).toInt ≤ 99
    have hc := numC_le L ch (nbg k q)
    obtain ⟨w, h1, h2⟩ := num_nI (k := k) hc numC_d
    have h3 : 10 ^ numC L ch (nbg k q) ≤ 10 ^ 2 := Nat.pow_le_pow_right (by decide) hc
    rw [h1, nI_toInt (by omega)]; omega
theorem good_apE {L : Nat} {ch : Nat → Int32} {a e : Nat} {s : SD} (hg : Good s) (he : edF L ch a = some e) (hf : flE L ch a s = 0) : Good (apE L ch a s) := by
  have hn := hg.1
  have n0 := nv_rng L ch (a + 1) 0
  have n1 := nv_rng L ch (a + 1) 1
  have n2 := nv_rng L ch (a + 1) 2
  have k0 := cl_toInt n0.1
  have k1 := cl_toInt n1.1
  have k2 := cl_toInt n2.1
  unfold apE apD
  unfold flE at hf
  rcases due_sg (ed_due he) with c | c | c | c
  · rw [if_pos c]
    have h := flt_43 hf c
    exact good_ins hg (by omega) h.2.2 n1
  · rw [if_neg (by rw [c]; decide), if_pos c]
    have h := flt_o hf (by rw [c]; decide) (by rw [c]; decide)
    exact good_rem hg (by omega)
  · rw [if_neg (by rw [c]; decide), if_neg (by rw [c]; decide), if_pos c]
    exact good_chg hg n1
  · rw [if_neg (by rw [c]; decide), if_neg (by rw [c]; decide), if_neg (by rw [c]; decide)]
    obtain ⟨h1, h2, h3, h4, h5, h6⟩ := flt_62 hf c
    exact good_mov hg (by omega) (by omega)
theorem rh_good {L : Nat} {ch : Nat → Int32} : ∀ {f a : Nat} {s : SD}, Good s → Good (rhF L ch f a s).2.2
  | 0, a, s, h => h
  | f + 1, a, s, h => by
    by_cases c : a < L
    · cases he : edF L ch a with
      | none => rw [rh_none (by omega) c he]; exact h
      | some e =>
        by_cases hr : flE L ch a s = 0
        · rw [rh_ok (by omega) c he hr]; exact rh_good (good_apE h he hr)
        · rw [rh_bad (by omega) c he hr]; exact h
    · rw [rh_end c]; exact h
def faultR (σ : SD) (L : Nat) (ch : Nat → Int32) (x : Int32) : Int32 := if ¬ InR x 0 1 then -1000001 else if (rhF L ch 60 0 σ).1 = 0 then -1000004 else if x = 0 then nI (rhF L ch 60 0 σ).2.1 else (rhF L ch 60 0 σ).1
def playR (σ : SD) (L : Nat) (ch : Nat → Int32) : Int32 := if ¬ (rhF L ch 60 0 σ).1 = 0 then -1000002 else nI (rhF L ch 60 0 σ).2.2.1
def playO (σ : SD) (L : Nat) (ch : Nat → Int32) : Option SD := if (rhF L ch 60 0 σ).1 = 0 then some (rhF L ch 60 0 σ).2.2 else none
