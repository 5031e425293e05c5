/-! EDITS OF A TEXT -/
abbrev CSh (n : Nat) (f k t : Int32) : Prop := 0 ≤ f.toInt ∧ f.toInt < n ∧ 1 ≤ k.toInt ∧ k.toInt ≤ n - f.toInt ∧ 0 ≤ t.toInt ∧ t.toInt ≤ n - k.toInt
def fltF (n : Nat) (sg p k t : Int32) : Int32 := if sg = 43 then (if 0 ≤ p.toInt ∧ p.toInt ≤ n then (if 40 ≤ n then 3 else 0) else 2) else if sg = 62 then (if CSh n p k t then 0 else 2) else (if 0 ≤ p.toInt ∧ p.toInt < n then 0 else 2)
theorem flt_43 {n : Nat} {sg p k t : Int32} (h : fltF n sg p k t = 0) (e : sg = 43) : 0 ≤ p.toInt ∧ p.toInt ≤ n ∧ n < 40 := by
  unfold fltF at h; rw [if_pos e] at h
  by_cases c : 0 ≤ p.toInt ∧ p.toInt ≤ n
  · rw [if_pos c] at h
    by_cases c2 : 40 ≤ n
    · rw [if_pos c2] at h; exact absurd h (by decide)
    · omega
  · rw [if_neg c] at h; exact absurd h (by decide)
theorem flt_62 {n : Nat} {sg p k t : Int32} (h : fltF n sg p k t = 0) (e : sg = 62) : CSh n p k t := by
  unfold fltF at h; rw [if_neg (by rw [e]; decide), if_pos e] at h
  by_cases c : CSh n p k t
  · exact c
  · rw [if_neg c] at h; exact absurd h (by decide)
theorem flt_o {n : Nat} {sg p k t : Int32} (h : fltF n sg p k t = 0) (e1 : ¬ sg = 43) (e2 : ¬ sg = 62) : 0 ≤ p.toInt ∧ p.toInt < n := by
  unfold fltF at h; rw [if_neg e1, if_neg e2] at h
  by_cases c : 0 ≤ p.toInt ∧ p.toInt < n
  · exact c
  · rw [if_neg c] at h; exact absurd h (by decide)
def apD (sg p k t : Int32) (σ : SD) : SD := if sg = 43 then insD p.toNatClampNeg k σ else if sg = 45 then remD p.toNatClampNeg σ else if sg = 61 then chgD p.toNatClampNeg k σ else movD p.toNatClampNeg k.toNatClampNeg t.toNatClampNeg σ
