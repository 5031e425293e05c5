/-! WHAT IS SAID OF ANCHORS DEPENDS ON WHAT IS SEEN ALONE -/
section CONG
variable {n : Nat} {W W' E E' f f' : Nat → Int32} {p x : Int32}
theorem scF_cong (hW : ∀ q, q < n → W q = W' q) (hE : ∀ k, k < 5 → E k = E' k) (hf : ∀ j, j < 5 → f j = f' j) : ∀ k, k ≤ 5 → scF n W E f x k = scF n W' E' f' x k := by
  intro k
  induction k with
  | zero => intro _; rfl
  | succ k ih =>
    intro hk
    show scF n W E f x k + (if f k = atF n W (x + nI k - 2) then wgt E k else 0) = scF n W' E' f' x k + (if f' k = atF n W' (x + nI k - 2) then wgt E' k else 0)
    rw [ih (by omega), hf k (by omega), atF_cong hW, show wgt E k = wgt E' k from hE _ (by split <;> omega)]
theorem scr_cong (hW : ∀ q, q < n → W q = W' q) (hE : ∀ k, k < 5 → E k = E' k) (hf : ∀ j, j < 5 → f j = f' j) (x : Int32) : scr n W E f x = scr n W' E' f' x := scF_cong hW hE hf 5 (Nat.le_refl 5)
theorem bst_cong (hW : ∀ q, q < n → W q = W' q) (hE : ∀ k, k < 5 → E k = E' k) (hf : ∀ j, j < 5 → f j = f' j) : ∀ i, bstF n W E f p x i = bstF n W' E' f' p x i := by
  intro i
  induction i with
  | zero => rfl
  | succ i ih => simp only [bstF, ih, scr_cong hW hE hf]
theorem bp_cong (hW : ∀ q, q < n → W q = W' q) (hE : ∀ k, k < 5 → E k = E' k) (hf : ∀ j, j < 5 → f j = f' j) (p x : Int32) : bpF n W E f p x = bpF n W' E' f' p x := by unfold bpF; rw [bst_cong hW hE hf]
theorem lost_cong (hW : ∀ q, q < n → W q = W' q) (hE : ∀ k, k < 5 → E k = E' k) (hf : ∀ j, j < 5 → f j = f' j) (x : Int32) : lostF n W E f x = lostF n W' E' f' x := by unfold lostF; rw [scr_cong hW hE hf, hE 3 (by omega)]
theorem stand_cong (hW : ∀ q, q < n → W q = W' q) (hE : ∀ k, k < 5 → E k = E' k) (hf : ∀ j, j < 5 → f j = f' j) (p : Int32) : standF n W E f p = standF n W' E' f' p := by
  unfold standF; simp only [bp_cong hW hE hf, lost_cong hW hE hf, scr_cong hW hE hf, hE 4 (by omega)]
theorem shift_cong (hW : ∀ q, q < n → W q = W' q) (hE : ∀ k, k < 5 → E k = E' k) (hf : ∀ j, j < 5 → f j = f' j) (p : Int32) : shiftF n W E f p = shiftF n W' E' f' p := by
  unfold shiftF; simp only [bp_cong hW hE hf, lost_cong hW hE hf]
theorem kind_cong (hW : ∀ q, q < n → W q = W' q) (hE : ∀ k, k < 5 → E k = E' k) (hf : ∀ j, j < 5 → f j = f' j) (p v x : Int32) : kindF n W E f p v x = kindF n W' E' f' p v x := by
  unfold kindF; simp only [bp_cong hW hE hf, lost_cong hW hE hf, stand_cong hW hE hf]
end CONG
def aS (σ : SD) (a : Nat) (x : Int32) : Int32 := scr σ.1 σ.2.2.2.1 σ.2.2.2.2.2.2.1 (σ.2.2.2.2.2.2.2.2.2 a) x
def aB (σ : SD) (a : Nat) (x : Int32) : Int32 := bpF σ.1 σ.2.2.2.1 σ.2.2.2.2.2.2.1 (σ.2.2.2.2.2.2.2.2.2 a) (σ.2.2.2.2.2.2.2.1 a) x
def aL (σ : SD) (a : Nat) (x : Int32) : Bool := lostF σ.1 σ.2.2.2.1 σ.2.2.2.2.2.2.1 (σ.2.2.2.2.2.2.2.2.2 a) x
def aT (σ : SD) (a : Nat) : Int32 := standF σ.1 σ.2.2.2.1 σ.2.2.2.2.2.2.1 (σ.2.2.2.2.2.2.2.2.2 a) (σ.2.2.2.2.2.2.2.1 a)
def aH (σ : SD) (a : Nat) : Int32 := shiftF σ.1 σ.2.2.2.1 σ.2.2.2.2.2.2.1 (σ.2.2.2.2.2.2.2.2.2 a) (σ.2.2.2.2.2.2.2.1 a)
def aK (σ : SD) (a : Nat) (x : Int32) : Bool := kindF σ.1 σ.2.2.2.1 σ.2.2.2.2.2.2.1 (σ.2.2.2.2.2.2.2.2.2 a) (σ.2.2.2.2.2.2.2.1 a) (σ.2.2.2.2.2.2.2.2.1 a) x
section EQV
variable {d σ : SD} {a : Nat}
theorem eS (h : Eqv d σ) (ha : a < σ.2.1) (x : Int32) : aS d a x = aS σ a x := by
  obtain ⟨h1, h2, h3, h4, h5, h6⟩ := h
  unfold aS; rw [h1]; exact scr_cong h4 h5 (h6 a ha).2.2 x
theorem eB (h : Eqv d σ) (ha : a < σ.2.1) (x : Int32) : aB d a x = aB σ a x := by
  obtain ⟨h1, h2, h3, h4, h5, h6⟩ := h
  unfold aB; rw [h1, (h6 a ha).1]; exact bp_cong h4 h5 (h6 a ha).2.2 _ x
theorem eL (h : Eqv d σ) (ha : a < σ.2.1) (x : Int32) : aL d a x = aL σ a x := by
  obtain ⟨h1, h2, h3, h4, h5, h6⟩ := h
  unfold aL; rw [h1]; exact lost_cong h4 h5 (h6 a ha).2.2 x
theorem eT (h : Eqv d σ) (ha : a < σ.2.1) : aT d a = aT σ a := by
  obtain ⟨h1, h2, h3, h4, h5, h6⟩ := h
  unfold aT; rw [h1, (h6 a ha).1]; exact stand_cong h4 h5 (h6 a ha).2.2 _
theorem eH (h : Eqv d σ) (ha : a < σ.2.1) : aH d a = aH σ a := by
  obtain ⟨h1, h2, h3, h4, h5, h6⟩ := h
  unfold aH; rw [h1, (h6 a ha).1]; exact shift_cong h4 h5 (h6 a ha).2.2 _
theorem eK (h : Eqv d σ) (ha : a < σ.2.1) (x : Int32) : aK d a x = aK σ a x := by
  obtain ⟨h1, h2, h3, h4, h5, h6⟩ := h
  unfold aK; rw [h1, (h6 a ha).1, (h6 a ha).2.1]; exact kind_cong h4 h5 (h6 a ha).2.2 _ _ x
/-- the first i anchors of a kind, as bits -/
def aKs (σ : SD) (x : Int32) : Nat → Int32
  | 0 => 0
  | i + 1 => if aK σ i x = true then aKs σ x i ||| ((1 : Int32) <<< (nI i &&& 31)) else aKs σ x i
theorem knd_aKs (d : SD) (x : Int32) : ∀ i, kndF d.1 d.2.2.2.1 d.2.2.2.2.2.2.1 d.2.2.2.2.2.2.2.1 d.2.2.2.2.2.2.2.2.1 d.2.2.2.2.2.2.2.2.2 x i = aKs d x i
  | 0 => rfl
  | i + 1 => by
    show (if aK d i x = true then kndF d.1 d.2.2.2.1 d.2.2.2.2.2.2.1 d.2.2.2.2.2.2.2.1 d.2.2.2.2.2.2.2.2.1 d.2.2.2.2.2.2.2.2.2 x i ||| ((1 : Int32) <<< (nI i &&& 31)) else kndF d.1 d.2.2.2.1 d.2.2.2.2.2.2.1 d.2.2.2.2.2.2.2.1 d.2.2.2.2.2.2.2.2.1 d.2.2.2.2.2.2.2.2.2 x i) = _
    rw [knd_aKs d x i]; rfl
theorem eKs (h : Eqv d σ) (x : Int32) : ∀ i, i ≤ σ.2.1 → aKs d x i = aKs σ x i
  | 0, _ => rfl
  | i + 1, hi => by
    show (if aK d i x = true then _ else _) = (if aK σ i x = true then _ else _)
    rw [eK h (by omega) x, eKs h x i (by omega)]
end EQV
def orN (v : Int32) : Int32 := if v = -1 then -1000004 else v
def scN (σ : SD) (a : Nat) (x : Int32) : Int32 := if x = -1 then -1000004 else aS σ a x
abbrev InA (σ : SD) (x : Int32) : Prop := 0 ≤ x.toInt ∧ x.toInt < σ.2.1
def anchorR (σ : SD) (x : Int32) : Int32 := if ¬ (0 ≤ x.toInt ∧ x.toInt < σ.1) then -1000001 else if 6 ≤ σ.2.1 then -1000003 else nI σ.2.1
def anchorO (σ : SD) (x : Int32) : Option SD := if (0 ≤ x.toInt ∧ x.toInt < σ.1) ∧ ¬ 6 ≤ σ.2.1 then some (addD x σ) else none
def dropR (σ : SD) (x : Int32) : Int32 := if ¬ InA σ x then -1000001 else nI (σ.2.1 - 1)
def dropO (σ : SD) (x : Int32) : Option SD := if InA σ x then some (dropD x.toNatClampNeg σ) else none
def findR (σ : SD) (x : Int32) : Int32 := if ¬ InA σ x then -1000001 else if aL σ x.toNatClampNeg (aB σ x.toNatClampNeg (-1)) = true then -1000002 else aB σ x.toNatClampNeg (-1)
def findO (σ : SD) (x : Int32) : Option SD := if InA σ x ∧ ¬ aL σ x.toNatClampNeg (aB σ x.toNatClampNeg (-1)) = true then some (goD x.toNatClampNeg (aB σ x.toNatClampNeg (-1)) σ) else none
def faD (σ : SD) (i : Nat) : SD := (σ.1, σ.2.1, σ.2.2.1, σ.2.2.2.1, σ.2.2.2.2.1, σ.2.2.2.2.2.1, σ.2.2.2.2.2.2.1, (fun k => if k < i then σ.2.2.2.2.2.2.2.1 k + aH σ k else σ.2.2.2.2.2.2.2.1 k), σ.2.2.2.2.2.2.2.2.1, σ.2.2.2.2.2.2.2.2.2)
def findAllR (σ : SD) : Int32 := nI (cnt (fun k => decide (¬ aH σ k = 0)) σ.2.1)
def findAllO (σ : SD) : Option SD := some (faD σ σ.2.1)
def rememberR (σ : SD) (x : Int32) : Int32 := if ¬ InA σ x then -1000001 else if ¬ (0 ≤ (σ.2.2.2.2.2.2.2.1 x.toNatClampNeg).toInt ∧ (σ.2.2.2.2.2.2.2.1 x.toNatClampNeg).toInt < σ.1) then -1000002 else nI (cnt (fun j => decide (¬ σ.2.2.2.2.2.2.2.2.2 x.toNatClampNeg j = lookF σ.1 σ.2.2.2.1 (σ.2.2.2.2.2.2.2.1 x.toNatClampNeg) j)) 5)
def rememberO (σ : SD) (x : Int32) : Option SD := if InA σ x ∧ (0 ≤ (σ.2.2.2.2.2.2.2.1 x.toNatClampNeg).toInt ∧ (σ.2.2.2.2.2.2.2.1 x.toNatClampNeg).toInt < σ.1) then some (remembD x.toNatClampNeg σ) else none
def gsF (x : Int32) : Int := if x.toInt < 3 then 20 else 60
abbrev SOk (x v : Int32) : Prop := (0 ≤ x.toInt ∧ x.toInt < 5) ∧ 0 ≤ v.toInt ∧ v.toInt ≤ gsF x
def setR (σ : SD) (x v : Int32) : Int32 := if ¬ SOk x v then -1000001 else σ.2.2.2.2.2.2.1 x.toNatClampNeg
def setO (σ : SD) (x v : Int32) : Option SD := if SOk x v then some (setD x.toNatClampNeg v σ) else none
def anchorOfR (σ : SD) (x y : Int32) : Int32 := if ¬ (InA σ x ∧ 0 ≤ y.toInt ∧ y.toInt ≤ 12) then -1000001 else if y = 0 then σ.2.2.2.2.2.2.2.1 x.toNatClampNeg else if y = 1 then orN (σ.2.2.2.2.2.2.2.2.1 x.toNatClampNeg) else if y = 7 then aT σ x.toNatClampNeg else if y = 8 then orN (aB σ x.toNatClampNeg (-1)) else if y = 9 then scN σ x.toNatClampNeg (aB σ x.toNatClampNeg (-1)) else if y = 10 then orN (aB σ x.toNatClampNeg (aB σ x.toNatClampNeg (-1))) else if y = 11 then scN σ x.toNatClampNeg (aB σ x.toNatClampNeg (aB σ x.toNatClampNeg (-1))) else if y = 12 then bI (aK σ x.toNatClampNeg 3) else orN (atF 5 (σ.2.2.2.2.2.2.2.2.2 x.toNatClampNeg) (y - 2))
def scoreR (σ : SD) (x y : Int32) : Int32 := if ¬ (InA σ x ∧ 0 ≤ y.toInt ∧ y.toInt < σ.1) then -1000001 else aS σ x.toNatClampNeg y
def anchorsR (σ : SD) (x : Int32) : Int32 := if ¬ InR x 0 5 then -1000001 else aKs σ x σ.2.1
def countR (σ : SD) (hn L : Nat) (x : Int32) : Int32 := if x = 0 then nI σ.1 else if x = 1 then nI σ.2.1 else if x = 2 then nI (cnt (fun p => !seenF σ.2.2.2.1 (σ.2.2.2.1 p) p) σ.1) else if x = 3 then σ.2.2.1 else if x = 4 then nI hn else if x = 5 then nI L else if InR x 20 24 then σ.2.2.2.2.2.2.1 (x - 20).toNatClampNeg else -1000001
