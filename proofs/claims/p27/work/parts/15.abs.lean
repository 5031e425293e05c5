/-! STATES UP TO WHAT NOBODY SEES, and what the calls do to them -/
def Eqv (d σ : SD) : Prop := d.1 = σ.1 ∧ d.2.1 = σ.2.1 ∧ d.2.2.1 = σ.2.2.1 ∧ (∀ p, p < σ.1 → d.2.2.2.1 p = σ.2.2.2.1 p) ∧ (∀ k, k < 5 → d.2.2.2.2.2.2.1 k = σ.2.2.2.2.2.2.1 k) ∧ ∀ k, k < σ.2.1 → d.2.2.2.2.2.2.2.1 k = σ.2.2.2.2.2.2.2.1 k ∧ d.2.2.2.2.2.2.2.2.1 k = σ.2.2.2.2.2.2.2.2.1 k ∧ ∀ j, j < 5 → d.2.2.2.2.2.2.2.2.2 k j = σ.2.2.2.2.2.2.2.2.2 k j
def Good (σ : SD) : Prop := σ.1 ≤ 40 ∧ σ.2.1 ≤ 6 ∧ (∀ p, p < σ.1 → 0 ≤ (σ.2.2.2.1 p).toInt ∧ (σ.2.2.2.1 p).toInt ≤ 99) ∧ (∀ k, k < 3 → 0 ≤ (σ.2.2.2.2.2.2.1 k).toInt ∧ (σ.2.2.2.2.2.2.1 k).toInt ≤ 20) ∧ ∀ k, k < σ.2.1 → (0 ≤ (σ.2.2.2.2.2.2.2.1 k).toInt ∧ (σ.2.2.2.2.2.2.2.1 k).toInt ≤ 39) ∧ (-1 ≤ (σ.2.2.2.2.2.2.2.2.1 k).toInt ∧ (σ.2.2.2.2.2.2.2.2.1 k).toInt < σ.1) ∧ ∀ j, j < 5 → -1 ≤ (σ.2.2.2.2.2.2.2.2.2 k j).toInt ∧ (σ.2.2.2.2.2.2.2.2.2 k j).toInt ≤ 99
theorem Eqv.rf (σ : SD) : Eqv σ σ := ⟨rfl, rfl, rfl, fun _ _ => rfl, fun _ _ => rfl, fun _ _ => ⟨rfl, rfl, fun _ _ => rfl⟩⟩
theorem Eqv.tr {a b c : SD} (h : Eqv a b) (k : Eqv b c) : Eqv a c := by
  obtain ⟨h1, h2, h3, h4, h5, h6⟩ := h
  obtain ⟨k1, k2, k3, k4, k5, k6⟩ := k
  refine ⟨h1.trans k1, h2.trans k2, h3.trans k3, fun p hp => (h4 p (by omega)).trans (k4 p hp), fun j hj => (h5 j hj).trans (k5 j hj), fun i hi => ?_⟩
  obtain ⟨a1, a2, a3⟩ := h6 i (by omega)
  obtain ⟨b1, b2, b3⟩ := k6 i hi
  exact ⟨a1.trans b1, a2.trans b2, fun j hj => (a3 j hj).trans (b3 j hj)⟩
def folV (tp : Nat → Int32) (v : Int32) : Int32 := if v.toInt < 0 then -1 else tp v.toNatClampNeg
def stepD (n1 : Nat) (W1 tp : Nat → Int32) (σ : SD) : SD := (n1, σ.2.1, σ.2.2.1 + 1, W1, σ.2.2.2.2.1, σ.2.2.2.2.2.1, σ.2.2.2.2.2.2.1, σ.2.2.2.2.2.2.2.1, fun k => folV tp (σ.2.2.2.2.2.2.2.2.1 k), σ.2.2.2.2.2.2.2.2.2)
def insD (q : Nat) (w : Int32) (σ : SD) : SD := stepD (σ.1 + 1) (insW q w σ.2.2.2.1) (fun p => nI (insP q p)) σ
def remD (q : Nat) (σ : SD) : SD := stepD (σ.1 - 1) (remW q σ.2.2.2.1) (remP q) σ
def chgD (q : Nat) (w : Int32) (σ : SD) : SD := stepD σ.1 (upd σ.2.2.2.1 q w) (fun p => if p = q then -1 else nI p) σ
def movD (f k t : Nat) (σ : SD) : SD := stepD σ.1 (fun p => σ.2.2.2.1 (pasF t k f p)) (fun p => nI (pasF f k t p)) σ
theorem step_eqv {n m n1 : Nat} {ed : Int32} {W T U E P V W1 T1 U1 W2 tp : Nat → Int32} {F : Nat → Nat → Int32} {σ : SD} (h : Eqv (n, m, ed, W, T, U, E, P, V, F) σ) (hg : Good σ) (hW : ∀ p, p < n1 → W1 p = W2 p) (hT : ∀ p, p < 40 → T1 p = tp p) : Eqv (n1, m, ed + 1, W1, T1, U1, E, P, fill (fun k => atF 40 T1 (V k)) V m, F) (stepD n1 W2 tp σ) := by
  obtain ⟨h1, h2, h3, h4, h5, h6⟩ := h
  have h2' : m = σ.2.1 := h2
  have h3' : ed = σ.2.2.1 := h3
  refine ⟨rfl, h2, by show ed + 1 = _ + 1; rw [h3'], hW, h5, fun k hk => ?_⟩
  have hk' : k < σ.2.1 := hk
  obtain ⟨a1, a2, a3⟩ := h6 k hk'
  refine ⟨a1, ?_, a3⟩
  obtain ⟨-, ⟨g1, g2⟩, -⟩ := hg.2.2.2.2 k hk'
  have hn := hg.1
  show fill (fun k => atF 40 T1 (V k)) V m k = folV tp (σ.2.2.2.2.2.2.2.2.1 k)
  rw [fill_in (by omega)]
  show atF 40 T1 (V k) = _
  rw [show V k = σ.2.2.2.2.2.2.2.2.1 k from a2]
  unfold atF folV
  by_cases c : (σ.2.2.2.2.2.2.2.2.1 k).toInt < 0
  · rw [if_neg (by omega), if_pos c]
  · rw [if_pos (by omega), if_neg c]
    exact hT _ (by have := cl_toInt (x := σ.2.2.2.2.2.2.2.2.1 k) (by omega); omega)
def addD (x : Int32) (σ : SD) : SD := (σ.1, σ.2.1 + 1, σ.2.2.1, σ.2.2.2.1, σ.2.2.2.2.1, σ.2.2.2.2.2.1, σ.2.2.2.2.2.2.1, upd σ.2.2.2.2.2.2.2.1 σ.2.1 x, upd σ.2.2.2.2.2.2.2.2.1 σ.2.1 x, updF σ.2.2.2.2.2.2.2.2.2 σ.2.1 (lookF σ.1 σ.2.2.2.1 x))
def drpP (q : Nat) (P : Nat → Int32) : Nat → Int32 := fun k => if q ≤ k then P (k + 1) else P k
def dropD (q : Nat) (σ : SD) : SD := (σ.1, σ.2.1 - 1, σ.2.2.1, σ.2.2.2.1, σ.2.2.2.2.1, σ.2.2.2.2.2.1, σ.2.2.2.2.2.2.1, drpP q σ.2.2.2.2.2.2.2.1, drpP q σ.2.2.2.2.2.2.2.2.1, fun k => if q ≤ k then σ.2.2.2.2.2.2.2.2.2 (k + 1) else σ.2.2.2.2.2.2.2.2.2 k)
def setD (q : Nat) (x : Int32) (σ : SD) : SD := (σ.1, σ.2.1, σ.2.2.1, σ.2.2.2.1, σ.2.2.2.2.1, σ.2.2.2.2.2.1, upd σ.2.2.2.2.2.2.1 q x, σ.2.2.2.2.2.2.2.1, σ.2.2.2.2.2.2.2.2.1, σ.2.2.2.2.2.2.2.2.2)
def goD (a : Nat) (x : Int32) (σ : SD) : SD := (σ.1, σ.2.1, σ.2.2.1, σ.2.2.2.1, σ.2.2.2.2.1, σ.2.2.2.2.2.1, σ.2.2.2.2.2.2.1, upd σ.2.2.2.2.2.2.2.1 a x, σ.2.2.2.2.2.2.2.2.1, σ.2.2.2.2.2.2.2.2.2)
def remembD (a : Nat) (σ : SD) : SD := (σ.1, σ.2.1, σ.2.2.1, σ.2.2.2.1, σ.2.2.2.2.1, σ.2.2.2.2.2.1, σ.2.2.2.2.2.2.1, σ.2.2.2.2.2.2.2.1, upd σ.2.2.2.2.2.2.2.2.1 a (σ.2.2.2.2.2.2.2.1 a), updF σ.2.2.2.2.2.2.2.2.2 a (lookF σ.1 σ.2.2.2.1 (σ.2.2.2.2.2.2.2.1 a)))
theorem atF_cong {n : Nat} {W W' : Nat → Int32} (h : ∀ p, p < n → W p = W' p) (x : Int32) : atF n W x = atF n W' x := by
  unfold atF
  by_cases c : 0 ≤ x.toInt ∧ x.toInt < n
  · rw [if_pos c, if_pos c]; exact h _ (by have := cl_toInt (x := x) (by omega); omega)
  · rw [if_neg c, if_neg c]
theorem MV.mono {l : Launch} {y : MethodName} {ws : List Cond} {rm : Room} {D : va_G} {kc : Nat → ClassId} {N : Nat} {adr : Nat → Nat} {cell : Nat → va_E} {av : List Value} {post post' : (Nat → va_E) → Prop} (h : MV l y ws rm D kc N adr cell av post) (hp : ∀ cell1, post cell1 → post' cell1) : MV l y ws rm D kc N adr cell av post' := by
  intro sz p e ha hc hk s m args below hf happ hP hK
  obtain ⟨n, o, h1, h2, h3, ⟨⟨u, a1, a2, a3⟩, a4⟩, h5⟩ := h sz p e ha hc hk s m args below hf happ hP hK
  exact ⟨n, o, h1, h2, h3, ⟨⟨u, a1, hp u a2, a3⟩, a4⟩, h5⟩
theorem MI.mono {l : Launch} {y : MethodName} {ws : List Cond} {rm : Room} {D : va_G} {kc : Nat → ClassId} {N : Nat} {adr : Nat → Nat} {cell : Nat → va_E} {av : List Value} {post post' : Int32 → (Nat → va_E) → Prop} (h : MI l y ws rm D kc N adr cell av post) (hp : ∀ r cell1, post r cell1 → post' r cell1) : MI l y ws rm D kc N adr cell av post' := by
  intro sz p e ha hc hk s m args below hf happ hP hK
  obtain ⟨n, o, h1, h2, h3, ⟨⟨r, u, a1, a2, a3⟩, a4⟩, h5⟩ := h sz p e ha hc hk s m args below hf happ hP hK
  exact ⟨n, o, h1, h2, h3, ⟨⟨r, u, a1, hp r u a2, a3⟩, a4⟩, h5⟩
/-- what a call left: another state, that stands for f of what the old one stood for -/
def StNew (cell cell1 : Nat → va_E) (adr : Nat → Nat) (kc : Nat → ClassId) (b : Nat) (d : SD) (f : SD → SD) : Prop := ∃ d1 : SD, StAt cell1 adr kc b d1 ∧ (∀ σ : SD, Eqv d σ → Good σ → Eqv d1 (f σ)) ∧ ∀ j : Nat, (j < b ∨ b + 19 ≤ j) → cell1 j = cell j
theorem ins_new {cell cell1 : Nat → va_E} {adr : Nat → Nat} {kc : Nat → ClassId} {b n m q : Nat} {w ed : Int32} {W T U E P V : Nat → Int32} {F : Nat → Nat → Int32} (hq : q ≤ n) (h : ∃ W1 T1 U1 : Nat → Int32, StAt cell1 adr kc b (n + 1, m, ed + 1, W1, T1, U1, E, P, fill (fun k => atF 40 T1 (V k)) V m, F) ∧ (∀ p : Nat, p < n + 1 → W1 p = insW q w W p) ∧ (∀ p : Nat, p < 40 → T1 p = nI (insP q p)) ∧ ∀ j : Nat, (j < b ∨ b + 19 ≤ j) → cell1 j = cell j) : StNew cell cell1 adr kc b (n, m, ed, W, T, U, E, P, V, F) (insD q w) := by
  obtain ⟨W1, T1, U1, h1, h2, h3, h4⟩ := h
  refine ⟨_, h1, fun σ he hg => ?_, h4⟩
  have e1 : n = σ.1 := he.1
  subst e1
  refine step_eqv he hg (fun p hp => ?_) h3
  rw [h2 p hp]
  have hw := he.2.2.2.1
  unfold insW
  by_cases c1 : p < q
  · rw [if_pos c1, if_pos c1]; exact hw p (by omega)
  · rw [if_neg c1, if_neg c1]
    by_cases c2 : p = q
    · rw [if_pos c2, if_pos c2]
    · rw [if_neg c2, if_neg c2]; exact hw (p - 1) (by omega)
theorem rem_new {cell cell1 : Nat → va_E} {adr : Nat → Nat} {kc : Nat → ClassId} {b n m q : Nat} {ed : Int32} {W T U E P V : Nat → Int32} {F : Nat → Nat → Int32} (hq : q < n) (h : ∃ W1 T1 U1 : Nat → Int32, StAt cell1 adr kc b (n - 1, m, ed + 1, W1, T1, U1, E, P, fill (fun k => atF 40 T1 (V k)) V m, F) ∧ (∀ p : Nat, p < n - 1 → W1 p = remW q W p) ∧ (∀ p : Nat, p < 40 → T1 p = remP q p) ∧ ∀ j : Nat, (j < b ∨ b + 19 ≤ j) → cell1 j = cell j) : StNew cell cell1 adr kc b (n, m, ed, W, T, U, E, P, V, F) (remD q) := by
  obtain ⟨W1, T1, U1, h1, h2, h3, h4⟩ := h
  refine ⟨_, h1, fun σ he hg => ?_, h4⟩
  have e1 : n = σ.1 := he.1
  subst e1
  refine step_eqv he hg (fun p hp => ?_) h3
  rw [h2 p hp]
  have hw := he.2.2.2.1
  unfold remW
  by_cases c1 : p < q
  · rw [if_pos c1, if_pos c1]; exact hw p (by omega)
  · rw [if_neg c1, if_neg c1]; exact hw (p + 1) (by omega)
theorem chg_new {cell cell1 : Nat → va_E} {adr : Nat → Nat} {kc : Nat → ClassId} {b n m q : Nat} {w ed : Int32} {W T U E P V : Nat → Int32} {F : Nat → Nat → Int32} (h : ∃ W1 T1 U1 : Nat → Int32, StAt cell1 adr kc b (n, m, ed + 1, W1, T1, U1, E, P, fill (fun k => atF 40 T1 (V k)) V m, F) ∧ (∀ p : Nat, p < n → W1 p = upd W q w p) ∧ (∀ p : Nat, p < 40 → T1 p = (if p = q then -1 else nI p)) ∧ ∀ j : Nat, (j < b ∨ b + 19 ≤ j) → cell1 j = cell j) : StNew cell cell1 adr kc b (n, m, ed, W, T, U, E, P, V, F) (chgD q w) := by
  obtain ⟨W1, T1, U1, h1, h2, h3, h4⟩ := h
  refine ⟨_, h1, fun σ he hg => ?_, h4⟩
  have e1 : n = σ.1 := he.1
  subst e1
  refine step_eqv he hg (fun p hp => ?_) h3
  rw [h2 p hp]
  have hw := he.2.2.2.1
  by_cases c1 : p = q
  · rw [c1, upd_s, upd_s]
  · rw [upd_n c1, upd_n c1]; exact hw p hp
theorem mov_new {cell cell1 : Nat → va_E} {adr : Nat → Nat} {kc : Nat → ClassId} {b n m f k t : Nat} {ed : Int32} {W T U E P V : Nat → Int32} {F : Nat → Nat → Int32} (hq : f + k ≤ n ∧ t + k ≤ n) (h : ∃ W1 T1 U1 : Nat → Int32, StAt cell1 adr kc b (n, m, ed + 1, W1, T1, U1, E, P, fill (fun k => atF 40 T1 (V k)) V m, F) ∧ (∀ p : Nat, p < n → W1 p = W (pasF t k f p)) ∧ (∀ p : Nat, p < 40 → T1 p = nI (pasF f k t p)) ∧ ∀ j : Nat, (j < b ∨ b + 19 ≤ j) → cell1 j = cell j) : StNew cell cell1 adr kc b (n, m, ed, W, T, U, E, P, V, F) (movD f k t) := by
  obtain ⟨W1, T1, U1, h1, h2, h3, h4⟩ := h
  refine ⟨_, h1, fun σ he hg => ?_, h4⟩
  have e1 : n = σ.1 := he.1
  subst e1
  refine step_eqv he hg (fun p hp => ?_) h3
  rw [h2 p hp]
  exact he.2.2.2.1 _ (pas_lt hq.2 hq.1 hp)
theorem add_eqv {d σ : SD} {x : Int32} (he : Eqv d σ) : Eqv (d.1, d.2.1 + 1, d.2.2.1, d.2.2.2.1, d.2.2.2.2.1, d.2.2.2.2.2.1, d.2.2.2.2.2.2.1, upd d.2.2.2.2.2.2.2.1 d.2.1 x, upd d.2.2.2.2.2.2.2.2.1 d.2.1 x, updF d.2.2.2.2.2.2.2.2.2 d.2.1 (fill (lookF d.1 d.2.2.2.1 x) (d.2.2.2.2.2.2.2.2.2 d.2.1) 5)) (addD x σ) := by
  obtain ⟨h1, h2, h3, h4, h5, h6⟩ := he
  refine ⟨h1, by show d.2.1 + 1 = σ.2.1 + 1; rw [h2], h3, h4, h5, fun k hk => ?_⟩
  have hk' : k < σ.2.1 + 1 := hk
  show upd _ d.2.1 x k = upd _ σ.2.1 x k ∧ upd _ d.2.1 x k = upd _ σ.2.1 x k ∧ ∀ j, j < 5 → updF _ d.2.1 _ k j = updF _ σ.2.1 _ k j
  rw [h2]
  by_cases c : k = σ.2.1
  · subst c
    refine ⟨by rw [upd_s, upd_s], by rw [upd_s, upd_s], fun j hj => ?_⟩
    unfold updF
    rw [if_pos rfl, if_pos rfl, fill_in hj]
    unfold lookF
    rw [h1]
    exact atF_cong h4 _
  · obtain ⟨a1, a2, a3⟩ := h6 k (by omega)
    refine ⟨by rw [upd_n c, upd_n c]; exact a1, by rw [upd_n c, upd_n c]; exact a2, fun j hj => ?_⟩
    unfold updF
    rw [if_neg c, if_neg c]
    exact a3 j hj
theorem drop_eqv {d σ : SD} {q : Nat} (hq : q < d.2.1) (he : Eqv d σ) : Eqv (d.1, d.2.1 - 1, d.2.2.1, d.2.2.2.1, d.2.2.2.2.1, d.2.2.2.2.2.1, d.2.2.2.2.2.2.1, dn q d.2.1 d.2.2.2.2.2.2.2.1, dn q d.2.1 d.2.2.2.2.2.2.2.2.1, dnF q d.2.1 d.2.2.2.2.2.2.2.2.2) (dropD q σ) := by
  obtain ⟨h1, h2, h3, h4, h5, h6⟩ := he
  refine ⟨h1, by show d.2.1 - 1 = σ.2.1 - 1; rw [h2], h3, h4, h5, fun k hk => ?_⟩
  have hk' : k < σ.2.1 - 1 := hk
  show dn q d.2.1 d.2.2.2.2.2.2.2.1 k = drpP q σ.2.2.2.2.2.2.2.1 k ∧ dn q d.2.1 d.2.2.2.2.2.2.2.2.1 k = drpP q σ.2.2.2.2.2.2.2.2.1 k ∧ ∀ j, j < 5 → dnF q d.2.1 d.2.2.2.2.2.2.2.2.2 k j = (if q ≤ k then σ.2.2.2.2.2.2.2.2.2 (k + 1) else σ.2.2.2.2.2.2.2.2.2 k) j
  unfold dn dnF drpP
  by_cases c : q ≤ k
  · obtain ⟨a1, a2, a3⟩ := h6 (k + 1) (by omega)
    simp only [if_pos c, if_pos (show q ≤ k ∧ k + 1 < d.2.1 from by omega)]
    exact ⟨a1, a2, fun j hj => by rw [fill_in hj]; exact a3 j hj⟩
  · obtain ⟨a1, a2, a3⟩ := h6 k (by omega)
    simp only [if_neg c, if_neg (show ¬ (q ≤ k ∧ k + 1 < d.2.1) from by omega)]
    exact ⟨a1, a2, a3⟩
theorem set_eqv {d σ : SD} {q : Nat} {x : Int32} (he : Eqv d σ) : Eqv (d.1, d.2.1, d.2.2.1, d.2.2.2.1, d.2.2.2.2.1, d.2.2.2.2.2.1, upd d.2.2.2.2.2.2.1 q x, d.2.2.2.2.2.2.2.1, d.2.2.2.2.2.2.2.2.1, d.2.2.2.2.2.2.2.2.2) (setD q x σ) := by
  obtain ⟨h1, h2, h3, h4, h5, h6⟩ := he
  refine ⟨h1, h2, h3, h4, fun k hk => ?_, h6⟩
  show upd _ q x k = upd _ q x k
  by_cases c : k = q
  · rw [c, upd_s, upd_s]
  · rw [upd_n c, upd_n c]; exact h5 k hk
theorem cp_eqv {d d2 : SD} (hn : d2.1 ≤ 40) (hm : d2.2.1 ≤ 6) : Eqv (d2.1, d2.2.1, d2.2.2.1, fill (fun p => atF d2.1 d2.2.2.2.1 (nI p)) d.2.2.2.1 40, d.2.2.2.2.1, d.2.2.2.2.2.1, fill d2.2.2.2.2.2.2.1 d.2.2.2.2.2.2.1 5, fill d2.2.2.2.2.2.2.2.1 d.2.2.2.2.2.2.2.1 d2.2.1, fill d2.2.2.2.2.2.2.2.2.1 d.2.2.2.2.2.2.2.2.1 d2.2.1, fillF (fun k => fill (d2.2.2.2.2.2.2.2.2.2 k) (d.2.2.2.2.2.2.2.2.2 k) 5) d.2.2.2.2.2.2.2.2.2 d2.2.1) d2 := by
  refine ⟨rfl, rfl, rfl, fun p hp => ?_, fun k hk => fill_in hk, fun k hk => ⟨fill_in hk, fill_in hk, fun j hj => ?_⟩⟩
  · show fill (fun p => atF d2.1 d2.2.2.2.1 (nI p)) d.2.2.2.1 40 p = d2.2.2.2.1 p
    rw [fill_in (Nat.lt_of_lt_of_le hp hn)]; exact atF_nI hp (by omega)
  have e : fillF (fun k => fill (d2.2.2.2.2.2.2.2.2.2 k) (d.2.2.2.2.2.2.2.2.2 k) 5) d.2.2.2.2.2.2.2.2.2 d2.2.1 k = fill (d2.2.2.2.2.2.2.2.2.2 k) (d.2.2.2.2.2.2.2.2.2 k) 5 := if_pos hk
  exact (congrFun e j).trans (fill_in hj)
