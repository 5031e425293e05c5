/-! MORE OF x: single anchors that change, the text, the history -/
def ancD (k : Nat) (p v : Int32) (f : Nat → Int32) (d : SD) : SD := (d.1, d.2.1, d.2.2.1, d.2.2.2.1, d.2.2.2.2.1, d.2.2.2.2.2.1, d.2.2.2.2.2.2.1, upd d.2.2.2.2.2.2.2.1 k p, upd d.2.2.2.2.2.2.2.2.1 k v, updF d.2.2.2.2.2.2.2.2.2 k f)
theorem StAt.anc {cell cell1 : Nat → va_E} {adr : Nat → Nat} {kc : Nat → ClassId} {b k : Nat} {d : SD} {p v : Int32} {f : Nat → Int32} (h : StAt cell adr kc b d) (hk : k < 6) (ha : AncAt cell1 adr kc (b + 7 + 2 * k) p v f) (hf : ∀ j : Nat, (j ≠ b + 7 + 2 * k ∧ j ≠ b + 7 + 2 * k + 1) → cell1 j = cell j) : StAt cell1 adr kc b (ancD k p v f d) := by
  obtain ⟨h0, ⟨r0, r1, r2, r3, hn⟩, ⟨g, h5, hg⟩, h6, hA, hm⟩ := h
  refine ⟨(hf _ (by omega)).trans h0, ⟨(hf _ (by omega)).trans r0, (hf _ (by omega)).trans r1, (hf _ (by omega)).trans r2, (hf _ (by omega)).trans r3, hn⟩, ⟨g, (hf _ (by omega)).trans h5, hg⟩, (hf _ (by omega)).trans h6, ?_, hm⟩
  refine AnsAt.put (i := k) hA ?_ hf (fun i hi e => ⟨upd_n e, upd_n e, if_neg e⟩)
  show AncAt cell1 adr kc (b + 7 + 2 * k) (upd _ k p k) (upd _ k v k) (updF _ k f k)
  rw [upd_s, upd_s, show updF d.2.2.2.2.2.2.2.2.2 k f k = f from if_pos rfl]
  exact ha
theorem StAt.putP {cell cell1 : Nat → va_E} {adr : Nat → Nat} {kc : Nat → ClassId} {b k : Nat} {d : SD} {P1 : Nat → Int32} (h : StAt cell adr kc b d) (ha : AncAt cell1 adr kc (b + 7 + 2 * k) (P1 k) (d.2.2.2.2.2.2.2.2.1 k) (d.2.2.2.2.2.2.2.2.2 k)) (hk : k < 6) (hf : ∀ j : Nat, (j ≠ b + 7 + 2 * k ∧ j ≠ b + 7 + 2 * k + 1) → cell1 j = cell j) (ho : ∀ i, i < 6 → i ≠ k → P1 i = d.2.2.2.2.2.2.2.1 i) : StAt cell1 adr kc b (d.1, d.2.1, d.2.2.1, d.2.2.2.1, d.2.2.2.2.1, d.2.2.2.2.2.1, d.2.2.2.2.2.2.1, P1, d.2.2.2.2.2.2.2.2.1, d.2.2.2.2.2.2.2.2.2) := by
  obtain ⟨h0, ⟨r0, r1, r2, r3, hn⟩, ⟨g, h5, hg⟩, h6, hA, hm⟩ := h
  refine ⟨(hf _ (by omega)).trans h0, ⟨(hf _ (by omega)).trans r0, (hf _ (by omega)).trans r1, (hf _ (by omega)).trans r2, (hf _ (by omega)).trans r3, hn⟩, ⟨g, (hf _ (by omega)).trans h5, hg⟩, (hf _ (by omega)).trans h6, ?_, hm⟩
  exact AnsAt.put (i := k) hA ha hf (fun i hi e => ⟨ho i hi e, rfl, rfl⟩)
theorem go_eqv {d σ : SD} {k : Nat} {x : Int32} (he : Eqv d σ) : Eqv (ancD k x (d.2.2.2.2.2.2.2.2.1 k) (d.2.2.2.2.2.2.2.2.2 k) d) (goD k x σ) := by
  obtain ⟨h1, h2, h3, h4, h5, h6⟩ := he
  refine ⟨h1, h2, h3, h4, h5, fun i hi => ?_⟩
  have hi' : i < σ.2.1 := hi
  obtain ⟨a1, a2, a3⟩ := h6 i hi'
  show upd _ k x i = upd _ k x i ∧ upd d.2.2.2.2.2.2.2.2.1 k (d.2.2.2.2.2.2.2.2.1 k) i = σ.2.2.2.2.2.2.2.2.1 i ∧ ∀ j, j < 5 → updF d.2.2.2.2.2.2.2.2.2 k (d.2.2.2.2.2.2.2.2.2 k) i j = σ.2.2.2.2.2.2.2.2.2 i j
  by_cases c : i = k
  · subst c; exact ⟨by rw [upd_s, upd_s], by rw [upd_s]; exact a2, fun j hj => by rw [show updF d.2.2.2.2.2.2.2.2.2 i (d.2.2.2.2.2.2.2.2.2 i) i = d.2.2.2.2.2.2.2.2.2 i from if_pos rfl]; exact a3 j hj⟩
  · exact ⟨by rw [upd_n c, upd_n c]; exact a1, by rw [upd_n c]; exact a2, fun j hj => by rw [show updF d.2.2.2.2.2.2.2.2.2 k (d.2.2.2.2.2.2.2.2.2 k) i = d.2.2.2.2.2.2.2.2.2 i from if_neg c]; exact a3 j hj⟩
theorem rememb_eqv {d σ : SD} {k : Nat} (he : Eqv d σ) (hk : k < σ.2.1) : Eqv (ancD k (d.2.2.2.2.2.2.2.1 k) (d.2.2.2.2.2.2.2.1 k) (fill (lookF d.1 d.2.2.2.1 (d.2.2.2.2.2.2.2.1 k)) (d.2.2.2.2.2.2.2.2.2 k) 5) d) (remembD k σ) := by
  obtain ⟨h1, h2, h3, h4, h5, h6⟩ := he
  refine ⟨h1, h2, h3, h4, h5, fun i hi => ?_⟩
  have hi' : i < σ.2.1 := hi
  obtain ⟨a1, a2, a3⟩ := h6 i hi'
  obtain ⟨b1, b2, b3⟩ := h6 k hk
  show upd d.2.2.2.2.2.2.2.1 k (d.2.2.2.2.2.2.2.1 k) i = σ.2.2.2.2.2.2.2.1 i ∧ upd d.2.2.2.2.2.2.2.2.1 k (d.2.2.2.2.2.2.2.1 k) i = upd σ.2.2.2.2.2.2.2.2.1 k (σ.2.2.2.2.2.2.2.1 k) i ∧ ∀ j, j < 5 → updF d.2.2.2.2.2.2.2.2.2 k (fill (lookF d.1 d.2.2.2.1 (d.2.2.2.2.2.2.2.1 k)) (d.2.2.2.2.2.2.2.2.2 k) 5) i j = updF σ.2.2.2.2.2.2.2.2.2 k (lookF σ.1 σ.2.2.2.1 (σ.2.2.2.2.2.2.2.1 k)) i j
  by_cases c : i = k
  · subst c
    refine ⟨by rw [upd_s]; exact a1, by rw [upd_s, upd_s]; exact a1, fun j hj => ?_⟩
    unfold updF; rw [if_pos rfl, if_pos rfl, fill_in hj]
    unfold lookF; rw [h1, a1]; exact atF_cong h4 _
  · refine ⟨by rw [upd_n c]; exact a1, by rw [upd_n c, upd_n c]; exact a2, fun j hj => ?_⟩
    unfold updF; rw [if_neg c, if_neg c]; exact a3 j hj
theorem mov_eqv {n m f k t : Nat} {ed : Int32} {W T U E P V W1 T1 U1 : Nat → Int32} {F : Nat → Nat → Int32} {σ : SD} (hq : f + k ≤ n ∧ t + k ≤ n) (he : Eqv (n, m, ed, W, T, U, E, P, V, F) σ) (hg : Good σ) (h2 : ∀ p : Nat, p < n → W1 p = W (pasF t k f p)) (h3 : ∀ p : Nat, p < 40 → T1 p = nI (pasF f k t p)) : Eqv (n, m, ed + 1, W1, T1, U1, E, P, fill (fun k => atF 40 T1 (V k)) V m, F) (movD f k t σ) := by
  have e1 : n = σ.1 := he.1
  subst e1
  refine step_eqv he hg (fun p hp => ?_) h3
  rw [h2 p hp]
  exact he.2.2.2.1 _ (pas_lt hq.2 hq.1 hp)
theorem fa_eqv {d σ : SD} {i : Nat} (he : Eqv d σ) : Eqv (faD d i) (faD σ i) := by
  have he0 := he
  obtain ⟨h1, h2, h3, h4, h5, h6⟩ := he
  refine ⟨h1, h2, h3, h4, h5, fun k hk => ?_⟩
  have hk' : k < σ.2.1 := hk
  obtain ⟨a1, a2, a3⟩ := h6 k hk'
  refine ⟨?_, a2, a3⟩
  show (if k < i then d.2.2.2.2.2.2.2.1 k + aH d k else d.2.2.2.2.2.2.2.1 k) = (if k < i then σ.2.2.2.2.2.2.2.1 k + aH σ k else σ.2.2.2.2.2.2.2.1 k)
  rw [eH he0 hk', a1]
theorem i2c_id {x : Int32} (h0 : 0 ≤ x.toInt) (h1 : x.toInt < 65536) : (x.toUInt32 % 65536).toInt32 = x := by
  have h := nI_cl h0
  have hc := cl_toInt h0
  generalize x.toNatClampNeg = q at h hc
  subst h
  rw [pk_char]
  congr 1
  rw [pk_tn (by omega)]; omega
def typeR (L : Nat) (x : Int32) : Int32 := if ¬ InR x 32 126 then -1000001 else if 60 ≤ L then -1000003 else nI (L + 1)
abbrev tyOk (L : Nat) (x : Int32) : Prop := InR x 32 126 ∧ ¬ 60 ≤ L
def typeL (L : Nat) (x : Int32) : Nat := if tyOk L x then L + 1 else L
def typeC (L : Nat) (ch : Nat → Int32) (x : Int32) : Nat → Int32 := if tyOk L x then upd ch L x else ch
def undoR (hn : Nat) : Int32 := if hn = 0 then -1000002 else nI (hn - 1)
def undoS (σ : SD) (hn : Nat) (hi : Nat → SD) : SD := if hn = 0 then σ else hi (hn - 1)
