theorem it0 : (Cond.instantiable RX0 3 : Cond) ∈ lw_tbl := tm1 _ (List.mem_of_getElem? (i := 47) (by decide +kernel))
theorem it1 : (Cond.instantiable RX1 3 : Cond) ∈ lw_tbl := tm1 _ (List.mem_of_getElem? (i := 125) (by decide +kernel))
theorem it2 : (Cond.instantiable RX2 6 : Cond) ∈ lw_tbl := tm1 _ (List.mem_of_getElem? (i := 99) (by decide +kernel))
theorem it3 : (Cond.instantiable RX3 3 : Cond) ∈ lw_tbl := tm1 _ (List.mem_of_getElem? (i := 80) (by decide +kernel))
theorem it4 : (Cond.instantiable RX4 4 : Cond) ∈ lw_tbl := tm1 _ (List.mem_of_getElem? (i := 26) (by decide +kernel))
theorem it5 : (Cond.instantiable RX5 5 : Cond) ∈ lw_tbl := tm1 _ (List.mem_of_getElem? (i := 20) (by decide +kernel))
theorem it6 : (Cond.instantiable RX6 6 : Cond) ∈ lw_tbl := tm1 _ (List.mem_of_getElem? (i := 12) (by decide +kernel))
theorem it7 : (Cond.instantiable RX7 12 : Cond) ∈ lw_tbl := tm3 _ (List.mem_of_getElem? (i := 159) (by decide +kernel))
theorem ac0 : (Cond.arrayClass .int : Cond) ∈ lw_tbl := tm1 _ (List.mem_of_getElem? (i := 44) (by decide +kernel))
theorem ac1 : (Cond.arrayClass .char : Cond) ∈ lw_tbl := tm1 _ (List.mem_of_getElem? (i := 123) (by decide +kernel))
theorem ao0 : (Cond.arrayOver (.object RX0) : Cond) ∈ lw_tbl := tm1 _ (List.mem_of_getElem? (i := 46) (by decide +kernel))
theorem ao5 : (Cond.arrayOver (.object RX5) : Cond) ∈ lw_tbl := tm1 _ (List.mem_of_getElem? (i := 86) (by decide +kernel))
theorem kn0 : (Cond.methodLinkNest RX5 11 yX4_init "WordAnchors" : Cond) ∈ lw_tbl := tm1 _ (List.mem_of_getElem? (i := 27) (by decide +kernel))
theorem kn1 : (Cond.methodLinkNest RX5 28 yX0_init "WordAnchors" : Cond) ∈ lw_tbl := tm1 _ (List.mem_of_getElem? (i := 48) (by decide +kernel))
theorem kn2 : (Cond.methodLinkNest RX6 28 yX2_init "WordAnchors" : Cond) ∈ lw_tbl := tm1 _ (List.mem_of_getElem? (i := 100) (by decide +kernel))
theorem kn3 : (Cond.methodLinkNest RX6 35 yX1_init "WordAnchors" : Cond) ∈ lw_tbl := tm1 _ (List.mem_of_getElem? (i := 126) (by decide +kernel))
theorem kn4 : (Cond.methodLinkNest RX6 42 yX0_init "WordAnchors" : Cond) ∈ lw_tbl := tm1 _ (List.mem_of_getElem? (i := 141) (by decide +kernel))
theorem ls0 : (Cond.laysStatic "WordAnchors" "GREATEST_SETTINGS" "[I" : Cond) ∈ lw_tbl := tm2 _ (List.mem_of_getElem? (i := 150) (by decide +kernel))
theorem in6 : (Cond.initialized RX6 : Cond) ∈ lw_tbl := tm1 _ (List.mem_of_getElem? (i := 1) (by decide +kernel))
theorem in7 : (Cond.initialized RX7 : Cond) ∈ lw_tbl := tm1 _ (List.mem_of_getElem? (i := 8) (by decide +kernel))
theorem cl6 : (Cond.classLink RL 7 RX6 : Cond) ∈ lw_tbl := tm1 _ (List.mem_of_getElem? (i := 11) (by decide +kernel))
theorem cl7 : (Cond.classLink RL 10 RX7 : Cond) ∈ lw_tbl := tm3 _ (List.mem_of_getElem? (i := 158) (by decide +kernel))
theorem ml6 : (Cond.methodLink RL 9 yX6_init : Cond) ∈ lw_tbl := tm1 _ (List.mem_of_getElem? (i := 13) (by decide +kernel))
theorem ml7 : (Cond.methodLink RL 12 yX7_init : Cond) ∈ lw_tbl := tm3 _ (List.mem_of_getElem? (i := 160) (by decide +kernel))
theorem im6 : (Cond.instanceMethod yX6_init : Cond) ∈ lw_tbl := tm1 _ (List.mem_of_getElem? (i := 14) (by decide +kernel))
theorem im7 : (Cond.instanceMethod yX7_init : Cond) ∈ lw_tbl := tm3 _ (List.mem_of_getElem? (i := 161) (by decide +kernel))
/-! THE LAW: what its start gives -/
theorem law_K {args : Array Value} {s : State} (hts : ∀ w ∈ lw_tbl, w.before args s = true) : ∃ (D : va_G) (kc : Nat → ClassId), va_K D vwCl (tyl kc) s := by
  obtain ⟨c0, i0, k0⟩ := u_known hts inX0 (hts _ it0)
  obtain ⟨c1, i1, k1⟩ := u_known hts inX1 (hts _ it1)
  obtain ⟨c2, i2, k2⟩ := u_known hts inX2 (hts _ it2)
  obtain ⟨c3, i3, k3⟩ := u_known hts inX3 (hts _ it3)
  obtain ⟨c4, i4, k4⟩ := u_known hts inX4 (hts _ it4)
  obtain ⟨c5, i5, k5⟩ := u_known hts inX5 (hts _ it5)
  obtain ⟨c6, i6, k6⟩ := u_known hts inX6 (hts _ it6)
  obtain ⟨c7, i7, k7⟩ := u_known hts inX7 (hts _ it7)
  obtain ⟨a0, b0, p0, e01, e02, e03⟩ := Cond.arrayClass_spec (hts _ ac0)
  obtain ⟨a1, b1, p1, e11, e12, e13⟩ := Cond.arrayClass_spec (hts _ ac1)
  obtain ⟨p2, a2, b2, e21, -, e22, e23, e24⟩ := Cond.arrayOver_spec (hts _ ao0)
  obtain ⟨p3, a3, b3, e31, -, e32, e33, e34⟩ := Cond.arrayOver_spec (hts _ ao5)
  refine ⟨(fun c => match c with | 0 => c0 | 1 => c1 | 2 => c2 | 3 => c3 | 4 => c4 | 5 => c5 | 6 => c6 | _ => c7, fun c => match c with | 0 => i0 | 1 => i1 | 2 => i2 | 3 => i3 | 4 => i4 | 5 => i5 | 6 => i6 | _ => i7), fun k => match k with | 0 => a0 | 1 => a1 | 2 => a2 | _ => a3, fun c q hq => ?_, fun k q hk => ?_⟩
  · match c, hq with
    | 0, hq => cases hq; exact k0
    | 1, hq => cases hq; exact k1
    | 2, hq => cases hq; exact k2
    | 3, hq => cases hq; exact k3
    | 4, hq => cases hq; exact k4
    | 5, hq => cases hq; exact k5
    | 6, hq => cases hq; exact k6
    | 7, hq => cases hq; exact k7
    | n + 8, hq => cases hq
  · match k, hk with
    | 0, hk => cases hk; exact ⟨fun N z => ⟨(fun k h => by cases h), b0, e02, p0, e03⟩, e01⟩
    | 1, hk => cases hk; exact ⟨fun N z => ⟨(fun k h => by cases h), b1, e12, p1, e13⟩, e11⟩
    | 2, hk => cases hk; exact ⟨fun N z => ⟨(fun k h => by cases h), b2, e22, p2, e23⟩, b2, p2, e22, e23, e21, e24⟩
    | 3, hk => cases hk; exact ⟨fun N z => ⟨(fun k h => by cases h), b3, e32, p3, e33⟩, b3, p3, e32, e33, e31, e34⟩
    | n + 4, hk => cases hk
theorem law_AO {args : Array Value} {s : State} (hts : ∀ w ∈ lw_tbl, w.before args s = true) : AO2 s :=
  ⟨va_AO.of (hts _ ao0), va_AO.of (hts _ ao5), List.forall_mem_cons.mpr ⟨va_Nw.of rfl (hts _ kn0), List.forall_mem_cons.mpr ⟨va_Nw.of rfl (hts _ kn1), List.forall_mem_cons.mpr ⟨va_Nw.of rfl (hts _ kn2), List.forall_mem_cons.mpr ⟨va_Nw.of rfl (hts _ kn3), List.forall_mem_cons.mpr ⟨va_Nw.of rfl (hts _ kn4), fun _ h => absurd h List.not_mem_nil⟩⟩⟩⟩⟩⟩
abbrev AL (s : State) : Nat → Prop := fun q : Nat => s.heap.size ≤ q
theorem law_Z {b : Nat} {s : State} (hts : ∀ w ∈ lw_tbl, w.before #[Value.ref b] s = true) (hgv : (Jvm.Cond.and given_1 narrow_1).before #[Value.ref b] s = true) : Zs (AL s) s := by
  have hs := flat_of_before _ hgv
  have hA : ∀ a : Nat, a < s.heap.size → ¬ AL s a := fun a h q => absurd q (Nat.not_le.mpr h)
  have harr : (Cond.arrayOf (.static "WordAnchors" "GREATEST_SETTINGS" "[I") .int).before #[Value.ref b] s = true := hs _ (by decide +kernel)
  have hlen : (Cond.eq (.length (.static "WordAnchors" "GREATEST_SETTINGS" "[I")) (.int 5)).before #[Value.ref b] s = true := hs _ (by decide +kernel)
  have h0 : (Cond.eq (.elem (.static "WordAnchors" "GREATEST_SETTINGS" "[I") (.int 0)) (.int 20)).before #[Value.ref b] s = true := hs _ (by decide +kernel)
  have h1 : (Cond.eq (.elem (.static "WordAnchors" "GREATEST_SETTINGS" "[I") (.int 1)) (.int 20)).before #[Value.ref b] s = true := hs _ (by decide +kernel)
  have h2 : (Cond.eq (.elem (.static "WordAnchors" "GREATEST_SETTINGS" "[I") (.int 2)) (.int 20)).before #[Value.ref b] s = true := hs _ (by decide +kernel)
  have h3 : (Cond.eq (.elem (.static "WordAnchors" "GREATEST_SETTINGS" "[I") (.int 3)) (.int 60)).before #[Value.ref b] s = true := hs _ (by decide +kernel)
  have h4 : (Cond.eq (.elem (.static "WordAnchors" "GREATEST_SETTINGS" "[I") (.int 4)) (.int 60)).before #[Value.ref b] s = true := hs _ (by decide +kernel)
  obtain ⟨t, ht, hT⟩ := va_Tof (N := 5) (f := fun j => .int (gsI j)) (A := AL s) (by decide) harr (va_eqt hlen) (fun j hj => by
    match j, hj with
    | 0, _ => exact va_eqt h0
    | 1, _ => exact va_eqt h1
    | 2, _ => exact va_eqt h2
    | 3, _ => exact va_eqt h3
    | 4, _ => exact va_eqt h4) hA
  exact ⟨t, va_Zof (hts _ ls0) (hts _ in6) ht hA, hT⟩
/-! a call of one object leaves the other one's cells -/
section LAWROWS
variable {p : Program} {l : Launch} {e : Env} {R : Room} {s : State} {m : MethodId} {args : Array Value} {below : List Frame} {meth : Method} {c : Code} {D : va_G} {N N2 : Nat} {adr adr2 : Nat → Nat} {A : Nat → Prop} {nL ka kn : Nat} {Q : State → Prop} {cell cell2 : Nat → va_E} {pc : Nat} {lv : List (Nat × Value)} {st rest : List Value} {cc : ByteArray} {own : String} {Ts : List Cond} {kc : Nat → ClassId}
theorem keep2 {H H1 : Heap} (hap : ∀ i j, i < N → j < N2 → adr i ≠ adr2 j) (hP2 : va_P D vwCl (wld N2 adr2 cell2) H) (hk1 : ∀ q : Nat, q < H.size → ¬ AA N adr H.size q → H1[q]? = H[q]?) : va_P D vwCl (wld N2 adr2 cell2) H1 := hP2.kept (fun k q hk => by
  obtain ⟨hkl, rfl⟩ := wld_of hk
  have hlt : adr2 k < H.size := (hP2 k _ hk).lt
  exact hk1 _ hlt (fun h => h.elim (fun ⟨i, hi, e⟩ => hap i k hi hkl e) (fun h => absurd hlt (Nat.not_lt.mpr h))))
theorem lw_call (C : CX p s m args c cc own Ts D kc N adr A s.heap nL) (hap : ∀ i j, i < N → j < N2 → adr i ≠ adr2 j) {y : MethodName} {ws : List Cond} {rm : Room} {C0 : String} {T : u_T} {M maxL n index : Nat} {bytes : ByteArray} {ret : Option FieldType} {post : Int32 → (Nat → va_E) → Prop} (As : List Value) (ci : Nat) (hi : 0 < N) {fs : List Value} (he : cell 0 = .inr (ci, fs)) (hc : vwCl[ci]? = some (C0, T, M)) (hM : MI l y ws rm D kc N adr cell (.ref (adr 0) :: As) post) (cw : CallW R s args own C0 index y bytes maxL ret ws rm 0 0 n) (hn : As.length = n) (hst : st = As.reverse ++ .ref (adr 0) :: rest) (hW : (rest.map fun v => v.category).sum ≤ 8) (h1 : ka ≤ R.cells) (h2 : kn ≤ R.slots) (d : decode cc pc = .ok (.invokevirtual index, 3)) {H : Heap} {locs : List Loc} {ls : Array Slot} (hP : va_P D vwCl (wld N adr cell) H) (hP2 : va_P D vwCl (wld N2 adr2 cell2) H) (hS : va_S A s.heap H locs) (hl : lv_has ls nL lv)
    (kk : ∀ (r : Int32) (cell1 : Nat → va_E) (H1 : Heap) (locs1 : List Loc), post r cell1 → va_P D vwCl (wld N adr cell1) H1 → va_P D vwCl (wld N2 adr2 cell2) H1 → va_S A s.heap H1 locs1 → W p l e R s m args below meth c H1 locs1 ka kn Q (F0 m (pc + 3) ls (.int r :: rest))) : W p l e R s m args below meth c H locs ka kn Q (F0 m pc ls st) := by
  subst hst
  exact va_calli (va_runV (As := As) (rest := rest) ⟨C.1, C.2.1, C.2.2.1, C.2.2.2.1, C.2.2.2.2.1⟩ (hM H.size) cw ⟨blindPre, va_recv C.2.2.2.2.2.1 hP hc (wld_at hi he), fun U hU hW => ⟨rfl, preP C hP hU hW⟩⟩ rfl hn hl.1 rfl (lv_room hW) d ⟨h1, h2⟩) hS (fun q _ h => aaF C hS q h) (aaF C hS) (fun r u t H1 locs1 ht hvm hw hB hz1 hk1 hS1 => kk r u H1 locs1 hw (ht ▸ hB) (keep2 hap hP2 hk1) hS1)
theorem lw_callZ (C : CX p s m args c cc own Ts D kc N adr A s.heap nL) (hap : ∀ i j, i < N → j < N2 → adr i ≠ adr2 j) (hZ : Zs A s) {y : MethodName} {ws : List Cond} {rm : Room} {C0 : String} {T : u_T} {M maxL n index : Nat} {bytes : ByteArray} {ret : Option FieldType} {post : Int32 → (Nat → va_E) → Prop} (As : List Value) (ci : Nat) (hi : 0 < N) {fs : List Value} (he : cell 0 = .inr (ci, fs)) (hc : vwCl[ci]? = some (C0, T, M)) (hM : MIZ l y ws rm D kc N adr cell (.ref (adr 0) :: As) post) (cw : CallW R s args own C0 index y bytes maxL ret ws rm 0 0 n) (hn : As.length = n) (hst : st = As.reverse ++ .ref (adr 0) :: rest) (hW : (rest.map fun v => v.category).sum ≤ 8) (h1 : ka ≤ R.cells) (h2 : kn ≤ R.slots) (d : decode cc pc = .ok (.invokevirtual index, 3)) {H : Heap} {locs : List Loc} {ls : Array Slot} (hP : va_P D vwCl (wld N adr cell) H) (hP2 : va_P D vwCl (wld N2 adr2 cell2) H) (hS : va_S A s.heap H locs) (hl : lv_has ls nL lv)
    (kk : ∀ (r : Int32) (cell1 : Nat → va_E) (H1 : Heap) (locs1 : List Loc), post r cell1 → va_P D vwCl (wld N adr cell1) H1 → va_P D vwCl (wld N2 adr2 cell2) H1 → va_S A s.heap H1 locs1 → W p l e R s m args below meth c H1 locs1 ka kn Q (F0 m (pc + 3) ls (.int r :: rest))) : W p l e R s m args below meth c H locs ka kn Q (F0 m pc ls st) := by
  subst hst
  obtain ⟨t, z1, z2⟩ := hZ
  exact va_calli (va_runV (As := As) (rest := rest) ⟨C.1, C.2.1, C.2.2.1, C.2.2.2.1, C.2.2.2.2.1⟩ (hM H.size) cw ⟨blindPreZ, va_recv C.2.2.2.2.2.1 hP hc (wld_at hi he), fun U hU hW => ⟨rfl, preP C hP hU hW, t, by rw [hU]; exact va_Z.moved hW.alike ((z1.kept hS.2.1).narrow (aaF C hS)), by rw [hU]; exact va_T.moved hW.alike ((z2.kept hS.2.1).narrow (aaF C hS))⟩⟩ rfl hn hl.1 rfl (lv_room hW) d ⟨h1, h2⟩) hS (fun q _ h => aaF C hS q h) (aaF C hS) (fun r u t H1 locs1 ht hvm hw hB hz1 hk1 hS1 => kk r u H1 locs1 hw (ht ▸ hB) (keep2 hap hP2 hk1) hS1)
end LAWROWS
/-! what the calls leave is good, also its settings -/
def GE (σ : SD) : Prop := Good σ ∧ ∀ k, k < 5 → 0 ≤ (σ.2.2.2.2.2.2.1 k).toInt
theorem ge_s00 : GE s00 := by
  refine ⟨⟨by decide, by decide, fun p hp => absurd hp (Nat.not_lt_zero p), fun k hk => ?_, fun k hk => absurd hk (Nat.not_lt_zero k)⟩, fun k hk => ?_⟩
  · match k, hk with
    | 0, _ => decide
    | 1, _ => decide
    | 2, _ => decide
  · match k, hk with
    | 0, _ => decide
    | 1, _ => decide
    | 2, _ => decide
    | 3, _ => decide
    | 4, _ => decide
theorem ge_nx {σ : SD} {hn : Nat} {hi : Nat → SD} {o : Option SD} (hg : GE σ) (hh : ∀ i, i < hn → GE (hi i)) (h4 : hn ≤ 4) (ho : ∀ s, o = some s → GE s) : GE (nxS σ o) ∧ ∀ i, i < nxN hn o → GE (nxH σ hn hi o i) := by
  cases o with
  | none => exact ⟨hg, hh⟩
  | some s =>
    refine ⟨ho s rfl, fun i hi1 => ?_⟩
    show GE (rcH hn hi σ i)
    have hi2 : i < rcN hn := hi1
    unfold rcN at hi2
    unfold rcH
    by_cases c : hn < 4
    · simp only [if_pos c] at hi2 ⊢
      by_cases e : i = hn
      · rw [if_pos e]; exact hg
      · rw [if_neg e]; exact hh i (by omega)
    · simp only [if_neg c] at hi2 ⊢
      by_cases e : i = 3
      · rw [if_pos e]; exact hg
      · rw [if_neg e]; exact hh (i + 1) (by omega)
theorem ge_put {σ : SD} {p w : Int32} (hg : GE σ) : ∀ s, putO σ p w = some s → GE s := by
  intro s h
  unfold putO at h
  by_cases c : (InR p 0 σ.1 ∧ InR w 0 99) ∧ ¬ 40 ≤ σ.1
  · rw [if_pos c] at h; cases h
    have hz := cl_toInt (x := p) c.1.1.1
    exact ⟨good_ins hg.1 (by have := c.1.1.2; omega) (by omega) c.1.2, hg.2⟩
  · rw [if_neg c] at h; cases h
theorem ge_take {σ : SD} {p : Int32} (hg : GE σ) : ∀ s, takeO σ p = some s → GE s := by
  intro s h
  unfold takeO at h
  by_cases c : 0 ≤ p.toInt ∧ p.toInt < σ.1
  · rw [if_pos c] at h; cases h
    have hz := cl_toInt (x := p) c.1
    exact ⟨good_rem hg.1 (by omega), hg.2⟩
  · rw [if_neg c] at h; cases h
theorem ge_change {σ : SD} {p w : Int32} (hg : GE σ) : ∀ s, changeO σ p w = some s → GE s := by
  intro s h
  unfold changeO at h
  by_cases c : (0 ≤ p.toInt ∧ p.toInt < σ.1) ∧ InR w 0 99
  · rw [if_pos c] at h; cases h
    exact ⟨good_chg hg.1 c.2, hg.2⟩
  · rw [if_neg c] at h; cases h
theorem ge_move {σ : SD} {f k t : Int32} (hg : GE σ) : ∀ s, moveO σ f k t = some s → GE s := by
  intro s h
  unfold moveO at h
  by_cases c : CSh σ.1 f k t
  · rw [if_pos c] at h; cases h
    obtain ⟨c1, c2, c3, c4, c5, c6⟩ := c
    have h1 := cl_toInt (x := f) c1
    have h2 := cl_toInt (x := k) (by omega)
    have h3 := cl_toInt (x := t) c5
    exact ⟨good_mov hg.1 (by omega) (by omega), hg.2⟩
  · rw [if_neg c] at h; cases h
theorem ge_anchor {σ : SD} {x : Int32} (hg : GE σ) : ∀ s, anchorO σ x = some s → GE s := by
  intro s h
  unfold anchorO at h
  by_cases c : (0 ≤ x.toInt ∧ x.toInt < σ.1) ∧ ¬ 6 ≤ σ.2.1
  · rw [if_pos c] at h; cases h
    exact ⟨good_add hg.1 c.1 (by omega), hg.2⟩
  · rw [if_neg c] at h; cases h
theorem ge_drop {σ : SD} {x : Int32} (hg : GE σ) : ∀ s, dropO σ x = some s → GE s := by
  intro s h
  unfold dropO at h
  by_cases c : InA σ x
  · rw [if_pos c] at h; cases h
    exact ⟨good_drop hg.1, hg.2⟩
  · rw [if_neg c] at h; cases h
theorem ge_find {σ : SD} {x : Int32} (hg : GE σ) : ∀ s, findO σ x = some s → GE s := by
  intro s h
  unfold findO at h
  by_cases c : InA σ x ∧ ¬ aL σ x.toNatClampNeg (aB σ x.toNatClampNeg (-1)) = true
  · rw [if_pos c] at h; cases h
    have hn := hg.1.1
    refine ⟨good_go hg.1 ?_, hg.2⟩
    rcases aB_rng σ hn x.toNatClampNeg (-1) with q | ⟨q, h1, h2⟩
    · exact absurd q (aL_none c.2)
    · rw [h2, nI_toInt (by omega)]; omega
  · rw [if_neg c] at h; cases h
theorem ge_findAll {σ : SD} (hg : GE σ) : ∀ s, findAllO σ = some s → GE s := by
  intro s h
  cases h
  exact ⟨good_fa hg.1, hg.2⟩
theorem ge_remember {σ : SD} {x : Int32} (hg : GE σ) : ∀ s, rememberO σ x = some s → GE s := by
  intro s h
  unfold rememberO at h
  by_cases c : InA σ x ∧ (0 ≤ (σ.2.2.2.2.2.2.2.1 x.toNatClampNeg).toInt ∧ (σ.2.2.2.2.2.2.2.1 x.toNatClampNeg).toInt < σ.1)
  · rw [if_pos c] at h; cases h
    have hz := cl_toInt (x := x) c.1.1
    have hx := c.1.2
    exact ⟨good_rememb hg.1 (by omega) c.2.2, hg.2⟩
  · rw [if_neg c] at h; cases h
theorem ge_set {σ : SD} {x v : Int32} (hg : GE σ) : ∀ s, setO σ x v = some s → GE s := by
  intro s h
  unfold setO at h
  by_cases c : SOk x v
  · rw [if_pos c] at h; cases h
    have hz := cl_toInt (x := x) c.1.1
    obtain ⟨c1, c2, c3⟩ := c
    refine ⟨good_set hg.1 (fun h3 => ⟨c2, ?_⟩), fun k hk => ?_⟩
    · have : gsF x = 20 := if_pos (by omega)
      omega
    · show 0 ≤ (upd _ x.toNatClampNeg v k).toInt
      by_cases e : k = x.toNatClampNeg
      · rw [e, upd_s]; exact c2
      · rw [upd_n e]; exact hg.2 k hk
  · rw [if_neg c] at h; cases h
theorem apE_E {T : Nat} {ch : Nat → Int32} {a : Nat} {s : SD} : (apE T ch a s).2.2.2.2.2.2.1 = s.2.2.2.2.2.2.1 := by
  unfold apE apD
  (repeat' split) <;> rfl
theorem rh_E {T : Nat} {ch : Nat → Int32} : ∀ {f a : Nat} {s : SD}, (rhF T ch f a s).2.2.2.2.2.2.2.2.1 = s.2.2.2.2.2.2.1
  | 0, a, s => rfl
  | f + 1, a, s => by
    by_cases c : a < T
    · cases he : edF T ch a with
      | none => rw [rh_none (by omega) c he]
      | some e =>
        by_cases hr : flE T ch a s = 0
        · rw [rh_ok (by omega) c he hr]; exact rh_E.trans apE_E
        · rw [rh_bad (by omega) c he hr]
    · rw [rh_end c]
theorem ge_play {σ : SD} {T : Nat} {ch : Nat → Int32} (hg : GE σ) : ∀ s, playO σ T ch = some s → GE s := by
  intro s h
  unfold playO at h
  by_cases c : (rhF T ch 60 0 σ).1 = 0
  · rw [if_pos c] at h; cases h
    exact ⟨rh_good hg.1, fun k hk => by rw [rh_E]; exact hg.2 k hk⟩
  · rw [if_neg c] at h; cases h
/-- both objects, and what they stand for -/
def LI (D : va_G) (kc : Nat → ClassId) (s : State) (ax am : Nat → Nat) (H : Heap) (locs : List Loc) : Prop := ∃ (cx cm : Nat → va_E) (σ : SD) (hn : Nat) (hi : Nat → SD) (T : Nat) (ch : Nat → Int32), va_P D vwCl (wld 125 ax cx) H ∧ va_P D vwCl (wld 9 am cm) H ∧ va_S (AL s) s.heap H locs ∧ XAt cx ax kc σ hn hi T ch ∧ MAt cm am kc σ hn hi T ch ∧ GE σ ∧ ∀ i, i < hn → GE (hi i)
theorem MAt.h4 {cell : Nat → va_E} {adr : Nat → Nat} {kc : Nat → ClassId} {σ : SD} {hn : Nat} {hi : Nat → SD} {L : Nat} {ch : Nat → Int32} (h : MAt cell adr kc σ hn hi L ch) : hn ≤ 4 := by
  obtain ⟨_, _, _, _, _, _, _, _, _, _, _, _, _, _, h4, _⟩ := h
  exact h4
theorem MAt.c0 {cell : Nat → va_E} {adr : Nat → Nat} {kc : Nat → ClassId} {σ : SD} {hn : Nat} {hi : Nat → SD} {L : Nat} {ch : Nat → Int32} (h : MAt cell adr kc σ hn hi L ch) : ∃ fs : List Value, cell 0 = .inr (7, fs) := by
  obtain ⟨_, _, _, _, _, _, _, _, _, _, hB, _, _, _, _, _⟩ := h
  exact ⟨_, hB.1⟩
def LCtx (p : Program) (s : State) (m : MethodId) (meth : Method) (c : Code) (b L : Nat) (xs : Nat → Int32) (D : va_G) (kc : Nat → ClassId) (ax am : Nat → Nat) : Prop := lw_At p s m meth c b L xs ∧ CX p s m #[Value.ref b] c cL_law RL wsL_law D kc 125 ax (AL s) s.heap 4 ∧ CX p s m #[Value.ref b] c cL_law RL wsL_law D kc 9 am (AL s) s.heap 4 ∧ (∀ i j, i < 125 → j < 9 → ax i ≠ am j) ∧ Zs (AL s) s ∧ L ≤ 2048
theorem wouldTakeM {l : Launch} {D : va_G} {kc : Nat → ClassId} {adr : Nat → Nat} {cell : Nat → va_E} (σ : SD) (hn : Nat) (hi : Nat → SD) (T : Nat) (ch : Nat → Int32) (x y : Int32) (hM : MAt cell adr kc σ hn hi T ch) (hG : Good σ) : MI l yX7_wouldTake wsX7_wouldTake ({ frames := 8, cells := 0, slots := 0, locals := 185 }) D kc 9 adr cell [.ref (adr 0), .int x, .int y] (fun v cell1 => wouldTakeR σ x y = v ∧ MAt cell1 adr kc σ hn hi T ch) := by
  obtain ⟨S, Wa, Bg, As, tx, at', re, nu, mo, sh, hB, hS, hH, htx, hh4, hL60⟩ := hM
  exact (c_X7_wouldTake l D kc 9 adr cell S Wa Bg As tx (nI hn) (nI T) at' re nu mo sh σ x y hB (Nat.le_refl 9) hS hG).mono (fun v cell1 h => by
    obtain ⟨h1, S1, As1, h2, h3⟩ := h
    exact ⟨h1, _, _, _, _, _, _, _, _, _, _, h2, h3, hH, htx, hh4, hL60⟩)
