theorem it0 : (Cond.instantiable RX0 3 : Cond) ∈ lw_tbl := tm1 _ (List.mem_of_getElem? (i := 46) (by decide +kernel))
theorem it1 : (Cond.instantiable RX1 3 : Cond) ∈ lw_tbl := tm1 _ (List.mem_of_getElem? (i := 121) (by decide +kernel))
theorem it2 : (Cond.instantiable RX2 6 : Cond) ∈ lw_tbl := tm1 _ (List.mem_of_getElem? (i := 98) (by decide +kernel))
theorem it3 : (Cond.instantiable RX3 3 : Cond) ∈ lw_tbl := tm1 _ (List.mem_of_getElem? (i := 79) (by decide +kernel))
theorem it4 : (Cond.instantiable RX4 4 : Cond) ∈ lw_tbl := tm1 _ (List.mem_of_getElem? (i := 25) (by decide +kernel))
theorem it5 : (Cond.instantiable RX5 5 : Cond) ∈ lw_tbl := tm1 _ (List.mem_of_getElem? (i := 19) (by decide +kernel))
theorem it6 : (Cond.instantiable RX6 6 : Cond) ∈ lw_tbl := tm1 _ (List.mem_of_getElem? (i := 11) (by decide +kernel))
theorem ac0 : (Cond.arrayClass .int : Cond) ∈ lw_tbl := tm1 _ (List.mem_of_getElem? (i := 43) (by decide +kernel))
theorem ac1 : (Cond.arrayClass .char : Cond) ∈ lw_tbl := tm1 _ (List.mem_of_getElem? (i := 119) (by decide +kernel))
theorem ao0 : (Cond.arrayOver (.object RX0) : Cond) ∈ lw_tbl := tm1 _ (List.mem_of_getElem? (i := 45) (by decide +kernel))
theorem ao5 : (Cond.arrayOver (.object RX5) : Cond) ∈ lw_tbl := tm1 _ (List.mem_of_getElem? (i := 85) (by decide +kernel))
theorem kn0 : (Cond.methodLinkNest RX5 11 yX4_init "WordAnchors" : Cond) ∈ lw_tbl := tm1 _ (List.mem_of_getElem? (i := 26) (by decide +kernel))
theorem kn1 : (Cond.methodLinkNest RX5 28 yX0_init "WordAnchors" : Cond) ∈ lw_tbl := tm1 _ (List.mem_of_getElem? (i := 47) (by decide +kernel))
theorem kn2 : (Cond.methodLinkNest RX6 28 yX2_init "WordAnchors" : Cond) ∈ lw_tbl := tm1 _ (List.mem_of_getElem? (i := 99) (by decide +kernel))
theorem kn3 : (Cond.methodLinkNest RX6 35 yX1_init "WordAnchors" : Cond) ∈ lw_tbl := tm1 _ (List.mem_of_getElem? (i := 122) (by decide +kernel))
theorem kn4 : (Cond.methodLinkNest RX6 42 yX0_init "WordAnchors" : Cond) ∈ lw_tbl := tm1 _ (List.mem_of_getElem? (i := 137) (by decide +kernel))
theorem in6 : (Cond.initialized RX6 : Cond) ∈ lw_tbl := tm1 _ (List.mem_of_getElem? (i := 1) (by decide +kernel))
theorem cl6 : (Cond.classLink RL 9 RX6 : Cond) ∈ lw_tbl := tm1 _ (List.mem_of_getElem? (i := 10) (by decide +kernel))
theorem ml6 : (Cond.methodLink RL 63 yX6_init : Cond) ∈ lw_tbl := tm1 _ (List.mem_of_getElem? (i := 12) (by decide +kernel))
theorem im6 : (Cond.instanceMethod yX6_init : Cond) ∈ lw_tbl := tm1 _ (List.mem_of_getElem? (i := 13) (by decide +kernel))
theorem law_K {args : Array Value} {s : State} (hts : ∀ w ∈ lw_tbl, w.before args s = true) : ∃ (D : va_G) (kc : Nat → ClassId), va_K D vwCl (tyl kc) s := by
  obtain ⟨c0, i0, k0⟩ := u_known hts inX0 (hts _ it0)
  obtain ⟨c1, i1, k1⟩ := u_known hts inX1 (hts _ it1)
  obtain ⟨c2, i2, k2⟩ := u_known hts inX2 (hts _ it2)
  obtain ⟨c3, i3, k3⟩ := u_known hts inX3 (hts _ it3)
  obtain ⟨c4, i4, k4⟩ := u_known hts inX4 (hts _ it4)
  obtain ⟨c5, i5, k5⟩ := u_known hts inX5 (hts _ it5)
  obtain ⟨c6, i6, k6⟩ := u_known hts inX6 (hts _ it6)
  obtain ⟨a0, b0, p0, e01, e02, e03⟩ := Cond.arrayClass_spec (hts _ ac0)
  obtain ⟨a1, b1, p1, e11, e12, e13⟩ := Cond.arrayClass_spec (hts _ ac1)
  obtain ⟨p2, a2, b2, e21, -, e22, e23, e24⟩ := Cond.arrayOver_spec (hts _ ao0)
  obtain ⟨p3, a3, b3, e31, -, e32, e33, e34⟩ := Cond.arrayOver_spec (hts _ ao5)
  refine ⟨(fun c => match c with | 0 => c0 | 1 => c1 | 2 => c2 | 3 => c3 | 4 => c4 | 5 => c5 | _ => c6, fun c => match c with | 0 => i0 | 1 => i1 | 2 => i2 | 3 => i3 | 4 => i4 | 5 => i5 | _ => i6), fun k => match k with | 0 => a0 | 1 => a1 | 2 => a2 | _ => a3, fun c q hq => ?_, fun k q hk => ?_⟩
  · match c, hq with
    | 0, hq => cases hq; exact k0
    | 1, hq => cases hq; exact k1
    | 2, hq => cases hq; exact k2
    | 3, hq => cases hq; exact k3
    | 4, hq => cases hq; exact k4
    | 5, hq => cases hq; exact k5
    | 6, hq => cases hq; exact k6
    | n + 7, hq => cases hq
  · match k, hk with
    | 0, hk => cases hk; exact ⟨fun N z => ⟨(fun k h => by cases h), b0, e02, p0, e03⟩, e01⟩
    | 1, hk => cases hk; exact ⟨fun N z => ⟨(fun k h => by cases h), b1, e12, p1, e13⟩, e11⟩
    | 2, hk => cases hk; exact ⟨fun N z => ⟨(fun k h => by cases h), b2, e22, p2, e23⟩, b2, p2, e22, e23, e21, e24⟩
    | 3, hk => cases hk; exact ⟨fun N z => ⟨(fun k h => by cases h), b3, e32, p3, e33⟩, b3, p3, e32, e33, e31, e34⟩
    | n + 4, hk => cases hk
theorem law_AO {args : Array Value} {s : State} (hts : ∀ w ∈ lw_tbl, w.before args s = true) : AO2 s :=
  ⟨va_AO.of (hts _ ao0), va_AO.of (hts _ ao5), List.forall_mem_cons.mpr ⟨va_Nw.of rfl (hts _ kn0), List.forall_mem_cons.mpr ⟨va_Nw.of rfl (hts _ kn1), List.forall_mem_cons.mpr ⟨va_Nw.of rfl (hts _ kn2), List.forall_mem_cons.mpr ⟨va_Nw.of rfl (hts _ kn3), List.forall_mem_cons.mpr ⟨va_Nw.of rfl (hts _ kn4), fun _ h => absurd h List.not_mem_nil⟩⟩⟩⟩⟩⟩
abbrev AL (s : State) : Nat → Prop := fun q : Nat => s.heap.size ≤ q
