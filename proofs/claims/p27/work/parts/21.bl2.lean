set_option maxRecDepth 100000 in
set_option maxHeartbeats 4000000 in
theorem c_X1_gather (l : Launch) (D : va_G) (kc : Nat → ClassId) (N : Nat) (adr : Nat → Nat) (cell : Nat → va_E) (z sz : Nat) (Sf Mf : Nat → Int32) (b n m : Nat) (ed : Int32) (W T U E P V : Nat → Int32) (F : Nat → Nat → Int32) (hB : BlAt cell adr kc z sz Sf Mf) (hNz : z + 3 ≤ N) (hSt : StAt cell adr kc b (n, m, ed, W, T, U, E, P, V, F)) (hN : b + 19 ≤ N) (hd : z + 3 ≤ b ∨ b + 19 ≤ z) : MV l yX1_gather wsX1_gather ({ frames := 5, cells := 0, slots := 0, locals := 118 }) D kc N adr cell [.ref (adr z), .ref (adr b)] (fun (cell1 : Nat → va_E) => BlAt cell1 adr kc z (gaF (fun k => shiftF n W E (F k) (P k)) Sf Mf m).1 (gaF (fun k => shiftF n W E (F k) (P k)) Sf Mf m).2.1 (gaF (fun k => shiftF n W E (F k) (P k)) Sf Mf m).2.2 ∧ ∀ j : Nat, (j < z ∨ z + 3 ≤ j) → cell1 j = cell j) := by
  refine met_v (cc := cX1_gather) (maxL := 4) (ret := none) (by decide) rfl (Nat.le_of_ble_eq_true rfl) (lv := [(0, .ref (adr z)), (1, .ref (adr b))]) rfl ?_
  intro Pg Ev Sv Mi args below Me Cd Ar C hr hlk hnm
  have in1 : ∀ w ∈ u_ws RX1 TX1 3, w ∈ wsX1_gather := by decide +kernel
  have f18 := C.2.2.2.2.1 (.fieldLink RX1 18 "WordAnchors$Blocks" "size" "I") (by decide +kernel)
  obtain ⟨z0, z1, z2, hz6⟩ := hB
  have hSt0 := hSt
  obtain ⟨s0, hRw, ⟨gg, s5, hg⟩, s6, hAn, hm⟩ := hSt
  have s0 : cell b = .inr (5, [.ref (adr (b + 1)), .ref (adr (b + 5)), .ref (adr (b + 6)), .int (nI m), .int ed]) := s0
  have hRw : RowAt cell adr kc (b + 1) W T U n := hRw
  have s6 : cell (b + 6) = .inl (kc 0, 5, .inl E) := s6
  have hAn : AnsAt cell adr kc b P V F := hAn
  have hm : m ≤ 6 := hm
  obtain ⟨r0, r1, r2, r3, hn⟩ := hRw
  have litm1 : ((-1) : Int32).toInt = -1 := rfl
  have lit0 : (0 : Int32).toInt = 0 := rfl
  have lit1 : (1 : Int32).toInt = 1 := rfl
  have tn_sz : (nI sz).toInt = ((sz : Nat) : Int) := nI_toInt (by omega)
  have tn_n : (nI n).toInt = ((n : Nat) : Int) := nI_toInt (by omega)
  have tn_m : (nI m).toInt = ((m : Nat) : Int) := nI_toInt (by omega)
  refine g_aload_n C 0 rfl dX1_gather_0 ?_
  refine g_iconst C 0 (by decide) dX1_gather_1 ?_
  refine g_put C z 1 2 (by omega) z0 rfl in1 tyX1 tyX1_ok nmX1 (by decide) f18 (fun _ h9 => h9) rfl (ty := .int) (by decide +kernel) rfl rfl (Nat.le_of_ble_eq_true rfl) dX1_gather_2 ?_
  refine g_cell (fun cell1 ec1 => ?_)
  have h_2 : cell1 z = .inr (1, [.ref (adr (z + 1)), .ref (adr (z + 2)), .int 0]) := by rw [ec1]; exact va_up_self _ _ _
  have h_3 : cell1 (z + 1) = .inl (kc 0, 6, .inl Sf) := by rw [ec1, va_up_ne _ _ (by omega)]; exact z1
  have h_4 : cell1 (z + 2) = .inl (kc 0, 6, .inl Mf) := by rw [ec1, va_up_ne _ _ (by omega)]; exact z2
  have h_5 : cell1 b = .inr (5, [.ref (adr (b + 1)), .ref (adr (b + 5)), .ref (adr (b + 6)), .int (nI m), .int ed]) := by rw [ec1, va_up_ne _ _ (by omega)]; exact s0
  have h_6 : cell1 (b + 1) = .inr (4, [.ref (adr (b + 1 + 1)), .ref (adr (b + 1 + 2)), .ref (adr (b + 1 + 3)), .int (nI n)]) := by rw [ec1, va_up_ne _ _ (by omega)]; exact r0
  have h_7 : cell1 (b + 1 + 1) = .inl (kc 0, 40, .inl W) := by rw [ec1, va_up_ne _ _ (by omega)]; exact r1
  have h_8 : cell1 (b + 1 + 2) = .inl (kc 0, 40, .inl T) := by rw [ec1, va_up_ne _ _ (by omega)]; exact r2
  have h_9 : cell1 (b + 1 + 3) = .inl (kc 0, 40, .inl U) := by rw [ec1, va_up_ne _ _ (by omega)]; exact r3
  have h_10 : cell1 (b + 5) = .inl (kc 2, 6, .inr (.inr (.inr (.inr gg)))) := by rw [ec1, va_up_ne _ _ (by omega)]; exact s5
  have h_11 : cell1 (b + 6) = .inl (kc 0, 5, .inl E) := by rw [ec1, va_up_ne _ _ (by omega)]; exact s6
  have h_12 : AnsAt cell1 adr kc b P V F := AnsAt.frame hAn (fun j h1 h2 => by rw [ec1, va_up_ne _ _ (by omega)])
  have fr_13 : ∀ j : Nat, (j < z ∨ z + 3 ≤ j) → cell1 j = cell j := fun j hj => by rw [ec1, va_up_ne _ _ (by omega)]
  refine g_iconst C 0 (by decide) dX1_gather_5 ?_
  refine g_istore_n C [(2, .int 0), (0, .ref (adr z)), (1, .ref (adr b))] (by decide) rfl dX1_gather_6 ?_
  have L7 : ∀ (fu i : Nat) (cl : Nat → va_E) , i ≤ m → m < i + fu → (y0 : cl z = .inr (1, [.ref (adr (z + 1)), .ref (adr (z + 2)), .int (nI (gaF (fun k => shiftF n W E (F k) (P k)) Sf Mf i).1)])) → (y1 : cl (z + 1) = .inl (kc 0, 6, .inl ((gaF (fun k => shiftF n W E (F k) (P k)) Sf Mf i).2.1))) → (y2 : cl (z + 2) = .inl (kc 0, 6, .inl ((gaF (fun k => shiftF n W E (F k) (P k)) Sf Mf i).2.2))) → (t0 : cl b = .inr (5, [.ref (adr (b + 1)), .ref (adr (b + 5)), .ref (adr (b + 6)), .int (nI m), .int ed])) → (t1 : cl (b + 1) = .inr (4, [.ref (adr (b + 1 + 1)), .ref (adr (b + 1 + 2)), .ref (adr (b + 1 + 3)), .int (nI n)])) → (t2 : cl (b + 1 + 1) = .inl (kc 0, 40, .inl W)) → (t3 : cl (b + 1 + 2) = .inl (kc 0, 40, .inl T)) → (t4 : cl (b + 1 + 3) = .inl (kc 0, 40, .inl U)) → (t5 : cl (b + 5) = .inl (kc 2, 6, .inr (.inr (.inr (.inr gg))))) → (t6 : cl (b + 6) = .inl (kc 0, 5, .inl E)) → (t7 : AnsAt cl adr kc b P V F) → (frl7 : ∀ j : Nat, (j < z ∨ z + 3 ≤ j) → cl j = cell j) → G Pg l Ev (headSpec wsX1_gather { frames := 5, cells := 0, slots := 0, locals := 118 }).room Sv Mi args below Me Cd D N adr Ar Sv.heap 4 0 0 (MQ below (va_Qv (fun (cell1 : Nat → va_E) => BlAt cell1 adr kc z (gaF (fun k => shiftF n W E (F k) (P k)) Sf Mf m).1 (gaF (fun k => shiftF n W E (F k) (P k)) Sf Mf m).2.1 (gaF (fun k => shiftF n W E (F k) (P k)) Sf Mf m).2.2 ∧ ∀ j : Nat, (j < z ∨ z + 3 ≤ j) → cell1 j = cell j) (fun (cell1 : Nat → va_E) (t : State) => va_P D vwCl (wld N adr cell1) t.heap) Ar) args Sv 0 0 Ar) cl 7 [(0, .ref (adr z)), (1, .ref (adr b)), (2, .int (nI i))] ([] : List Value) := by
    intro fu
    induction fu with
    | zero => intro i cl  hle hfu; exact absurd hfu (by omega)
    | succ fu ih =>
      intro i cl  hle7 hfu7 y0 y1 y2 t0 t1 t2 t3 t4 t5 t6 t7 frl7 
      have tn_i : (nI i).toInt = ((i : Nat) : Int) := nI_toInt (by omega)
      have hgl := gaF_le (sh := (fun k => shiftF n W E (F k) (P k))) (Sf := Sf) (Mf := Mf) i
      refine g_iload_n C 2 rfl dX1_gather_7 ?_
      refine g_aload_n C 1 rfl dX1_gather_8 ?_
      refine g_Vi C [] b 5 (by omega) t0 rfl (c_X5_anchorCount l D kc N adr cl b n m ed W T U E P V F  ⟨t0, ⟨t1, t2, t3, t4, by omega⟩, ⟨gg, t5, hg⟩, t6, t7, (by show m ≤ 6; omega)⟩ (by omega)) (cwV 0 C.2.2.2.2.1 gX1_gather_X5_anchorCount rfl rfl rfl (by decide +kernel) ⟨Nat.le_of_ble_eq_true rfl, Nat.le_of_ble_eq_true rfl⟩) rfl rfl (Nat.le_of_ble_eq_true rfl) (Nat.zero_le _) (Nat.zero_le _) dX1_gather_9 (fun v14 cell14 q14 => ?_)
      obtain ⟨rfl, rfl⟩ := q14
      refine g_icmp_ge C 41 (by decide) dX1_gather_12 (fun c12 => ?_) (fun c12 => ?_)
      · -- taken at 12
        have c12' := i_le c12
        obtain rfl : m = i := by omega
        refine g_vret C hr hlk dX1_gather_41 ?_
        have hgl := gaF_le (sh := (fun k => shiftF n W E (F k) (P k))) (Sf := Sf) (Mf := Mf) m
        exact ⟨⟨y0, y1, y2, by omega⟩, frl7⟩
      · -- not taken at 12
        have c12' := i_nle c12
        refine g_aload_n C 1 rfl dX1_gather_15 ?_
        refine g_aload_n C 1 rfl dX1_gather_16 ?_
        refine g_iload_n C 2 rfl dX1_gather_17 ?_
        refine g_Vq C [.int (nI i)] b 5 (by omega) t0 rfl (c_X5_anchorNumbered l D kc N adr cl b n m ed W T U E P V F (nI i) ⟨t0, ⟨t1, t2, t3, t4, by omega⟩, ⟨gg, t5, hg⟩, t6, t7, (by show m ≤ 6; omega)⟩ (by omega)) (cwV 1 C.2.2.2.2.1 gX1_gather_X5_anchorNumbered rfl rfl rfl (by decide +kernel) ⟨Nat.le_of_ble_eq_true rfl, Nat.le_of_ble_eq_true rfl⟩) rfl rfl (Nat.le_of_ble_eq_true rfl) (Nat.zero_le _) (Nat.zero_le _) dX1_gather_18 (fun v15 cell15 q15 => ?_)
        obtain ⟨rfl, rfl⟩ := q15
        refine g_eqst (st1 := ([.ref (adr (b + 7 + 2 * i)), .ref (adr b)] : List Value)) (by rw [if_pos (by omega), nI_clamp (by omega)]; rfl) ?_
        have ha_16 := t7 i (by omega)
        refine g_Vi C [.ref (adr (b + 7 + 2 * i))] b 5 (by omega) t0 rfl (c_X5_shiftOf l D kc N adr cl b n m ed W T U E P V F (b + 7 + 2 * i) (P i) (V i) (F i)  ⟨t0, ⟨t1, t2, t3, t4, by omega⟩, ⟨gg, t5, hg⟩, t6, t7, (by show m ≤ 6; omega)⟩ (by omega) ⟨ha_16.1, ha_16.2⟩ (by omega)) (cwV 1 C.2.2.2.2.1 gX1_gather_X5_shiftOf rfl rfl rfl (by decide +kernel) ⟨Nat.le_of_ble_eq_true rfl, Nat.le_of_ble_eq_true rfl⟩) rfl rfl (Nat.le_of_ble_eq_true rfl) (Nat.zero_le _) (Nat.zero_le _) dX1_gather_21 (fun v17 cell17 q17 => ?_)
        obtain ⟨rfl, rfl⟩ := q17
        refine g_istore_n C [(3, .int (shiftF n W E (F i) (P i))), (0, .ref (adr z)), (1, .ref (adr b)), (2, .int (nI i))] (by decide) rfl dX1_gather_24 ?_
        refine g_iload_n C 0 rfl dX1_gather_25 ?_
        refine g_if_eq C 35 (by decide) dX1_gather_26 (fun c26 => ?_) (fun c26 => ?_)
        · -- taken at 26
          have c26' := i_eq c26
          refine g_iinc C 3 [(2, .int (nI (i + 1))), (3, .int (shiftF n W E (F i) (P i))), (0, .ref (adr z)), (1, .ref (adr b))] rfl (iinc_nI i) (by decide) rfl dX1_gather_35 ?_
          refine g_goto C 7 (by decide) dX1_gather_38 ?_
          have hgs : gaF (fun k => shiftF n W E (F k) (P k)) Sf Mf (i + 1) = gaF (fun k => shiftF n W E (F k) (P k)) Sf Mf i := if_pos c26
          refine g_sub [2, 3, 0] rfl ?_
          have hx_18 : cl z = .inr (1, [.ref (adr (z + 1)), .ref (adr (z + 2)), .int (nI (gaF (fun k => shiftF n W E (F k) (P k)) Sf Mf (i + 1)).1)]) := by rw [y0]; rw [hgs]
          have hx_19 : cl (z + 1) = .inl (kc 0, 6, .inl ((gaF (fun k => shiftF n W E (F k) (P k)) Sf Mf (i + 1)).2.1)) := y1.trans (congrArg (fun f0 : Nat → Int32 => (.inl (kc 0, 6, .inl f0) : va_E)) (show ((gaF (fun k => shiftF n W E (F k) (P k)) Sf Mf i).2.1) = ((gaF (fun k => shiftF n W E (F k) (P k)) Sf Mf (i + 1)).2.1) from by rw [hgs]))
          have hx_20 : cl (z + 2) = .inl (kc 0, 6, .inl ((gaF (fun k => shiftF n W E (F k) (P k)) Sf Mf (i + 1)).2.2)) := y2.trans (congrArg (fun f0 : Nat → Int32 => (.inl (kc 0, 6, .inl f0) : va_E)) (show ((gaF (fun k => shiftF n W E (F k) (P k)) Sf Mf i).2.2) = ((gaF (fun k => shiftF n W E (F k) (P k)) Sf Mf (i + 1)).2.2) from by rw [hgs]))
          exact ih (i + 1) _ (by omega) (by omega) hx_18 hx_19 hx_20 t0 t1 t2 t3 t4 t5 t6 t7 frl7 
        · -- not taken at 26
          have c26' := i_ne c26
          refine g_aload_n C 1 rfl dX1_gather_29 ?_
          refine g_iload_n C 3 rfl dX1_gather_30 ?_
          refine g_iload_n C 0 rfl dX1_gather_31 ?_
          refine g_Vv C [.int (nI i), .int (shiftF n W E (F i) (P i))] z 1 (by omega) y0 rfl (c_X1_enter l D kc N adr cl z (gaF (fun k => shiftF n W E (F k) (P k)) Sf Mf i).1 (gaF (fun k => shiftF n W E (F k) (P k)) Sf Mf i).2.1 (gaF (fun k => shiftF n W E (F k) (P k)) Sf Mf i).2.2 i (shiftF n W E (F i) (P i)) ⟨y0, y1, y2, by omega⟩ (by omega) ⟨by omega, by omega⟩) (cwV 2 C.2.2.2.2.1 gX1_gather_X1_enter rfl rfl rfl (by decide +kernel) ⟨Nat.le_of_ble_eq_true rfl, Nat.le_of_ble_eq_true rfl⟩) rfl rfl (Nat.le_of_ble_eq_true rfl) (Nat.zero_le _) (Nat.zero_le _) dX1_gather_32 (fun cell21 q21 => ?_)
          obtain ⟨⟨g_22, g_23, g_24, g_25⟩, gf_26⟩ := q21
          have h_27 : cell21 b = .inr (5, [.ref (adr (b + 1)), .ref (adr (b + 5)), .ref (adr (b + 6)), .int (nI m), .int ed]) := (gf_26 b (by omega)).trans t0
          have h_28 : cell21 (b + 1) = .inr (4, [.ref (adr (b + 1 + 1)), .ref (adr (b + 1 + 2)), .ref (adr (b + 1 + 3)), .int (nI n)]) := (gf_26 (b + 1) (by omega)).trans t1
          have h_29 : cell21 (b + 1 + 1) = .inl (kc 0, 40, .inl W) := (gf_26 (b + 1 + 1) (by omega)).trans t2
          have h_30 : cell21 (b + 1 + 2) = .inl (kc 0, 40, .inl T) := (gf_26 (b + 1 + 2) (by omega)).trans t3
          have h_31 : cell21 (b + 1 + 3) = .inl (kc 0, 40, .inl U) := (gf_26 (b + 1 + 3) (by omega)).trans t4
          have h_32 : cell21 (b + 5) = .inl (kc 2, 6, .inr (.inr (.inr (.inr gg)))) := (gf_26 (b + 5) (by omega)).trans t5
          have h_33 : cell21 (b + 6) = .inl (kc 0, 5, .inl E) := (gf_26 (b + 6) (by omega)).trans t6
          have h_34 : AnsAt cell21 adr kc b P V F := AnsAt.frame t7 (fun j h1 h2 => gf_26 j (by omega))
          have fr_35 : ∀ j : Nat, (j < z ∨ z + 3 ≤ j) → cell21 j = cell j := fun j hj => (gf_26 j (by omega)).trans (frl7 j hj)
          refine g_iinc C 3 [(2, .int (nI (i + 1))), (3, .int (shiftF n W E (F i) (P i))), (0, .ref (adr z)), (1, .ref (adr b))] rfl (iinc_nI i) (by decide) rfl dX1_gather_35 ?_
          refine g_goto C 7 (by decide) dX1_gather_38 ?_
          have hgs : gaF (fun k => shiftF n W E (F k) (P k)) Sf Mf (i + 1) = enF i (shiftF n W E (F i) (P i)) (gaF (fun k => shiftF n W E (F k) (P k)) Sf Mf i) := if_neg c26
          refine g_sub [2, 3, 0] rfl ?_
          have hx_36 : cell21 z = .inr (1, [.ref (adr (z + 1)), .ref (adr (z + 2)), .int (nI (gaF (fun k => shiftF n W E (F k) (P k)) Sf Mf (i + 1)).1)]) := by rw [g_22]; rw [hgs]
          have hx_37 : cell21 (z + 1) = .inl (kc 0, 6, .inl ((gaF (fun k => shiftF n W E (F k) (P k)) Sf Mf (i + 1)).2.1)) := g_23.trans (congrArg (fun f0 : Nat → Int32 => (.inl (kc 0, 6, .inl f0) : va_E)) (show ((enF i (shiftF n W E (F i) (P i)) (gaF (fun k => shiftF n W E (F k) (P k)) Sf Mf i)).2.1) = ((gaF (fun k => shiftF n W E (F k) (P k)) Sf Mf (i + 1)).2.1) from by rw [hgs]))
          have hx_38 : cell21 (z + 2) = .inl (kc 0, 6, .inl ((gaF (fun k => shiftF n W E (F k) (P k)) Sf Mf (i + 1)).2.2)) := g_24.trans (congrArg (fun f0 : Nat → Int32 => (.inl (kc 0, 6, .inl f0) : va_E)) (show ((enF i (shiftF n W E (F i) (P i)) (gaF (fun k => shiftF n W E (F k) (P k)) Sf Mf i)).2.2) = ((gaF (fun k => shiftF n W E (F k) (P k)) Sf Mf (i + 1)).2.2) from by rw [hgs]))
          exact ih (i + 1) _ (by omega) (by omega) hx_36 hx_37 hx_38 h_27 h_28 h_29 h_30 h_31 h_32 h_33 h_34 fr_35 
  refine g_sub [1, 2, 0] rfl ?_
  have hx_39 : cell1 z = .inr (1, [.ref (adr (z + 1)), .ref (adr (z + 2)), .int (nI (gaF (fun k => shiftF n W E (F k) (P k)) Sf Mf 0).1)]) := by rw [h_2]; rfl
  have hx_40 : cell1 (z + 1) = .inl (kc 0, 6, .inl ((gaF (fun k => shiftF n W E (F k) (P k)) Sf Mf 0).2.1)) := h_3.trans (congrArg (fun f0 : Nat → Int32 => (.inl (kc 0, 6, .inl f0) : va_E)) (show Sf = ((gaF (fun k => shiftF n W E (F k) (P k)) Sf Mf 0).2.1) from by rfl))
  have hx_41 : cell1 (z + 2) = .inl (kc 0, 6, .inl ((gaF (fun k => shiftF n W E (F k) (P k)) Sf Mf 0).2.2)) := h_4.trans (congrArg (fun f0 : Nat → Int32 => (.inl (kc 0, 6, .inl f0) : va_E)) (show Mf = ((gaF (fun k => shiftF n W E (F k) (P k)) Sf Mf 0).2.2) from by rfl))
  exact L7 (m + 1) 0 _ (by omega) (by omega) hx_39 hx_40 hx_41 h_5 h_6 h_7 h_8 h_9 h_10 h_11 h_12 fr_13 
