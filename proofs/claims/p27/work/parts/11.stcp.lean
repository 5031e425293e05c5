set_option maxRecDepth 100000 in
set_option maxHeartbeats 4000000 in
theorem c_X5_addAnchor (l : Launch) (D : va_G) (kc : Nat → ClassId) (N : Nat) (adr : Nat → Nat) (cell : Nat → va_E) (b n m : Nat) (ed : Int32) (W T U E P V : Nat → Int32) (F : Nat → Nat → Int32) (x : Int32) (hSt : StAt cell adr kc b (n, m, ed, W, T, U, E, P, V, F)) (hN : b + 19 ≤ N) (hq : m < 6) : MV l yX5_addAnchor wsX5_addAnchor ({ frames := 3, cells := 0, slots := 0, locals := 67 }) D kc N adr cell [.ref (adr b), .int x] (fun (cell1 : Nat → va_E) => StAt cell1 adr kc b (n, m + 1, ed, W, T, U, E, upd P m x, upd V m x, updF F m (fill (lookF n W x) (F m) 5)) ∧ ∀ j : Nat, (j < b ∨ b + 19 ≤ j) → cell1 j = cell j) := by
  refine met_v (cc := cX5_addAnchor) (maxL := 3) (ret := none) (by decide) rfl (Nat.le_of_ble_eq_true rfl) (lv := [(0, .ref (adr b)), (1, .int x)]) rfl ?_
  intro Pg Ev Sv Mi args below Me Cd Ar C hr hlk hnm
  have in5 : ∀ w ∈ u_ws RX5 TX5 5, w ∈ wsX5_addAnchor := by decide +kernel
  have f29 := C.2.2.2.2.1 (.fieldLink RX5 29 "WordAnchors$State" "anchorCount" "I") (by decide +kernel)
  have f20 := C.2.2.2.2.1 (.fieldLink RX5 20 "WordAnchors$State" "anchors" "[LWordAnchors$Anchor;") (by decide +kernel)
  have f12 := C.2.2.2.2.1 (.fieldLink RX5 12 "WordAnchors$State" "row" "LWordAnchors$Row;") (by decide +kernel)
  have hSt0 := hSt
  obtain ⟨s0, hRw, ⟨gg, s5, hg⟩, s6, hAn, hm⟩ := hSt
  have s0 : cell b = .inr (5, [.ref (adr (b + 1)), .ref (adr (b + 5)), .ref (adr (b + 6)), .int (nI m), .int ed]) := s0
  have hRw : RowAt cell adr kc (b + 1) W T U n := hRw
  have s6 : cell (b + 6) = .inl (kc 0, 5, .inl E) := s6
  have hAn : AnsAt cell adr kc b P V F := hAn
  have hm : m ≤ 6 := hm
  obtain ⟨r0, r1, r2, r3, hn⟩ := hRw
  have litm1 : ((-1) : Int32).toInt = -1 := rfl
  have lit0 : (0 : Int32).toInt = 0 := rfl
  have lit1 : (1 : Int32).toInt = 1 := rfl
  have lit6 : (6 : Int32).toInt = 6 := rfl
  have tn_n : (nI n).toInt = ((n : Nat) : Int) := nI_toInt (by omega)
  have tn_m : (nI m).toInt = ((m : Nat) : Int) := nI_toInt (by omega)
  refine g_aload_n C 0 rfl dX5_addAnchor_0 ?_
  refine g_get C b 5 3 (by omega) s0 rfl in5 (by decide) f29 (fun _ h9 => h9) rfl dX5_addAnchor_1 ?_
  refine g_aload_n C 0 rfl dX5_addAnchor_4 ?_
  refine g_get C b 5 1 (by omega) s0 rfl in5 (by decide) f20 (fun _ h9 => h9) rfl dX5_addAnchor_5 ?_
  refine g_alen C (b + 5) 2 (by omega) s5 rfl 6 rfl dX5_addAnchor_8 ?_
  refine g_icmp_lt C 13 (by decide) dX5_addAnchor_9 (fun c9 => ?_) (fun c9 => ?_)
  · -- taken at 9
    have c9' := i_lt c9
    refine g_aload_n C 0 rfl dX5_addAnchor_13 ?_
    refine g_dup C rfl dX5_addAnchor_14 ?_
    refine g_get C b 5 3 (by omega) s0 rfl in5 (by decide) f29 (fun _ h9 => h9) rfl dX5_addAnchor_15 ?_
    refine g_iconst C 1 (by decide) dX5_addAnchor_18 ?_
    refine g_iadd C dX5_addAnchor_19 ?_
    refine g_eqst (show ([.int ((nI m) + 1), .ref (adr b)] : List Value) = ([.int (nI (m + 1)), .ref (adr b)] : List Value) from by rw [nI_1]) ?_
    refine g_put C b 5 3 (by omega) s0 rfl in5 tyX5 tyX5_ok nmX5 (by decide) f29 (fun _ h9 => h9) rfl (ty := .int) (by decide +kernel) rfl rfl (Nat.le_of_ble_eq_true rfl) dX5_addAnchor_20 ?_
    refine g_cell (fun cell2 ec2 => ?_)
    have h_3 : cell2 b = .inr (5, [.ref (adr (b + 1)), .ref (adr (b + 5)), .ref (adr (b + 6)), .int (nI (m + 1)), .int ed]) := by rw [ec2]; exact va_up_self _ _ _
    have h_4 : cell2 (b + 1) = .inr (4, [.ref (adr (b + 1 + 1)), .ref (adr (b + 1 + 2)), .ref (adr (b + 1 + 3)), .int (nI n)]) := by rw [ec2, va_up_ne _ _ (by omega)]; exact r0
    have h_5 : cell2 (b + 1 + 1) = .inl (kc 0, 40, .inl W) := by rw [ec2, va_up_ne _ _ (by omega)]; exact r1
    have h_6 : cell2 (b + 1 + 2) = .inl (kc 0, 40, .inl T) := by rw [ec2, va_up_ne _ _ (by omega)]; exact r2
    have h_7 : cell2 (b + 1 + 3) = .inl (kc 0, 40, .inl U) := by rw [ec2, va_up_ne _ _ (by omega)]; exact r3
    have h_8 : cell2 (b + 5) = .inl (kc 2, 6, .inr (.inr (.inr (.inr gg)))) := by rw [ec2, va_up_ne _ _ (by omega)]; exact s5
    have h_9 : cell2 (b + 6) = .inl (kc 0, 5, .inl E) := by rw [ec2, va_up_ne _ _ (by omega)]; exact s6
    have h_10 : AnsAt cell2 adr kc b P V F := AnsAt.frame hAn (fun j h1 h2 => by rw [ec2, va_up_ne _ _ (by omega)])
    have fr_11 : ∀ j : Nat, (j < b ∨ b + 19 ≤ j) → cell2 j = cell j := fun j hj => by rw [ec2, va_up_ne _ _ (by omega)]
    refine g_aload_n C 0 rfl dX5_addAnchor_23 ?_
    refine g_aload_n C 0 rfl dX5_addAnchor_24 ?_
    refine g_get C b 5 3 (by omega) h_3 rfl in5 (by decide) f29 (fun _ h9 => h9) rfl dX5_addAnchor_25 ?_
    refine g_iconst C 1 (by decide) dX5_addAnchor_28 ?_
    refine g_isub C dX5_addAnchor_29 ?_
    refine g_eqst (show ([.int ((nI (m + 1)) - 1), .ref (adr b)] : List Value) = ([.int (nI m), .ref (adr b)] : List Value) from by rw [nI_pred]) ?_
    refine g_Vq C [.int (nI m)] b 5 (by omega) h_3 rfl (c_X5_anchorNumbered l D kc N adr cell2 b n (m + 1) ed W T U E P V F (nI m) ⟨h_3, ⟨h_4, h_5, h_6, h_7, by omega⟩, ⟨gg, h_8, hg⟩, h_9, h_10, (by show (m + 1) ≤ 6; omega)⟩ (by omega)) (cwV 1 C.2.2.2.2.1 gX5_addAnchor_X5_anchorNumbered rfl rfl rfl (by decide +kernel) ⟨Nat.le_of_ble_eq_true rfl, Nat.le_of_ble_eq_true rfl⟩) rfl rfl (Nat.le_of_ble_eq_true rfl) (Nat.zero_le _) (Nat.zero_le _) dX5_addAnchor_30 (fun v13 cell13 q13 => ?_)
    obtain ⟨rfl, rfl⟩ := q13
    refine g_eqst (st1 := ([.ref (adr (b + 7 + 2 * m))] : List Value)) (by rw [if_pos (by omega), nI_clamp (by omega)]; rfl) ?_
    have ha_14 := h_10 m (by omega)
    refine g_astore_n C [(2, .ref (adr (b + 7 + 2 * m))), (0, .ref (adr b)), (1, .int x)] (by decide) rfl dX5_addAnchor_33 ?_
    refine g_aload_n C 0 rfl dX5_addAnchor_34 ?_
    refine g_ifnull C dX5_addAnchor_35 ?_
    refine g_aload_n C 0 rfl dX5_addAnchor_38 ?_
    refine g_aload_n C 1 rfl dX5_addAnchor_39 ?_
    refine g_get C b 5 0 (by omega) h_3 rfl in5 (by decide) f12 (fun _ h9 => h9) rfl dX5_addAnchor_40 ?_
    refine g_iload_n C 2 rfl dX5_addAnchor_43 ?_
    refine g_Vv C [.ref (adr (b + 1)), .int x] (b + 7 + 2 * m) 0 (by omega) ha_14.1 rfl (c_X0_setAt l D kc N adr cell2 (b + 7 + 2 * m) (P m) (V m) (F m) (b + 1) W T U n x ⟨ha_14.1, ha_14.2⟩ (by omega) ⟨h_4, h_5, h_6, h_7, by omega⟩ (by omega) (by omega)) (cwV 2 C.2.2.2.2.1 gX5_addAnchor_X0_setAt rfl rfl rfl (by decide +kernel) ⟨Nat.le_of_ble_eq_true rfl, Nat.le_of_ble_eq_true rfl⟩) rfl rfl (Nat.le_of_ble_eq_true rfl) (Nat.zero_le _) (Nat.zero_le _) dX5_addAnchor_44 (fun cell15 q15 => ?_)
    obtain ⟨an_16, gf_17⟩ := q15
    have an_18 : AnsAt cell15 adr kc b (upd P m x) (upd V m x) (updF F m (fill (lookF n W x) (F m) 5)) := by
      refine AnsAt.put (i := m) h_10 ?_ gf_17 (fun k hk e => ⟨upd_n e, upd_n e, if_neg e⟩)
      rw [upd_s, upd_s, show updF F m (fill (lookF n W x) (F m) 5) m = fill (lookF n W x) (F m) 5 from if_pos rfl]; exact an_16
    have h_19 : cell15 b = .inr (5, [.ref (adr (b + 1)), .ref (adr (b + 5)), .ref (adr (b + 6)), .int (nI (m + 1)), .int ed]) := (gf_17 b (by omega)).trans h_3
    have h_20 : cell15 (b + 1) = .inr (4, [.ref (adr (b + 1 + 1)), .ref (adr (b + 1 + 2)), .ref (adr (b + 1 + 3)), .int (nI n)]) := (gf_17 (b + 1) (by omega)).trans h_4
    have h_21 : cell15 (b + 1 + 1) = .inl (kc 0, 40, .inl W) := (gf_17 (b + 1 + 1) (by omega)).trans h_5
    have h_22 : cell15 (b + 1 + 2) = .inl (kc 0, 40, .inl T) := (gf_17 (b + 1 + 2) (by omega)).trans h_6
    have h_23 : cell15 (b + 1 + 3) = .inl (kc 0, 40, .inl U) := (gf_17 (b + 1 + 3) (by omega)).trans h_7
    have h_24 : cell15 (b + 5) = .inl (kc 2, 6, .inr (.inr (.inr (.inr gg)))) := (gf_17 (b + 5) (by omega)).trans h_8
    have h_25 : cell15 (b + 6) = .inl (kc 0, 5, .inl E) := (gf_17 (b + 6) (by omega)).trans h_9
    have fr_26 : ∀ j : Nat, (j < b ∨ b + 19 ≤ j) → cell15 j = cell j := fun j hj => (gf_17 j (by omega)).trans (fr_11 j hj)
    refine g_vret C hr hlk dX5_addAnchor_47 ?_
    exact ⟨⟨h_19, ⟨h_20, h_21, h_22, h_23, by omega⟩, ⟨gg, h_24, hg⟩, h_25, an_18, (by show (m + 1) ≤ 6; omega)⟩, fr_26⟩
  · -- not taken at 9
    have c9' := i_nlt c9
    exfalso; omega
set_option maxRecDepth 100000 in
set_option maxHeartbeats 4000000 in
theorem c_X5_copyFrom (l : Launch) (D : va_G) (kc : Nat → ClassId) (N : Nat) (adr : Nat → Nat) (cell : Nat → va_E) (b n m : Nat) (ed : Int32) (W T U E P V : Nat → Int32) (F : Nat → Nat → Int32) (b2 n2 m2 : Nat) (ed2 : Int32) (W2 T2 U2 E2 P2 V2 : Nat → Int32) (F2 : Nat → Nat → Int32) (hSt : StAt cell adr kc b (n, m, ed, W, T, U, E, P, V, F)) (hN : b + 19 ≤ N) (hSt2 : StAt cell adr kc b2 (n2, m2, ed2, W2, T2, U2, E2, P2, V2, F2)) (hN2 : b2 + 19 ≤ N) (hd : b + 19 ≤ b2 ∨ b2 + 19 ≤ b) : MV l yX5_copyFrom wsX5_copyFrom ({ frames := 2, cells := 0, slots := 0, locals := 43 }) D kc N adr cell [.ref (adr b), .ref (adr b2)] (fun (cell1 : Nat → va_E) => StAt cell1 adr kc b (n2, m2, ed2, fill (fun p => atF n2 W2 (nI p)) W 40, T, U, fill E2 E 5, fill P2 P m2, fill V2 V m2, fillF (fun k => fill (F2 k) (F k) 5) F m2) ∧ ∀ j : Nat, (j < b ∨ b + 19 ≤ j) → cell1 j = cell j) := by
  refine met_v (cc := cX5_copyFrom) (maxL := 5) (ret := none) (by decide) rfl (Nat.le_of_ble_eq_true rfl) (lv := [(0, .ref (adr b)), (1, .ref (adr b2))]) rfl ?_
  intro Pg Ev Sv Mi args below Me Cd Ar C hr hlk hnm
  have in5 : ∀ w ∈ u_ws RX5 TX5 5, w ∈ wsX5_copyFrom := by decide +kernel
  have f12 := C.2.2.2.2.1 (.fieldLink RX5 12 "WordAnchors$State" "row" "LWordAnchors$Row;") (by decide +kernel)
  have f29 := C.2.2.2.2.1 (.fieldLink RX5 29 "WordAnchors$State" "anchorCount" "I") (by decide +kernel)
  have f24 := C.2.2.2.2.1 (.fieldLink RX5 24 "WordAnchors$State" "settings" "[I") (by decide +kernel)
  have f33 := C.2.2.2.2.1 (.fieldLink RX5 33 "WordAnchors$State" "edits" "I") (by decide +kernel)
  have hSt0 := hSt
  obtain ⟨s0, hRw, ⟨gg, s5, hg⟩, s6, hAn, hm⟩ := hSt
  have s0 : cell b = .inr (5, [.ref (adr (b + 1)), .ref (adr (b + 5)), .ref (adr (b + 6)), .int (nI m), .int ed]) := s0
  have hRw : RowAt cell adr kc (b + 1) W T U n := hRw
  have s6 : cell (b + 6) = .inl (kc 0, 5, .inl E) := s6
  have hAn : AnsAt cell adr kc b P V F := hAn
  have hm : m ≤ 6 := hm
  obtain ⟨r0, r1, r2, r3, hn⟩ := hRw
  have hSt20 := hSt2
  obtain ⟨s0x, hRwx, ⟨ggx, s5x, hgx⟩, s6x, hAnx, hmx⟩ := hSt2
  have s0x : cell b2 = .inr (5, [.ref (adr (b2 + 1)), .ref (adr (b2 + 5)), .ref (adr (b2 + 6)), .int (nI m2), .int ed2]) := s0x
  have hRwx : RowAt cell adr kc (b2 + 1) W2 T2 U2 n2 := hRwx
  have s6x : cell (b2 + 6) = .inl (kc 0, 5, .inl E2) := s6x
  have hAnx : AnsAt cell adr kc b2 P2 V2 F2 := hAnx
  have hmx : m2 ≤ 6 := hmx
  obtain ⟨r0x, r1x, r2x, r3x, hnx⟩ := hRwx
  have litm1 : ((-1) : Int32).toInt = -1 := rfl
  have lit0 : (0 : Int32).toInt = 0 := rfl
  have lit1 : (1 : Int32).toInt = 1 := rfl
  have lit5 : (5 : Int32).toInt = 5 := rfl
  have tn_n : (nI n).toInt = ((n : Nat) : Int) := nI_toInt (by omega)
  have tn_m : (nI m).toInt = ((m : Nat) : Int) := nI_toInt (by omega)
  have tn_n2 : (nI n2).toInt = ((n2 : Nat) : Int) := nI_toInt (by omega)
  have tn_m2 : (nI m2).toInt = ((m2 : Nat) : Int) := nI_toInt (by omega)
  refine g_aload_n C 0 rfl dX5_copyFrom_0 ?_
  refine g_get C b 5 0 (by omega) s0 rfl in5 (by decide) f12 (fun _ h9 => h9) rfl dX5_copyFrom_1 ?_
  refine g_aload_n C 1 rfl dX5_copyFrom_4 ?_
  refine g_get C b2 5 0 (by omega) s0x rfl in5 (by decide) f12 (fun _ h9 => h9) rfl dX5_copyFrom_5 ?_
  refine g_Vv C [.ref (adr (b2 + 1))] (b + 1) 4 (by omega) r0 rfl (c_X4_copyFrom l D kc N adr cell (b + 1) W T U n (b2 + 1) W2 T2 U2 n2 ⟨r0, r1, r2, r3, by omega⟩ (by omega) ⟨r0x, r1x, r2x, r3x, by omega⟩ (by omega) (by omega)) (cwV 1 C.2.2.2.2.1 gX5_copyFrom_X4_copyFrom rfl rfl rfl (by decide +kernel) ⟨Nat.le_of_ble_eq_true rfl, Nat.le_of_ble_eq_true rfl⟩) rfl rfl (Nat.le_of_ble_eq_true rfl) (Nat.zero_le _) (Nat.zero_le _) dX5_copyFrom_8 (fun cell1 q1 => ?_)
  obtain ⟨⟨g_2, g_3, g_4, g_5, g_6⟩, gf_7⟩ := q1
  have h_8 : cell1 b = .inr (5, [.ref (adr (b + 1)), .ref (adr (b + 5)), .ref (adr (b + 6)), .int (nI m), .int ed]) := (gf_7 b (by omega)).trans s0
  have h_9 : cell1 (b + 5) = .inl (kc 2, 6, .inr (.inr (.inr (.inr gg)))) := (gf_7 (b + 5) (by omega)).trans s5
  have h_10 : cell1 (b + 6) = .inl (kc 0, 5, .inl E) := (gf_7 (b + 6) (by omega)).trans s6
  have h_11 : AnsAt cell1 adr kc b P V F := AnsAt.frame hAn (fun j h1 h2 => gf_7 j (by omega))
  have h_12 : cell1 b2 = .inr (5, [.ref (adr (b2 + 1)), .ref (adr (b2 + 5)), .ref (adr (b2 + 6)), .int (nI m2), .int ed2]) := (gf_7 b2 (by omega)).trans s0x
  have h_13 : cell1 (b2 + 1) = .inr (4, [.ref (adr (b2 + 1 + 1)), .ref (adr (b2 + 1 + 2)), .ref (adr (b2 + 1 + 3)), .int (nI n2)]) := (gf_7 (b2 + 1) (by omega)).trans r0x
  have h_14 : cell1 (b2 + 1 + 1) = .inl (kc 0, 40, .inl W2) := (gf_7 (b2 + 1 + 1) (by omega)).trans r1x
  have h_15 : cell1 (b2 + 1 + 2) = .inl (kc 0, 40, .inl T2) := (gf_7 (b2 + 1 + 2) (by omega)).trans r2x
  have h_16 : cell1 (b2 + 1 + 3) = .inl (kc 0, 40, .inl U2) := (gf_7 (b2 + 1 + 3) (by omega)).trans r3x
  have h_17 : cell1 (b2 + 5) = .inl (kc 2, 6, .inr (.inr (.inr (.inr ggx)))) := (gf_7 (b2 + 5) (by omega)).trans s5x
  have h_18 : cell1 (b2 + 6) = .inl (kc 0, 5, .inl E2) := (gf_7 (b2 + 6) (by omega)).trans s6x
  have h_19 : AnsAt cell1 adr kc b2 P2 V2 F2 := AnsAt.frame hAnx (fun j h1 h2 => gf_7 j (by omega))
  have fr_20 : ∀ j : Nat, (j < b ∨ b + 19 ≤ j) → cell1 j = cell j := fun j hj => gf_7 j (by omega)
  refine g_aload_n C 0 rfl dX5_copyFrom_11 ?_
  refine g_aload_n C 1 rfl dX5_copyFrom_12 ?_
  refine g_get C b2 5 3 (by omega) h_12 rfl in5 (by decide) f29 (fun _ h9 => h9) rfl dX5_copyFrom_13 ?_
  refine g_put C b 5 3 (by omega) h_8 rfl in5 tyX5 tyX5_ok nmX5 (by decide) f29 (fun _ h9 => h9) rfl (ty := .int) (by decide +kernel) rfl rfl (Nat.le_of_ble_eq_true rfl) dX5_copyFrom_16 ?_
  refine g_cell (fun cell21 ec21 => ?_)
  have h_22 : cell21 b = .inr (5, [.ref (adr (b + 1)), .ref (adr (b + 5)), .ref (adr (b + 6)), .int (nI m2), .int ed]) := by rw [ec21]; exact va_up_self _ _ _
  have h_23 : cell21 (b + 1) = .inr (4, [.ref (adr (b + 1 + 1)), .ref (adr (b + 1 + 2)), .ref (adr (b + 1 + 3)), .int (nI n2)]) := by rw [ec21, va_up_ne _ _ (by omega)]; exact g_2
  have h_24 : cell21 (b + 1 + 1) = .inl (kc 0, 40, .inl (fill (fun p => atF n2 W2 (nI p)) W 40)) := by rw [ec21, va_up_ne _ _ (by omega)]; exact g_3
  have h_25 : cell21 (b + 1 + 2) = .inl (kc 0, 40, .inl T) := by rw [ec21, va_up_ne _ _ (by omega)]; exact g_4
  have h_26 : cell21 (b + 1 + 3) = .inl (kc 0, 40, .inl U) := by rw [ec21, va_up_ne _ _ (by omega)]; exact g_5
  have h_27 : cell21 (b + 5) = .inl (kc 2, 6, .inr (.inr (.inr (.inr gg)))) := by rw [ec21, va_up_ne _ _ (by omega)]; exact h_9
  have h_28 : cell21 (b + 6) = .inl (kc 0, 5, .inl E) := by rw [ec21, va_up_ne _ _ (by omega)]; exact h_10
  have h_29 : AnsAt cell21 adr kc b P V F := AnsAt.frame h_11 (fun j h1 h2 => by rw [ec21, va_up_ne _ _ (by omega)])
  have h_30 : cell21 b2 = .inr (5, [.ref (adr (b2 + 1)), .ref (adr (b2 + 5)), .ref (adr (b2 + 6)), .int (nI m2), .int ed2]) := by rw [ec21, va_up_ne _ _ (by omega)]; exact h_12
  have h_31 : cell21 (b2 + 1) = .inr (4, [.ref (adr (b2 + 1 + 1)), .ref (adr (b2 + 1 + 2)), .ref (adr (b2 + 1 + 3)), .int (nI n2)]) := by rw [ec21, va_up_ne _ _ (by omega)]; exact h_13
  have h_32 : cell21 (b2 + 1 + 1) = .inl (kc 0, 40, .inl W2) := by rw [ec21, va_up_ne _ _ (by omega)]; exact h_14
  have h_33 : cell21 (b2 + 1 + 2) = .inl (kc 0, 40, .inl T2) := by rw [ec21, va_up_ne _ _ (by omega)]; exact h_15
  have h_34 : cell21 (b2 + 1 + 3) = .inl (kc 0, 40, .inl U2) := by rw [ec21, va_up_ne _ _ (by omega)]; exact h_16
  have h_35 : cell21 (b2 + 5) = .inl (kc 2, 6, .inr (.inr (.inr (.inr ggx)))) := by rw [ec21, va_up_ne _ _ (by omega)]; exact h_17
  have h_36 : cell21 (b2 + 6) = .inl (kc 0, 5, .inl E2) := by rw [ec21, va_up_ne _ _ (by omega)]; exact h_18
  have h_37 : AnsAt cell21 adr kc b2 P2 V2 F2 := AnsAt.frame h_19 (fun j h1 h2 => by rw [ec21, va_up_ne _ _ (by omega)])
  have fr_38 : ∀ j : Nat, (j < b ∨ b + 19 ≤ j) → cell21 j = cell j := fun j hj => by rw [ec21, va_up_ne _ _ (by omega)]; exact fr_20 j hj
  refine g_iconst C 0 (by decide) dX5_copyFrom_19 ?_
  refine g_istore_n C [(2, .int 0), (0, .ref (adr b)), (1, .ref (adr b2))] (by decide) rfl dX5_copyFrom_20 ?_
  have L21 : ∀ (fu i : Nat) (cl : Nat → va_E) , i ≤ m2 → m2 < i + fu → (t0 : cl b = .inr (5, [.ref (adr (b + 1)), .ref (adr (b + 5)), .ref (adr (b + 6)), .int (nI m2), .int ed])) → (t1 : cl (b + 1) = .inr (4, [.ref (adr (b + 1 + 1)), .ref (adr (b + 1 + 2)), .ref (adr (b + 1 + 3)), .int (nI n2)])) → (t2 : cl (b + 1 + 1) = .inl (kc 0, 40, .inl (fill (fun p => atF n2 W2 (nI p)) W 40))) → (t3 : cl (b + 1 + 2) = .inl (kc 0, 40, .inl T)) → (t4 : cl (b + 1 + 3) = .inl (kc 0, 40, .inl U)) → (t5 : cl (b + 5) = .inl (kc 2, 6, .inr (.inr (.inr (.inr gg))))) → (t6 : cl (b + 6) = .inl (kc 0, 5, .inl E)) → (y0 : cl b2 = .inr (5, [.ref (adr (b2 + 1)), .ref (adr (b2 + 5)), .ref (adr (b2 + 6)), .int (nI m2), .int ed2])) → (y1 : cl (b2 + 1) = .inr (4, [.ref (adr (b2 + 1 + 1)), .ref (adr (b2 + 1 + 2)), .ref (adr (b2 + 1 + 3)), .int (nI n2)])) → (y2 : cl (b2 + 1 + 1) = .inl (kc 0, 40, .inl W2)) → (y3 : cl (b2 + 1 + 2) = .inl (kc 0, 40, .inl T2)) → (y4 : cl (b2 + 1 + 3) = .inl (kc 0, 40, .inl U2)) → (y5 : cl (b2 + 5) = .inl (kc 2, 6, .inr (.inr (.inr (.inr ggx))))) → (y6 : cl (b2 + 6) = .inl (kc 0, 5, .inl E2)) → (t7 : AnsAt cl adr kc b (fill P2 P i) (fill V2 V i) (fillF (fun k => fill (F2 k) (F k) 5) F i)) → (y7 : AnsAt cl adr kc b2 P2 V2 F2) → (frl21 : ∀ j : Nat, (j < b ∨ b + 19 ≤ j) → cl j = cell j) → G Pg l Ev (headSpec wsX5_copyFrom { frames := 2, cells := 0, slots := 0, locals := 43 }).room Sv Mi args below Me Cd D N adr Ar Sv.heap 5 0 0 (MQ below (va_Qv (fun (cell1 : Nat → va_E) => StAt cell1 adr kc b (n2, m2, ed2, fill (fun p => atF n2 W2 (nI p)) W 40, T, U, fill E2 E 5, fill P2 P m2, fill V2 V m2, fillF (fun k => fill (F2 k) (F k) 5) F m2) ∧ ∀ j : Nat, (j < b ∨ b + 19 ≤ j) → cell1 j = cell j) (fun (cell1 : Nat → va_E) (t : State) => va_P D vwCl (wld N adr cell1) t.heap) Ar) args Sv 0 0 Ar) cl 21 [(0, .ref (adr b)), (1, .ref (adr b2)), (2, .int (nI i))] ([] : List Value) := by
    intro fu
    induction fu with
    | zero => intro i cl  hle hfu; exact absurd hfu (by omega)
    | succ fu ih =>
      intro i cl  hle21 hfu21 t0 t1 t2 t3 t4 t5 t6 y0 y1 y2 y3 y4 y5 y6 t7 y7 frl21 
      have tn_i : (nI i).toInt = ((i : Nat) : Int) := nI_toInt (by omega)
      refine g_iload_n C 2 rfl dX5_copyFrom_21 ?_
      refine g_aload_n C 0 rfl dX5_copyFrom_22 ?_
      refine g_get C b 5 3 (by omega) t0 rfl in5 (by decide) f29 (fun _ h9 => h9) rfl dX5_copyFrom_23 ?_
      refine g_icmp_ge C 63 (by decide) dX5_copyFrom_26 (fun c26 => ?_) (fun c26 => ?_)
      · -- taken at 26
        have c26' := i_le c26
        obtain rfl : m2 = i := by omega
        refine g_iconst C 0 (by decide) dX5_copyFrom_63 ?_
        refine g_istore_n C [(2, .int 0), (0, .ref (adr b)), (1, .ref (adr b2))] (by decide) rfl dX5_copyFrom_64 ?_
        have L65 : ∀ (fu i2 : Nat) (cm : Nat → va_E) , i2 ≤ 5 → 5 < i2 + fu → (u0 : cm b = .inr (5, [.ref (adr (b + 1)), .ref (adr (b + 5)), .ref (adr (b + 6)), .int (nI m2), .int ed])) → (u1 : cm (b + 1) = .inr (4, [.ref (adr (b + 1 + 1)), .ref (adr (b + 1 + 2)), .ref (adr (b + 1 + 3)), .int (nI n2)])) → (u2 : cm (b + 1 + 1) = .inl (kc 0, 40, .inl (fill (fun p => atF n2 W2 (nI p)) W 40))) → (u3 : cm (b + 1 + 2) = .inl (kc 0, 40, .inl T)) → (u4 : cm (b + 1 + 3) = .inl (kc 0, 40, .inl U)) → (u5 : cm (b + 5) = .inl (kc 2, 6, .inr (.inr (.inr (.inr gg))))) → (u6 : cm (b + 6) = .inl (kc 0, 5, .inl (fill E2 E i2))) → (w0 : cm b2 = .inr (5, [.ref (adr (b2 + 1)), .ref (adr (b2 + 5)), .ref (adr (b2 + 6)), .int (nI m2), .int ed2])) → (w1 : cm (b2 + 1) = .inr (4, [.ref (adr (b2 + 1 + 1)), .ref (adr (b2 + 1 + 2)), .ref (adr (b2 + 1 + 3)), .int (nI n2)])) → (w2 : cm (b2 + 1 + 1) = .inl (kc 0, 40, .inl W2)) → (w3 : cm (b2 + 1 + 2) = .inl (kc 0, 40, .inl T2)) → (w4 : cm (b2 + 1 + 3) = .inl (kc 0, 40, .inl U2)) → (w5 : cm (b2 + 5) = .inl (kc 2, 6, .inr (.inr (.inr (.inr ggx))))) → (w6 : cm (b2 + 6) = .inl (kc 0, 5, .inl E2)) → (u7 : AnsAt cm adr kc b (fill P2 P m2) (fill V2 V m2) (fillF (fun k => fill (F2 k) (F k) 5) F m2)) → (w7 : AnsAt cm adr kc b2 P2 V2 F2) → (frl65 : ∀ j : Nat, (j < b ∨ b + 19 ≤ j) → cm j = cell j) → G Pg l Ev (headSpec wsX5_copyFrom { frames := 2, cells := 0, slots := 0, locals := 43 }).room Sv Mi args below Me Cd D N adr Ar Sv.heap 5 0 0 (MQ below (va_Qv (fun (cell1 : Nat → va_E) => StAt cell1 adr kc b (n2, m2, ed2, fill (fun p => atF n2 W2 (nI p)) W 40, T, U, fill E2 E 5, fill P2 P m2, fill V2 V m2, fillF (fun k => fill (F2 k) (F k) 5) F m2) ∧ ∀ j : Nat, (j < b ∨ b + 19 ≤ j) → cell1 j = cell j) (fun (cell1 : Nat → va_E) (t : State) => va_P D vwCl (wld N adr cell1) t.heap) Ar) args Sv 0 0 Ar) cm 65 [(0, .ref (adr b)), (1, .ref (adr b2)), (2, .int (nI i2))] ([] : List Value) := by
          intro fu
          induction fu with
          | zero => intro i2 cm  hle hfu; exact absurd hfu (by omega)
          | succ fu ih =>
            intro i2 cm  hle65 hfu65 u0 u1 u2 u3 u4 u5 u6 w0 w1 w2 w3 w4 w5 w6 u7 w7 frl65 
            have tn_i2 : (nI i2).toInt = ((i2 : Nat) : Int) := nI_toInt (by omega)
            refine g_iload_n C 2 rfl dX5_copyFrom_65 ?_
            refine g_aload_n C 0 rfl dX5_copyFrom_66 ?_
            refine g_get C b 5 2 (by omega) u0 rfl in5 (by decide) f24 (fun _ h9 => h9) rfl dX5_copyFrom_67 ?_
            refine g_alen C (b + 6) 0 (by omega) u6 rfl 5 rfl dX5_copyFrom_70 ?_
            refine g_icmp_ge C 91 (by decide) dX5_copyFrom_71 (fun c71 => ?_) (fun c71 => ?_)
            · -- taken at 71
              have c71' := i_le c71
              obtain rfl : 5 = i2 := by omega
              refine g_aload_n C 0 rfl dX5_copyFrom_91 ?_
              refine g_aload_n C 1 rfl dX5_copyFrom_92 ?_
              refine g_get C b2 5 4 (by omega) w0 rfl in5 (by decide) f33 (fun _ h9 => h9) rfl dX5_copyFrom_93 ?_
              refine g_put C b 5 4 (by omega) u0 rfl in5 tyX5 tyX5_ok nmX5 (by decide) f33 (fun _ h9 => h9) rfl (ty := .int) (by decide +kernel) rfl rfl (Nat.le_of_ble_eq_true rfl) dX5_copyFrom_96 ?_
              refine g_cell (fun cell39 ec39 => ?_)
              have h_40 : cell39 b = .inr (5, [.ref (adr (b + 1)), .ref (adr (b + 5)), .ref (adr (b + 6)), .int (nI m2), .int ed2]) := by rw [ec39]; exact va_up_self _ _ _
              have h_41 : cell39 (b + 1) = .inr (4, [.ref (adr (b + 1 + 1)), .ref (adr (b + 1 + 2)), .ref (adr (b + 1 + 3)), .int (nI n2)]) := by rw [ec39, va_up_ne _ _ (by omega)]; exact u1
              have h_42 : cell39 (b + 1 + 1) = .inl (kc 0, 40, .inl (fill (fun p => atF n2 W2 (nI p)) W 40)) := by rw [ec39, va_up_ne _ _ (by omega)]; exact u2
              have h_43 : cell39 (b + 1 + 2) = .inl (kc 0, 40, .inl T) := by rw [ec39, va_up_ne _ _ (by omega)]; exact u3
              have h_44 : cell39 (b + 1 + 3) = .inl (kc 0, 40, .inl U) := by rw [ec39, va_up_ne _ _ (by omega)]; exact u4
              have h_45 : cell39 (b + 5) = .inl (kc 2, 6, .inr (.inr (.inr (.inr gg)))) := by rw [ec39, va_up_ne _ _ (by omega)]; exact u5
              have h_46 : cell39 (b + 6) = .inl (kc 0, 5, .inl (fill E2 E 5)) := by rw [ec39, va_up_ne _ _ (by omega)]; exact u6
              have h_47 : cell39 b2 = .inr (5, [.ref (adr (b2 + 1)), .ref (adr (b2 + 5)), .ref (adr (b2 + 6)), .int (nI m2), .int ed2]) := by rw [ec39, va_up_ne _ _ (by omega)]; exact w0
              have h_48 : cell39 (b2 + 1) = .inr (4, [.ref (adr (b2 + 1 + 1)), .ref (adr (b2 + 1 + 2)), .ref (adr (b2 + 1 + 3)), .int (nI n2)]) := by rw [ec39, va_up_ne _ _ (by omega)]; exact w1
              have h_49 : cell39 (b2 + 1 + 1) = .inl (kc 0, 40, .inl W2) := by rw [ec39, va_up_ne _ _ (by omega)]; exact w2
              have h_50 : cell39 (b2 + 1 + 2) = .inl (kc 0, 40, .inl T2) := by rw [ec39, va_up_ne _ _ (by omega)]; exact w3
              have h_51 : cell39 (b2 + 1 + 3) = .inl (kc 0, 40, .inl U2) := by rw [ec39, va_up_ne _ _ (by omega)]; exact w4
              have h_52 : cell39 (b2 + 5) = .inl (kc 2, 6, .inr (.inr (.inr (.inr ggx)))) := by rw [ec39, va_up_ne _ _ (by omega)]; exact w5
              have h_53 : cell39 (b2 + 6) = .inl (kc 0, 5, .inl E2) := by rw [ec39, va_up_ne _ _ (by omega)]; exact w6
              have h_54 : AnsAt cell39 adr kc b (fill P2 P m2) (fill V2 V m2) (fillF (fun k => fill (F2 k) (F k) 5) F m2) := AnsAt.frame u7 (fun j h1 h2 => by rw [ec39, va_up_ne _ _ (by omega)])
              have h_55 : AnsAt cell39 adr kc b2 P2 V2 F2 := AnsAt.frame w7 (fun j h1 h2 => by rw [ec39, va_up_ne _ _ (by omega)])
              have fr_56 : ∀ j : Nat, (j < b ∨ b + 19 ≤ j) → cell39 j = cell j := fun j hj => by rw [ec39, va_up_ne _ _ (by omega)]; exact frl65 j hj
              refine g_vret C hr hlk dX5_copyFrom_99 ?_
              exact ⟨⟨h_40, ⟨h_41, h_42, h_43, h_44, by omega⟩, ⟨gg, h_45, hg⟩, h_46, h_54, (by show m2 ≤ 6; omega)⟩, fr_56⟩
            · -- not taken at 71
              have c71' := i_nle c71
              refine g_aload_n C 0 rfl dX5_copyFrom_74 ?_
              refine g_get C b 5 2 (by omega) u0 rfl in5 (by decide) f24 (fun _ h9 => h9) rfl dX5_copyFrom_75 ?_
              refine g_iload_n C 2 rfl dX5_copyFrom_78 ?_
              refine g_aload_n C 1 rfl dX5_copyFrom_79 ?_
              refine g_iload_n C 2 rfl dX5_copyFrom_80 ?_
              refine g_Vi C [.int (nI i2)] b2 5 (by omega) w0 rfl (c_X5_setting l D kc N adr cm b2 n2 m2 ed2 W2 T2 U2 E2 P2 V2 F2 (nI i2) ⟨w0, ⟨w1, w2, w3, w4, by omega⟩, ⟨ggx, w5, hgx⟩, w6, w7, (by show m2 ≤ 6; omega)⟩ (by omega)) (cwV 1 C.2.2.2.2.1 gX5_copyFrom_X5_setting rfl rfl rfl (by decide +kernel) ⟨Nat.le_of_ble_eq_true rfl, Nat.le_of_ble_eq_true rfl⟩) rfl rfl (Nat.le_of_ble_eq_true rfl) (Nat.zero_le _) (Nat.zero_le _) dX5_copyFrom_81 (fun v57 cell57 q57 => ?_)
              obtain ⟨rfl, rfl⟩ := q57
              refine g_eqst (st1 := ([.int (E2 i2), .int (nI i2), .ref (adr (b + 6))] : List Value)) (by rw [setF_nI (by omega)]) ?_
              refine g_iast C (b + 6) (by omega) u6 (vp_in_nI (by omega) (by omega)) dX5_copyFrom_84 ?_
              refine g_cell (fun cell59 ec59 => ?_)
              have h_60 : cell59 b = .inr (5, [.ref (adr (b + 1)), .ref (adr (b + 5)), .ref (adr (b + 6)), .int (nI m2), .int ed]) := by rw [ec59, va_up_ne _ _ (by omega)]; exact u0
              have h_61 : cell59 (b + 1) = .inr (4, [.ref (adr (b + 1 + 1)), .ref (adr (b + 1 + 2)), .ref (adr (b + 1 + 3)), .int (nI n2)]) := by rw [ec59, va_up_ne _ _ (by omega)]; exact u1
              have h_62 : cell59 (b + 1 + 1) = .inl (kc 0, 40, .inl (fill (fun p => atF n2 W2 (nI p)) W 40)) := by rw [ec59, va_up_ne _ _ (by omega)]; exact u2
              have h_63 : cell59 (b + 1 + 2) = .inl (kc 0, 40, .inl T) := by rw [ec59, va_up_ne _ _ (by omega)]; exact u3
              have h_64 : cell59 (b + 1 + 3) = .inl (kc 0, 40, .inl U) := by rw [ec59, va_up_ne _ _ (by omega)]; exact u4
              have h_65 : cell59 (b + 5) = .inl (kc 2, 6, .inr (.inr (.inr (.inr gg)))) := by rw [ec59, va_up_ne _ _ (by omega)]; exact u5
              have h_66 : cell59 (b + 6) = .inl (kc 0, 5, .inl (upd (fill E2 E i2) (nI i2).toNatClampNeg (E2 i2))) := by rw [ec59]; exact va_up_self _ _ _
              have h_67 : cell59 b2 = .inr (5, [.ref (adr (b2 + 1)), .ref (adr (b2 + 5)), .ref (adr (b2 + 6)), .int (nI m2), .int ed2]) := by rw [ec59, va_up_ne _ _ (by omega)]; exact w0
              have h_68 : cell59 (b2 + 1) = .inr (4, [.ref (adr (b2 + 1 + 1)), .ref (adr (b2 + 1 + 2)), .ref (adr (b2 + 1 + 3)), .int (nI n2)]) := by rw [ec59, va_up_ne _ _ (by omega)]; exact w1
              have h_69 : cell59 (b2 + 1 + 1) = .inl (kc 0, 40, .inl W2) := by rw [ec59, va_up_ne _ _ (by omega)]; exact w2
              have h_70 : cell59 (b2 + 1 + 2) = .inl (kc 0, 40, .inl T2) := by rw [ec59, va_up_ne _ _ (by omega)]; exact w3
              have h_71 : cell59 (b2 + 1 + 3) = .inl (kc 0, 40, .inl U2) := by rw [ec59, va_up_ne _ _ (by omega)]; exact w4
              have h_72 : cell59 (b2 + 5) = .inl (kc 2, 6, .inr (.inr (.inr (.inr ggx)))) := by rw [ec59, va_up_ne _ _ (by omega)]; exact w5
              have h_73 : cell59 (b2 + 6) = .inl (kc 0, 5, .inl E2) := by rw [ec59, va_up_ne _ _ (by omega)]; exact w6
              have h_74 : AnsAt cell59 adr kc b (fill P2 P m2) (fill V2 V m2) (fillF (fun k => fill (F2 k) (F k) 5) F m2) := AnsAt.frame u7 (fun j h1 h2 => by rw [ec59, va_up_ne _ _ (by omega)])
              have h_75 : AnsAt cell59 adr kc b2 P2 V2 F2 := AnsAt.frame w7 (fun j h1 h2 => by rw [ec59, va_up_ne _ _ (by omega)])
              have fr_76 : ∀ j : Nat, (j < b ∨ b + 19 ≤ j) → cell59 j = cell j := fun j hj => by rw [ec59, va_up_ne _ _ (by omega)]; exact frl65 j hj
              have h_77 : cell59 (b + 6) = .inl (kc 0, 5, .inl (upd (fill E2 E i2) i2 (E2 i2))) := by rw [h_66, nI_clamp (by omega)]
              refine g_iinc C 2 [(2, .int (nI (i2 + 1))), (0, .ref (adr b)), (1, .ref (adr b2))] rfl (iinc_nI i2) (by decide) rfl dX5_copyFrom_85 ?_
              refine g_goto C 65 (by decide) dX5_copyFrom_88 ?_
              refine g_sub [1, 2, 0] rfl ?_
              have hx_78 : cell59 (b + 6) = .inl (kc 0, 5, .inl (fill E2 E (i2 + 1))) := h_77.trans (congrArg (fun f0 : Nat → Int32 => (.inl (kc 0, 5, .inl f0) : va_E)) (show (upd (fill E2 E i2) i2 (E2 i2)) = (fill E2 E (i2 + 1)) from by exact fill_upd rfl))
              exact ih (i2 + 1) _ (by omega) (by omega) h_60 h_61 h_62 h_63 h_64 h_65 hx_78 h_67 h_68 h_69 h_70 h_71 h_72 h_73 h_74 h_75 fr_76 
        refine g_sub [1, 2, 0] rfl ?_
        have hx_79 : cl (b + 6) = .inl (kc 0, 5, .inl (fill E2 E 0)) := t6.trans (congrArg (fun f0 : Nat → Int32 => (.inl (kc 0, 5, .inl f0) : va_E)) (show E = (fill E2 E 0) from by exact fill_0))
        exact L65 (5 + 1) 0 _ (by omega) (by omega) t0 t1 t2 t3 t4 t5 hx_79 y0 y1 y2 y3 y4 y5 y6 t7 y7 frl21 
      · -- not taken at 26
        have c26' := i_nle c26
        refine g_aload_n C 0 rfl dX5_copyFrom_29 ?_
        refine g_iload_n C 2 rfl dX5_copyFrom_30 ?_
        refine g_Vq C [.int (nI i)] b 5 (by omega) t0 rfl (c_X5_anchorNumbered l D kc N adr cl b n2 m2 ed (fill (fun p => atF n2 W2 (nI p)) W 40) T U E (fill P2 P i) (fill V2 V i) (fillF (fun k => fill (F2 k) (F k) 5) F i) (nI i) ⟨t0, ⟨t1, t2, t3, t4, by omega⟩, ⟨gg, t5, hg⟩, t6, t7, (by show m2 ≤ 6; omega)⟩ (by omega)) (cwV 1 C.2.2.2.2.1 gX5_copyFrom_X5_anchorNumbered rfl rfl rfl (by decide +kernel) ⟨Nat.le_of_ble_eq_true rfl, Nat.le_of_ble_eq_true rfl⟩) rfl rfl (Nat.le_of_ble_eq_true rfl) (Nat.zero_le _) (Nat.zero_le _) dX5_copyFrom_31 (fun v80 cell80 q80 => ?_)
        obtain ⟨rfl, rfl⟩ := q80
        refine g_eqst (st1 := ([.ref (adr (b + 7 + 2 * i))] : List Value)) (by rw [if_pos (by omega), nI_clamp (by omega)]; rfl) ?_
        have ha_81 := t7 i (by omega)
        refine g_astore_n C [(3, .ref (adr (b + 7 + 2 * i))), (0, .ref (adr b)), (1, .ref (adr b2)), (2, .int (nI i))] (by decide) rfl dX5_copyFrom_34 ?_
        refine g_aload_n C 2 rfl dX5_copyFrom_35 ?_
        refine g_iload_n C 3 rfl dX5_copyFrom_36 ?_
        refine g_Vq C [.int (nI i)] b2 5 (by omega) y0 rfl (c_X5_anchorNumbered l D kc N adr cl b2 n2 m2 ed2 W2 T2 U2 E2 P2 V2 F2 (nI i) ⟨y0, ⟨y1, y2, y3, y4, by omega⟩, ⟨ggx, y5, hgx⟩, y6, y7, (by show m2 ≤ 6; omega)⟩ (by omega)) (cwV 1 C.2.2.2.2.1 gX5_copyFrom_X5_anchorNumbered rfl rfl rfl (by decide +kernel) ⟨Nat.le_of_ble_eq_true rfl, Nat.le_of_ble_eq_true rfl⟩) rfl rfl (Nat.le_of_ble_eq_true rfl) (Nat.zero_le _) (Nat.zero_le _) dX5_copyFrom_37 (fun v82 cell82 q82 => ?_)
        obtain ⟨rfl, rfl⟩ := q82
        refine g_eqst (st1 := ([.ref (adr (b2 + 7 + 2 * i))] : List Value)) (by rw [if_pos (by omega), nI_clamp (by omega)]; rfl) ?_
        have ha_83 := y7 i (by omega)
        refine g_astore C [(4, .ref (adr (b2 + 7 + 2 * i))), (3, .ref (adr (b + 7 + 2 * i))), (0, .ref (adr b)), (1, .ref (adr b2)), (2, .int (nI i))] (by decide) rfl dX5_copyFrom_40 ?_
        refine g_aload_n C 1 rfl dX5_copyFrom_42 ?_
        refine g_ifnull C dX5_copyFrom_43 ?_
        refine g_aload C 0 rfl dX5_copyFrom_46 ?_
        refine g_ifnull C dX5_copyFrom_48 ?_
        refine g_aload_n C 1 rfl dX5_copyFrom_51 ?_
        refine g_aload C 0 rfl dX5_copyFrom_52 ?_
        refine g_Vv C [.ref (adr (b2 + 7 + 2 * i))] (b + 7 + 2 * i) 0 (by omega) ha_81.1 rfl (c_X0_copyFrom l D kc N adr cl (b + 7 + 2 * i) ((fill P2 P i) i) ((fill V2 V i) i) ((fillF (fun k => fill (F2 k) (F k) 5) F i) i) (b2 + 7 + 2 * i) (P2 i) (V2 i) (F2 i) ⟨ha_81.1, ha_81.2⟩ (by omega) ⟨ha_83.1, ha_83.2⟩ (by omega) (by omega)) (cwV 1 C.2.2.2.2.1 gX5_copyFrom_X0_copyFrom rfl rfl rfl (by decide +kernel) ⟨Nat.le_of_ble_eq_true rfl, Nat.le_of_ble_eq_true rfl⟩) rfl rfl (Nat.le_of_ble_eq_true rfl) (Nat.zero_le _) (Nat.zero_le _) dX5_copyFrom_54 (fun cell84 q84 => ?_)
        obtain ⟨an_85, gf_86⟩ := q84
        have an_87 : AnsAt cell84 adr kc b (fill P2 P (i + 1)) (fill V2 V (i + 1)) (fillF (fun k => fill (F2 k) (F k) 5) F (i + 1)) := by
          refine AnsAt.put (i := i) t7 ?_ gf_86 (fun k hk e => ?_)
          · rw [show fillF (fun k => fill (F2 k) (F k) 5) F i i = F i from if_neg (Nat.lt_irrefl i)] at an_85
            rw [fill_in (by omega), fill_in (by omega), show fillF (fun k => fill (F2 k) (F k) 5) F (i + 1) i = fill (F2 i) (F i) 5 from if_pos (by omega)]; exact an_85
          · unfold fill fillF; by_cases l : k < i
            · simp only [if_pos l, if_pos (show k < i + 1 by omega)]; trivial
            · simp only [if_neg l, if_neg (show ¬ (k < i + 1) by omega)]; trivial
        have h_88 : cell84 b = .inr (5, [.ref (adr (b + 1)), .ref (adr (b + 5)), .ref (adr (b + 6)), .int (nI m2), .int ed]) := (gf_86 b (by omega)).trans t0
        have h_89 : cell84 (b + 1) = .inr (4, [.ref (adr (b + 1 + 1)), .ref (adr (b + 1 + 2)), .ref (adr (b + 1 + 3)), .int (nI n2)]) := (gf_86 (b + 1) (by omega)).trans t1
        have h_90 : cell84 (b + 1 + 1) = .inl (kc 0, 40, .inl (fill (fun p => atF n2 W2 (nI p)) W 40)) := (gf_86 (b + 1 + 1) (by omega)).trans t2
        have h_91 : cell84 (b + 1 + 2) = .inl (kc 0, 40, .inl T) := (gf_86 (b + 1 + 2) (by omega)).trans t3
        have h_92 : cell84 (b + 1 + 3) = .inl (kc 0, 40, .inl U) := (gf_86 (b + 1 + 3) (by omega)).trans t4
        have h_93 : cell84 (b + 5) = .inl (kc 2, 6, .inr (.inr (.inr (.inr gg)))) := (gf_86 (b + 5) (by omega)).trans t5
        have h_94 : cell84 (b + 6) = .inl (kc 0, 5, .inl E) := (gf_86 (b + 6) (by omega)).trans t6
        have h_95 : cell84 b2 = .inr (5, [.ref (adr (b2 + 1)), .ref (adr (b2 + 5)), .ref (adr (b2 + 6)), .int (nI m2), .int ed2]) := (gf_86 b2 (by omega)).trans y0
        have h_96 : cell84 (b2 + 1) = .inr (4, [.ref (adr (b2 + 1 + 1)), .ref (adr (b2 + 1 + 2)), .ref (adr (b2 + 1 + 3)), .int (nI n2)]) := (gf_86 (b2 + 1) (by omega)).trans y1
        have h_97 : cell84 (b2 + 1 + 1) = .inl (kc 0, 40, .inl W2) := (gf_86 (b2 + 1 + 1) (by omega)).trans y2
        have h_98 : cell84 (b2 + 1 + 2) = .inl (kc 0, 40, .inl T2) := (gf_86 (b2 + 1 + 2) (by omega)).trans y3
        have h_99 : cell84 (b2 + 1 + 3) = .inl (kc 0, 40, .inl U2) := (gf_86 (b2 + 1 + 3) (by omega)).trans y4
        have h_100 : cell84 (b2 + 5) = .inl (kc 2, 6, .inr (.inr (.inr (.inr ggx)))) := (gf_86 (b2 + 5) (by omega)).trans y5
        have h_101 : cell84 (b2 + 6) = .inl (kc 0, 5, .inl E2) := (gf_86 (b2 + 6) (by omega)).trans y6
        have fr_102 : ∀ j : Nat, (j < b ∨ b + 19 ≤ j) → cell84 j = cell j := fun j hj => (gf_86 j (by omega)).trans (frl21 j hj)
        have an_103 : AnsAt cell84 adr kc b2 P2 V2 F2 := AnsAt.frame y7 (fun j h1 h2 => gf_86 j (by omega))
        refine g_iinc C 4 [(2, .int (nI (i + 1))), (4, .ref (adr (b2 + 7 + 2 * i))), (3, .ref (adr (b + 7 + 2 * i))), (0, .ref (adr b)), (1, .ref (adr b2))] rfl (iinc_nI i) (by decide) rfl dX5_copyFrom_57 ?_
        refine g_goto C 21 (by decide) dX5_copyFrom_60 ?_
        refine g_sub [3, 4, 0] rfl ?_
        have hx_104 : AnsAt cell84 adr kc b (fill P2 P (i + 1)) (fill V2 V (i + 1)) (fillF (fun k => fill (F2 k) (F k) 5) F (i + 1)) := by exact an_87
        exact ih (i + 1) _ (by omega) (by omega) h_88 h_89 h_90 h_91 h_92 h_93 h_94 h_95 h_96 h_97 h_98 h_99 h_100 h_101 hx_104 an_103 fr_102 
  refine g_sub [1, 2, 0] rfl ?_
  have hx_105 : AnsAt cell21 adr kc b (fill P2 P 0) (fill V2 V 0) (fillF (fun k => fill (F2 k) (F k) 5) F 0) := by rw [← fill_0, ← fill_0]; exact h_29
  exact L21 (m2 + 1) 0 _ (by omega) (by omega) h_22 h_23 h_24 h_25 h_26 h_27 h_28 h_30 h_31 h_32 h_33 h_34 h_35 h_36 hx_105 h_37 fr_38 
