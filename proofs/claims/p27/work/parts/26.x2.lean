set_option maxRecDepth 100000 in
set_option maxHeartbeats 4000000 in
theorem c_X6_move (l : Launch) (D : va_G) (kc : Nat → ClassId) (N : Nat) (adr : Nat → Nat) (cell : Nat → va_E) (σ : SD) (hn : Nat) (hi : Nat → SD) (L : Nat) (ch : Nat → Int32) (f k t : Int32) (hX : XAt cell adr kc σ hn hi L ch) (hG : Good σ) (hN : 125 ≤ N) : MI l yX6_move wsX6_move ({ frames := 4, cells := 0, slots := 0, locals := 92 }) D kc N adr cell [.ref (adr 0), .int f, .int k, .int t] (fun (w0 : Int32) (cell1 : Nat → va_E) => moveR σ f k t = w0 ∧ XNx cell1 adr kc σ hn hi (moveO σ f k t) L ch) := by
  refine met_i (cc := cX6_move) (maxL := 4) (ret := (some .int)) (by decide) rfl (Nat.le_of_ble_eq_true rfl) (lv := [(0, .ref (adr 0)), (1, .int f), (2, .int k), (3, .int t)]) rfl ?_
  intro Pg Ev Sv Mi args below Me Cd Ar C hr hlk hnm
  have in5 : ∀ w ∈ u_ws RX5 TX5 5, w ∈ wsX6_move := by decide +kernel
  have in6 : ∀ w ∈ u_ws RX6 TX6 6, w ∈ wsX6_move := by decide +kernel
  have f10 := C.2.2.2.2.1 (.fieldLink RX6 10 "WordAnchors" "now" "LWordAnchors$State;") (by decide +kernel)
  have f47 := C.2.2.2.2.1 (.fieldLink RX6 47 "WordAnchors$State" "row" "LWordAnchors$Row;") (by decide +kernel)
  have f22 := C.2.2.2.2.1 (.fieldLink RX6 22 "WordAnchors" "history" "LWordAnchors$History;") (by decide +kernel)
  have k60 := C.2.2.2.2.1 (.constant RX6 60 (-1000001)) (by decide +kernel)
  have hX0 := hX
  obtain ⟨x0, ⟨d0, hS, hEq⟩, ⟨dT, hST⟩, ⟨od, dh, hHI, hHE⟩, ⟨sx, nx, sg, nu, hTX⟩, ⟨bz, Sf, Mf, hBL⟩, ⟨ap, av, af, hAN⟩, hch⟩ := hX
  have en := hEq.1
  have em := hEq.2.1
  have hgn := hG.1
  have hgm := hG.2.1
  have hn40 : d0.1 ≤ 40 := hS.2.1.2.2.2.2
  have hm6 : d0.2.1 ≤ 6 := hS.2.2.2.2.2
  have hL60 : L ≤ 60 := hTX.2.2.2
  have hod : od < 4 := hHI.2.2.2.1
  have hh4 : hn ≤ 4 := hHI.2.2.2.2
  have litm1000001 : ((-1000001) : Int32).toInt = -1000001 := rfl
  have litm1 : ((-1) : Int32).toInt = -1 := rfl
  have lit0 : (0 : Int32).toInt = 0 := rfl
  have lit1 : (1 : Int32).toInt = 1 := rfl
  have tn_d0_1 : (nI d0.1).toInt = ((d0.1 : Nat) : Int) := nI_toInt (by omega)
  have tn_d0_2_1 : (nI d0.2.1).toInt = ((d0.2.1 : Nat) : Int) := nI_toInt (by omega)
  have tn_L : (nI L).toInt = ((L : Nat) : Int) := nI_toInt (by omega)
  have tn_hn : (nI hn).toInt = ((hn : Nat) : Int) := nI_toInt (by omega)
  refine g_aload_n C 0 rfl dX6_move_0 ?_
  refine g_get C 0 6 0 (by omega) x0 rfl in6 (by decide) f10 (fun _ h9 => h9) rfl dX6_move_1 ?_
  refine g_get C 1 5 0 (by omega) hS.1 rfl in5 (by decide) f47 (fun _ h9 => h9) rfl dX6_move_4 ?_
  refine g_iload_n C 1 rfl dX6_move_7 ?_
  refine g_iload_n C 2 rfl dX6_move_8 ?_
  refine g_iload_n C 3 rfl dX6_move_9 ?_
  refine g_Vi C [.int f, .int k, .int t] (1 + 1) 4 (by omega) hS.2.1.1 rfl (c_X4_canShift l D kc N adr cell (1 + 1) d0.2.2.2.1 d0.2.2.2.2.1 d0.2.2.2.2.2.1 d0.1 f k t hS.2.1 (by omega)) (cwV 3 C.2.2.2.2.1 gX6_move_X4_canShift rfl rfl rfl (by decide +kernel) ⟨Nat.le_of_ble_eq_true rfl, Nat.le_of_ble_eq_true rfl⟩) rfl rfl (Nat.le_of_ble_eq_true rfl) (Nat.zero_le _) (Nat.zero_le _) dX6_move_10 (fun v1 cell1 q1 => ?_)
  obtain ⟨rfl, rfl⟩ := q1
  refine g_if_ne C 19 (by decide) dX6_move_13 (fun c13 => ?_) (fun c13 => ?_)
  · -- taken at 13
    have c13' := bI_t c13
    have ezf : f = nI f.toNatClampNeg := nI_cl (by omega)
    have kzf := cl_toInt (x := f) (by omega)
    generalize hzzf : f.toNatClampNeg = zf at ezf kzf
    refine g_eqlv (lv1 := [(0, .ref (adr 0)), (1, .int (nI zf)), (2, .int k), (3, .int t)]) (congrArg (fun z0 : Int32 => ([(0, .ref (adr 0)), (1, .int z0), (2, .int k), (3, .int t)] : List (Nat × Value))) ezf) ?_
    have ezk : k = nI k.toNatClampNeg := nI_cl (by omega)
    have kzk := cl_toInt (x := k) (by omega)
    generalize hzzk : k.toNatClampNeg = zk at ezk kzk
    refine g_eqlv (lv1 := [(0, .ref (adr 0)), (1, .int (nI zf)), (2, .int (nI zk)), (3, .int t)]) (congrArg (fun z0 : Int32 => ([(0, .ref (adr 0)), (1, .int (nI zf)), (2, .int z0), (3, .int t)] : List (Nat × Value))) ezk) ?_
    have ezt : t = nI t.toNatClampNeg := nI_cl (by omega)
    have kzt := cl_toInt (x := t) (by omega)
    generalize hzzt : t.toNatClampNeg = zt at ezt kzt
    refine g_eqlv (lv1 := [(0, .ref (adr 0)), (1, .int (nI zf)), (2, .int (nI zk)), (3, .int (nI zt))]) (congrArg (fun z0 : Int32 => ([(0, .ref (adr 0)), (1, .int (nI zf)), (2, .int (nI zk)), (3, .int z0)] : List (Nat × Value))) ezt) ?_
    refine g_aload_n C 0 rfl dX6_move_19 ?_
    refine g_get C 0 6 2 (by omega) x0 rfl in6 (by decide) f22 (fun _ h9 => h9) rfl dX6_move_20 ?_
    refine g_aload_n C 0 rfl dX6_move_23 ?_
    refine g_get C 0 6 0 (by omega) x0 rfl in6 (by decide) f10 (fun _ h9 => h9) rfl dX6_move_24 ?_
    refine g_Vv C [.ref (adr 1)] 39 3 (by omega) hHI.1 rfl (c_X3_record l D kc N adr cell 39 od hn dh 1 d0 hHI (by omega) hS (by omega) (by omega)) (cwV 1 C.2.2.2.2.1 gX6_move_X3_record rfl rfl rfl (by decide +kernel) ⟨Nat.le_of_ble_eq_true rfl, Nat.le_of_ble_eq_true rfl⟩) rfl rfl (Nat.le_of_ble_eq_true rfl) (Nat.zero_le _) (Nat.zero_le _) dX6_move_27 (fun cell2 q2 => ?_)
    obtain ⟨dc, hHI_4, hEc, gf_3⟩ := q2
    have hHE1 := ring_rec hod hh4 hHE (Eqv.tr hEc hEq)
    have h_5 : cell2 0 = .inr (6, [.ref (adr 1), .ref (adr 20), .ref (adr 39), .ref (adr 117), .ref (adr 120), .ref (adr 123)]) := (gf_3 0 (by omega)).trans x0
    have h_6 : StAt cell2 adr kc 1 d0 := StAt.frame hS (fun j h1 h2 => gf_3 j (by omega))
    have h_7 : StAt cell2 adr kc 20 dT := StAt.frame hST (fun j h1 h2 => gf_3 j (by omega))
    have h_8 : TxAt cell2 adr kc 117 L sx (nI nx) sg ch nu := TxAt.frame hTX (fun j h1 h2 => gf_3 j (by omega))
    have h_9 : BlAt cell2 adr kc 120 bz Sf Mf := BlAt.frame hBL (fun j h1 h2 => gf_3 j (by omega))
    have h_10 : AncAt cell2 adr kc 123 ap av af := AncAt.frame hAN (fun j h1 h2 => gf_3 j (by omega))
    refine g_aload_n C 0 rfl dX6_move_30 ?_
    refine g_get C 0 6 0 (by omega) h_5 rfl in6 (by decide) f10 (fun _ h9 => h9) rfl dX6_move_31 ?_
    refine g_iload_n C 1 rfl dX6_move_34 ?_
    refine g_iload_n C 2 rfl dX6_move_35 ?_
    refine g_iload_n C 3 rfl dX6_move_36 ?_
    refine g_Vv C [.int (nI zf), .int (nI zk), .int (nI zt)] 1 5 (by omega) h_6.1 rfl (c_X5_shiftWords l D kc N adr cell2 1 d0.1 d0.2.1 d0.2.2.1 d0.2.2.2.1 d0.2.2.2.2.1 d0.2.2.2.2.2.1 d0.2.2.2.2.2.2.1 d0.2.2.2.2.2.2.2.1 d0.2.2.2.2.2.2.2.2.1 d0.2.2.2.2.2.2.2.2.2 zf zk zt h_6 (by omega) (by omega)) (cwV 3 C.2.2.2.2.1 gX6_move_X5_shiftWords rfl rfl rfl (by decide +kernel) ⟨Nat.le_of_ble_eq_true rfl, Nat.le_of_ble_eq_true rfl⟩) rfl rfl (Nat.le_of_ble_eq_true rfl) (Nat.zero_le _) (Nat.zero_le _) dX6_move_37 (fun cell11 q11 => ?_)
    obtain ⟨W1, T1, U1, hS_13, hw1, ht1, gf_12⟩ := q11
    have hEm := mov_eqv (by omega) hEq hG hw1 ht1 (U1 := U1)
    have h_14 : cell11 0 = .inr (6, [.ref (adr 1), .ref (adr 20), .ref (adr 39), .ref (adr 117), .ref (adr 120), .ref (adr 123)]) := (gf_12 0 (by omega)).trans h_5
    have h_15 : StAt cell11 adr kc 20 dT := StAt.frame h_7 (fun j h1 h2 => gf_12 j (by omega))
    have h_16 : HiAt cell11 adr kc 39 (if hn < 4 then od else (od + 1) % 4) (if hn < 4 then hn + 1 else 4) (updS dh ((od + hn) % 4) dc) := HiAt.frame hHI_4 (fun j h1 h2 => gf_12 j (by omega))
    have h_17 : TxAt cell11 adr kc 117 L sx (nI nx) sg ch nu := TxAt.frame h_8 (fun j h1 h2 => gf_12 j (by omega))
    have h_18 : BlAt cell11 adr kc 120 bz Sf Mf := BlAt.frame h_9 (fun j h1 h2 => gf_12 j (by omega))
    have h_19 : AncAt cell11 adr kc 123 ap av af := AncAt.frame h_10 (fun j h1 h2 => gf_12 j (by omega))
    refine g_aload_n C 0 rfl dX6_move_40 ?_
    refine g_get C 0 6 0 (by omega) h_14 rfl in6 (by decide) f10 (fun _ h9 => h9) rfl dX6_move_41 ?_
    refine g_get C 1 5 0 (by omega) hS_13.1 rfl in5 (by decide) f47 (fun _ h9 => h9) rfl dX6_move_44 ?_
    refine g_Vi C [] (1 + 1) 4 (by omega) hS_13.2.1.1 rfl (c_X4_wordsElsewhere l D kc N adr cell11 (1 + 1) (d0.1, d0.2.1, d0.2.2.1 + 1, W1, T1, U1, d0.2.2.2.2.2.2.1, d0.2.2.2.2.2.2.2.1, fill (fun k => atF 40 T1 (d0.2.2.2.2.2.2.2.2.1 k)) d0.2.2.2.2.2.2.2.2.1 d0.2.1, d0.2.2.2.2.2.2.2.2.2).2.2.2.1 (d0.1, d0.2.1, d0.2.2.1 + 1, W1, T1, U1, d0.2.2.2.2.2.2.1, d0.2.2.2.2.2.2.2.1, fill (fun k => atF 40 T1 (d0.2.2.2.2.2.2.2.2.1 k)) d0.2.2.2.2.2.2.2.2.1 d0.2.1, d0.2.2.2.2.2.2.2.2.2).2.2.2.2.1 (d0.1, d0.2.1, d0.2.2.1 + 1, W1, T1, U1, d0.2.2.2.2.2.2.1, d0.2.2.2.2.2.2.2.1, fill (fun k => atF 40 T1 (d0.2.2.2.2.2.2.2.2.1 k)) d0.2.2.2.2.2.2.2.2.1 d0.2.1, d0.2.2.2.2.2.2.2.2.2).2.2.2.2.2.1 (d0.1, d0.2.1, d0.2.2.1 + 1, W1, T1, U1, d0.2.2.2.2.2.2.1, d0.2.2.2.2.2.2.2.1, fill (fun k => atF 40 T1 (d0.2.2.2.2.2.2.2.2.1 k)) d0.2.2.2.2.2.2.2.2.1 d0.2.1, d0.2.2.2.2.2.2.2.2.2).1  hS_13.2.1 (by omega)) (cwV 0 C.2.2.2.2.1 gX6_move_X4_wordsElsewhere rfl rfl rfl (by decide +kernel) ⟨Nat.le_of_ble_eq_true rfl, Nat.le_of_ble_eq_true rfl⟩) rfl rfl (Nat.le_of_ble_eq_true rfl) (Nat.zero_le _) (Nat.zero_le _) dX6_move_47 (fun v20 cell20 q20 => ?_)
    obtain ⟨rfl, rfl⟩ := q20
    refine g_iret C hr rfl hlk dX6_move_50 ?_
    refine ⟨?_, XNx.yes (s := movD zf zk zt σ) (by unfold moveO; rw [hzzf, hzzk, hzzt]; exact if_pos (by omega)) ⟨h_14, ⟨_, hS_13, hEm⟩, ⟨_, h_15⟩, ⟨_, _, h_16, hHE1⟩, ⟨_, _, _, _, h_17⟩, ⟨_, _, _, h_18⟩, ⟨_, _, _, h_19⟩, hch⟩⟩
    unfold moveR; rw [if_neg (by omega), hzzf, hzzk, hzzt, ← en]
    exact congrArg nI (cnt_cong (fun i hi1 => by show decide (¬ pasF zf zk zt i = i) = decide (T1 i ≠ nI i); rw [ht1 i (by omega)]; have := pas_lt (f := zf) (k := zk) (t := zt) (p := i) (n := d0.1) (by omega) (by omega) hi1; congr 1; exact propext (not_congr (nI_eq (by omega) (by omega)).symm)))
  · -- not taken at 13
    have c13' := bI_f c13
    refine g_ldc C (-1000001) k60 dX6_move_16 ?_
    refine g_iret C hr rfl hlk dX6_move_18 ?_
    have c13e : ¬ CSh σ.1 f k t := by rw [← en]; exact c13'
    exact ⟨by unfold moveR; exact if_pos c13e, XNx.no (by unfold moveO; exact if_neg c13e) hX0⟩
set_option maxRecDepth 100000 in
set_option maxHeartbeats 4000000 in
theorem c_X6_anchor (l : Launch) (D : va_G) (kc : Nat → ClassId) (N : Nat) (adr : Nat → Nat) (cell : Nat → va_E) (σ : SD) (hn : Nat) (hi : Nat → SD) (L : Nat) (ch : Nat → Int32) (x : Int32) (hX : XAt cell adr kc σ hn hi L ch) (hG : Good σ) (hN : 125 ≤ N) : MI l yX6_anchor wsX6_anchor ({ frames := 4, cells := 0, slots := 0, locals := 89 }) D kc N adr cell [.ref (adr 0), .int x] (fun (w0 : Int32) (cell1 : Nat → va_E) => anchorR σ x = w0 ∧ XNx cell1 adr kc σ hn hi (anchorO σ x) L ch) := by
  refine met_i (cc := cX6_anchor) (maxL := 2) (ret := (some .int)) (by decide) rfl (Nat.le_of_ble_eq_true rfl) (lv := [(0, .ref (adr 0)), (1, .int x)]) rfl ?_
  intro Pg Ev Sv Mi args below Me Cd Ar C hr hlk hnm
  have in5 : ∀ w ∈ u_ws RX5 TX5 5, w ∈ wsX6_anchor := by decide +kernel
  have in6 : ∀ w ∈ u_ws RX6 TX6 6, w ∈ wsX6_anchor := by decide +kernel
  have f10 := C.2.2.2.2.1 (.fieldLink RX6 10 "WordAnchors" "now" "LWordAnchors$State;") (by decide +kernel)
  have f47 := C.2.2.2.2.1 (.fieldLink RX6 47 "WordAnchors$State" "row" "LWordAnchors$Row;") (by decide +kernel)
  have f22 := C.2.2.2.2.1 (.fieldLink RX6 22 "WordAnchors" "history" "LWordAnchors$History;") (by decide +kernel)
  have k65 := C.2.2.2.2.1 (.constant RX6 65 (-1000003)) (by decide +kernel)
  have k60 := C.2.2.2.2.1 (.constant RX6 60 (-1000001)) (by decide +kernel)
  have hX0 := hX
  obtain ⟨x0, ⟨d0, hS, hEq⟩, ⟨dT, hST⟩, ⟨od, dh, hHI, hHE⟩, ⟨sx, nx, sg, nu, hTX⟩, ⟨bz, Sf, Mf, hBL⟩, ⟨ap, av, af, hAN⟩, hch⟩ := hX
  have en := hEq.1
  have em := hEq.2.1
  have hgn := hG.1
  have hgm := hG.2.1
  have hn40 : d0.1 ≤ 40 := hS.2.1.2.2.2.2
  have hm6 : d0.2.1 ≤ 6 := hS.2.2.2.2.2
  have hL60 : L ≤ 60 := hTX.2.2.2
  have hod : od < 4 := hHI.2.2.2.1
  have hh4 : hn ≤ 4 := hHI.2.2.2.2
  have litm1000003 : ((-1000003) : Int32).toInt = -1000003 := rfl
  have litm1000001 : ((-1000001) : Int32).toInt = -1000001 := rfl
  have litm1 : ((-1) : Int32).toInt = -1 := rfl
  have lit0 : (0 : Int32).toInt = 0 := rfl
  have lit1 : (1 : Int32).toInt = 1 := rfl
  have lit6 : (6 : Int32).toInt = 6 := rfl
  have tn_d0_1 : (nI d0.1).toInt = ((d0.1 : Nat) : Int) := nI_toInt (by omega)
  have tn_d0_2_1 : (nI d0.2.1).toInt = ((d0.2.1 : Nat) : Int) := nI_toInt (by omega)
  have tn_L : (nI L).toInt = ((L : Nat) : Int) := nI_toInt (by omega)
  have tn_hn : (nI hn).toInt = ((hn : Nat) : Int) := nI_toInt (by omega)
  refine g_aload_n C 0 rfl dX6_anchor_0 ?_
  refine g_get C 0 6 0 (by omega) x0 rfl in6 (by decide) f10 (fun _ h9 => h9) rfl dX6_anchor_1 ?_
  refine g_get C 1 5 0 (by omega) hS.1 rfl in5 (by decide) f47 (fun _ h9 => h9) rfl dX6_anchor_4 ?_
  refine g_iload_n C 1 rfl dX6_anchor_7 ?_
  refine g_Vi C [.int x] (1 + 1) 4 (by omega) hS.2.1.1 rfl (c_X4_holds l D kc N adr cell (1 + 1) d0.2.2.2.1 d0.2.2.2.2.1 d0.2.2.2.2.2.1 d0.1 x hS.2.1 (by omega)) (cwV 1 C.2.2.2.2.1 gX6_anchor_X4_holds rfl rfl rfl (by decide +kernel) ⟨Nat.le_of_ble_eq_true rfl, Nat.le_of_ble_eq_true rfl⟩) rfl rfl (Nat.le_of_ble_eq_true rfl) (Nat.zero_le _) (Nat.zero_le _) dX6_anchor_8 (fun v1 cell1 q1 => ?_)
  obtain ⟨rfl, rfl⟩ := q1
  refine g_if_ne C 17 (by decide) dX6_anchor_11 (fun c11 => ?_) (fun c11 => ?_)
  · -- taken at 11
    have c11' := bI_t c11
    refine g_aload_n C 0 rfl dX6_anchor_17 ?_
    refine g_get C 0 6 0 (by omega) x0 rfl in6 (by decide) f10 (fun _ h9 => h9) rfl dX6_anchor_18 ?_
    refine g_Vi C [] 1 5 (by omega) hS.1 rfl (c_X5_anchorCount l D kc N adr cell 1 d0.1 d0.2.1 d0.2.2.1 d0.2.2.2.1 d0.2.2.2.2.1 d0.2.2.2.2.2.1 d0.2.2.2.2.2.2.1 d0.2.2.2.2.2.2.2.1 d0.2.2.2.2.2.2.2.2.1 d0.2.2.2.2.2.2.2.2.2  hS (by omega)) (cwV 0 C.2.2.2.2.1 gX6_anchor_X5_anchorCount rfl rfl rfl (by decide +kernel) ⟨Nat.le_of_ble_eq_true rfl, Nat.le_of_ble_eq_true rfl⟩) rfl rfl (Nat.le_of_ble_eq_true rfl) (Nat.zero_le _) (Nat.zero_le _) dX6_anchor_21 (fun v2 cell2 q2 => ?_)
    obtain ⟨rfl, rfl⟩ := q2
    refine g_bipush C 6 (by decide) dX6_anchor_24 ?_
    refine g_icmp_lt C 32 (by decide) dX6_anchor_26 (fun c26 => ?_) (fun c26 => ?_)
    · -- taken at 26
      have c26' := i_lt c26
      refine g_aload_n C 0 rfl dX6_anchor_32 ?_
      refine g_get C 0 6 2 (by omega) x0 rfl in6 (by decide) f22 (fun _ h9 => h9) rfl dX6_anchor_33 ?_
      refine g_aload_n C 0 rfl dX6_anchor_36 ?_
      refine g_get C 0 6 0 (by omega) x0 rfl in6 (by decide) f10 (fun _ h9 => h9) rfl dX6_anchor_37 ?_
      refine g_Vv C [.ref (adr 1)] 39 3 (by omega) hHI.1 rfl (c_X3_record l D kc N adr cell 39 od hn dh 1 d0 hHI (by omega) hS (by omega) (by omega)) (cwV 1 C.2.2.2.2.1 gX6_anchor_X3_record rfl rfl rfl (by decide +kernel) ⟨Nat.le_of_ble_eq_true rfl, Nat.le_of_ble_eq_true rfl⟩) rfl rfl (Nat.le_of_ble_eq_true rfl) (Nat.zero_le _) (Nat.zero_le _) dX6_anchor_40 (fun cell3 q3 => ?_)
      obtain ⟨dc, hHI_5, hEc, gf_4⟩ := q3
      have hHE1 := ring_rec hod hh4 hHE (Eqv.tr hEc hEq)
      have h_6 : cell3 0 = .inr (6, [.ref (adr 1), .ref (adr 20), .ref (adr 39), .ref (adr 117), .ref (adr 120), .ref (adr 123)]) := (gf_4 0 (by omega)).trans x0
      have h_7 : StAt cell3 adr kc 1 d0 := StAt.frame hS (fun j h1 h2 => gf_4 j (by omega))
      have h_8 : StAt cell3 adr kc 20 dT := StAt.frame hST (fun j h1 h2 => gf_4 j (by omega))
      have h_9 : TxAt cell3 adr kc 117 L sx (nI nx) sg ch nu := TxAt.frame hTX (fun j h1 h2 => gf_4 j (by omega))
      have h_10 : BlAt cell3 adr kc 120 bz Sf Mf := BlAt.frame hBL (fun j h1 h2 => gf_4 j (by omega))
      have h_11 : AncAt cell3 adr kc 123 ap av af := AncAt.frame hAN (fun j h1 h2 => gf_4 j (by omega))
      refine g_aload_n C 0 rfl dX6_anchor_43 ?_
      refine g_get C 0 6 0 (by omega) h_6 rfl in6 (by decide) f10 (fun _ h9 => h9) rfl dX6_anchor_44 ?_
      refine g_iload_n C 1 rfl dX6_anchor_47 ?_
      refine g_Vv C [.int x] 1 5 (by omega) h_7.1 rfl (c_X5_addAnchor l D kc N adr cell3 1 d0.1 d0.2.1 d0.2.2.1 d0.2.2.2.1 d0.2.2.2.2.1 d0.2.2.2.2.2.1 d0.2.2.2.2.2.2.1 d0.2.2.2.2.2.2.2.1 d0.2.2.2.2.2.2.2.2.1 d0.2.2.2.2.2.2.2.2.2 x h_7 (by omega) (by omega)) (cwV 1 C.2.2.2.2.1 gX6_anchor_X5_addAnchor rfl rfl rfl (by decide +kernel) ⟨Nat.le_of_ble_eq_true rfl, Nat.le_of_ble_eq_true rfl⟩) rfl rfl (Nat.le_of_ble_eq_true rfl) (Nat.zero_le _) (Nat.zero_le _) dX6_anchor_48 (fun cell12 q12 => ?_)
      obtain ⟨hS_15, gf_13⟩ := q12
      obtain ⟨d_14, hS_16, hE_17⟩ : ∃ d9 : SD, StAt cell12 adr kc 1 d9 ∧ Eqv d9 (addD x σ) := ⟨_, hS_15, add_eqv hEq⟩
      have h_18 : cell12 0 = .inr (6, [.ref (adr 1), .ref (adr 20), .ref (adr 39), .ref (adr 117), .ref (adr 120), .ref (adr 123)]) := (gf_13 0 (by omega)).trans h_6
      have h_19 : StAt cell12 adr kc 20 dT := StAt.frame h_8 (fun j h1 h2 => gf_13 j (by omega))
      have h_20 : HiAt cell12 adr kc 39 (if hn < 4 then od else (od + 1) % 4) (if hn < 4 then hn + 1 else 4) (updS dh ((od + hn) % 4) dc) := HiAt.frame hHI_5 (fun j h1 h2 => gf_13 j (by omega))
      have h_21 : TxAt cell12 adr kc 117 L sx (nI nx) sg ch nu := TxAt.frame h_9 (fun j h1 h2 => gf_13 j (by omega))
      have h_22 : BlAt cell12 adr kc 120 bz Sf Mf := BlAt.frame h_10 (fun j h1 h2 => gf_13 j (by omega))
      have h_23 : AncAt cell12 adr kc 123 ap av af := AncAt.frame h_11 (fun j h1 h2 => gf_13 j (by omega))
      refine g_aload_n C 0 rfl dX6_anchor_51 ?_
      refine g_get C 0 6 0 (by omega) h_18 rfl in6 (by decide) f10 (fun _ h9 => h9) rfl dX6_anchor_52 ?_
      refine g_Vi C [] 1 5 (by omega) hS_16.1 rfl (c_X5_anchorCount l D kc N adr cell12 1 d_14.1 d_14.2.1 d_14.2.2.1 d_14.2.2.2.1 d_14.2.2.2.2.1 d_14.2.2.2.2.2.1 d_14.2.2.2.2.2.2.1 d_14.2.2.2.2.2.2.2.1 d_14.2.2.2.2.2.2.2.2.1 d_14.2.2.2.2.2.2.2.2.2  hS_16 (by omega)) (cwV 0 C.2.2.2.2.1 gX6_anchor_X5_anchorCount rfl rfl rfl (by decide +kernel) ⟨Nat.le_of_ble_eq_true rfl, Nat.le_of_ble_eq_true rfl⟩) rfl rfl (Nat.le_of_ble_eq_true rfl) (Nat.zero_le _) (Nat.zero_le _) dX6_anchor_55 (fun v24 cell24 q24 => ?_)
      obtain ⟨rfl, rfl⟩ := q24
      refine g_iconst C 1 (by decide) dX6_anchor_58 ?_
      refine g_isub C dX6_anchor_59 ?_
      refine g_iret C hr rfl hlk dX6_anchor_60 ?_
      refine ⟨?_, XNx.yes (s := addD x σ) (by unfold anchorO; exact if_pos (by omega)) ⟨h_18, ⟨_, hS_16, hE_17⟩, ⟨_, h_19⟩, ⟨_, _, h_20, hHE1⟩, ⟨_, _, _, _, h_21⟩, ⟨_, _, _, h_22⟩, ⟨_, _, _, h_23⟩, hch⟩⟩
      unfold anchorR; rw [if_neg (by omega), if_neg (by omega), hE_17.2.1]; exact (nI_pred _).symm
    · -- not taken at 26
      have c26' := i_nlt c26
      refine g_ldc C (-1000003) k65 dX6_anchor_29 ?_
      refine g_iret C hr rfl hlk dX6_anchor_31 ?_
      exact ⟨by unfold anchorR; rw [if_neg (by omega)]; exact if_pos (by omega), XNx.no (by unfold anchorO; exact if_neg (by omega)) hX0⟩
  · -- not taken at 11
    have c11' := bI_f c11
    refine g_ldc C (-1000001) k60 dX6_anchor_14 ?_
    refine g_iret C hr rfl hlk dX6_anchor_16 ?_
    exact ⟨by unfold anchorR; exact if_pos (by omega), XNx.no (by unfold anchorO; exact if_neg (by omega)) hX0⟩
set_option maxRecDepth 100000 in
set_option maxHeartbeats 4000000 in
theorem c_X6_remember (l : Launch) (D : va_G) (kc : Nat → ClassId) (N : Nat) (adr : Nat → Nat) (cell : Nat → va_E) (σ : SD) (hn : Nat) (hi : Nat → SD) (L : Nat) (ch : Nat → Int32) (x : Int32) (hX : XAt cell adr kc σ hn hi L ch) (hG : Good σ) (hN : 125 ≤ N) : MI l yX6_remember wsX6_remember ({ frames := 4, cells := 0, slots := 0, locals := 89 }) D kc N adr cell [.ref (adr 0), .int x] (fun (w0 : Int32) (cell1 : Nat → va_E) => rememberR σ x = w0 ∧ XNx cell1 adr kc σ hn hi (rememberO σ x) L ch) := by
  refine met_i (cc := cX6_remember) (maxL := 3) (ret := (some .int)) (by decide) rfl (Nat.le_of_ble_eq_true rfl) (lv := [(0, .ref (adr 0)), (1, .int x)]) rfl ?_
  intro Pg Ev Sv Mi args below Me Cd Ar C hr hlk hnm
  have in5 : ∀ w ∈ u_ws RX5 TX5 5, w ∈ wsX6_remember := by decide +kernel
  have in6 : ∀ w ∈ u_ws RX6 TX6 6, w ∈ wsX6_remember := by decide +kernel
  have f10 := C.2.2.2.2.1 (.fieldLink RX6 10 "WordAnchors" "now" "LWordAnchors$State;") (by decide +kernel)
  have f47 := C.2.2.2.2.1 (.fieldLink RX6 47 "WordAnchors$State" "row" "LWordAnchors$Row;") (by decide +kernel)
  have f22 := C.2.2.2.2.1 (.fieldLink RX6 22 "WordAnchors" "history" "LWordAnchors$History;") (by decide +kernel)
  have k124 := C.2.2.2.2.1 (.constant RX6 124 (-1000002)) (by decide +kernel)
  have k60 := C.2.2.2.2.1 (.constant RX6 60 (-1000001)) (by decide +kernel)
  have hX0 := hX
  obtain ⟨x0, ⟨d0, hS, hEq⟩, ⟨dT, hST⟩, ⟨od, dh, hHI, hHE⟩, ⟨sx, nx, sg, nu, hTX⟩, ⟨bz, Sf, Mf, hBL⟩, ⟨ap, av, af, hAN⟩, hch⟩ := hX
  have en := hEq.1
  have em := hEq.2.1
  have hgn := hG.1
  have hgm := hG.2.1
  have hn40 : d0.1 ≤ 40 := hS.2.1.2.2.2.2
  have hm6 : d0.2.1 ≤ 6 := hS.2.2.2.2.2
  have hL60 : L ≤ 60 := hTX.2.2.2
  have hod : od < 4 := hHI.2.2.2.1
  have hh4 : hn ≤ 4 := hHI.2.2.2.2
  have litm1000002 : ((-1000002) : Int32).toInt = -1000002 := rfl
  have litm1000001 : ((-1000001) : Int32).toInt = -1000001 := rfl
  have litm1 : ((-1) : Int32).toInt = -1 := rfl
  have lit0 : (0 : Int32).toInt = 0 := rfl
  have lit1 : (1 : Int32).toInt = 1 := rfl
  have tn_d0_1 : (nI d0.1).toInt = ((d0.1 : Nat) : Int) := nI_toInt (by omega)
  have tn_d0_2_1 : (nI d0.2.1).toInt = ((d0.2.1 : Nat) : Int) := nI_toInt (by omega)
  have tn_L : (nI L).toInt = ((L : Nat) : Int) := nI_toInt (by omega)
  have tn_hn : (nI hn).toInt = ((hn : Nat) : Int) := nI_toInt (by omega)
  refine g_aload_n C 0 rfl dX6_remember_0 ?_
  refine g_get C 0 6 0 (by omega) x0 rfl in6 (by decide) f10 (fun _ h9 => h9) rfl dX6_remember_1 ?_
  refine g_iload_n C 1 rfl dX6_remember_4 ?_
  refine g_Vq C [.int x] 1 5 (by omega) hS.1 rfl (c_X5_anchorNumbered l D kc N adr cell 1 d0.1 d0.2.1 d0.2.2.1 d0.2.2.2.1 d0.2.2.2.2.1 d0.2.2.2.2.2.1 d0.2.2.2.2.2.2.1 d0.2.2.2.2.2.2.2.1 d0.2.2.2.2.2.2.2.2.1 d0.2.2.2.2.2.2.2.2.2 x hS (by omega)) (cwV 1 C.2.2.2.2.1 gX6_remember_X5_anchorNumbered rfl rfl rfl (by decide +kernel) ⟨Nat.le_of_ble_eq_true rfl, Nat.le_of_ble_eq_true rfl⟩) rfl rfl (Nat.le_of_ble_eq_true rfl) (Nat.zero_le _) (Nat.zero_le _) dX6_remember_5 (fun v1 cell1 q1 => ?_)
  obtain ⟨rfl, rfl⟩ := q1
  by_cases hx : 0 ≤ x.toInt ∧ x.toInt < d0.2.1
  · have hcl := cl_toInt (x := x) hx.1
    have hAx : AncAt cell adr kc (1 + 7 + 2 * x.toNatClampNeg) (d0.2.2.2.2.2.2.2.1 x.toNatClampNeg) (d0.2.2.2.2.2.2.2.2.1 x.toNatClampNeg) (d0.2.2.2.2.2.2.2.2.2 x.toNatClampNeg) := hS.2.2.2.2.1 x.toNatClampNeg (by omega)
    refine g_eqst (st1 := ([.ref (adr (1 + 7 + 2 * x.toNatClampNeg))] : List Value)) (by rw [if_pos hx]; rfl) ?_
    refine g_astore_n C [(2, .ref (adr (1 + 7 + 2 * x.toNatClampNeg))), (0, .ref (adr 0)), (1, .int x)] (by decide) rfl dX6_remember_8 ?_
    refine g_aload_n C 0 rfl dX6_remember_9 ?_
    refine g_ifnonnull C 16 (by decide) dX6_remember_10 ?_
    refine g_aload_n C 1 rfl dX6_remember_16 ?_
    refine g_get C 0 6 0 (by omega) x0 rfl in6 (by decide) f10 (fun _ h9 => h9) rfl dX6_remember_17 ?_
    refine g_get C 1 5 0 (by omega) hS.1 rfl in5 (by decide) f47 (fun _ h9 => h9) rfl dX6_remember_20 ?_
    refine g_aload_n C 0 rfl dX6_remember_23 ?_
    refine g_Vi C [] (1 + 7 + 2 * x.toNatClampNeg) 0 (by omega) hAx.1 rfl (c_X0_place l D kc N adr cell (1 + 7 + 2 * x.toNatClampNeg) (d0.2.2.2.2.2.2.2.1 x.toNatClampNeg) (d0.2.2.2.2.2.2.2.2.1 x.toNatClampNeg) (d0.2.2.2.2.2.2.2.2.2 x.toNatClampNeg)  hAx (by omega)) (cwV 0 C.2.2.2.2.1 gX6_remember_X0_place rfl rfl rfl (by decide +kernel) ⟨Nat.le_of_ble_eq_true rfl, Nat.le_of_ble_eq_true rfl⟩) rfl rfl (Nat.le_of_ble_eq_true rfl) (Nat.zero_le _) (Nat.zero_le _) dX6_remember_24 (fun v2 cell2 q2 => ?_)
    obtain ⟨rfl, rfl⟩ := q2
    refine g_Vi C [.int (d0.2.2.2.2.2.2.2.1 x.toNatClampNeg)] (1 + 1) 4 (by omega) hS.2.1.1 rfl (c_X4_holds l D kc N adr cell (1 + 1) d0.2.2.2.1 d0.2.2.2.2.1 d0.2.2.2.2.2.1 d0.1 (d0.2.2.2.2.2.2.2.1 x.toNatClampNeg) hS.2.1 (by omega)) (cwV 1 C.2.2.2.2.1 gX6_remember_X4_holds rfl rfl rfl (by decide +kernel) ⟨Nat.le_of_ble_eq_true rfl, Nat.le_of_ble_eq_true rfl⟩) rfl rfl (Nat.le_of_ble_eq_true rfl) (Nat.zero_le _) (Nat.zero_le _) dX6_remember_27 (fun v3 cell3 q3 => ?_)
    obtain ⟨rfl, rfl⟩ := q3
    refine g_if_ne C 36 (by decide) dX6_remember_30 (fun c30 => ?_) (fun c30 => ?_)
    · -- taken at 30
      have c30' := bI_t c30
      refine g_aload_n C 1 rfl dX6_remember_36 ?_
      refine g_get C 0 6 2 (by omega) x0 rfl in6 (by decide) f22 (fun _ h9 => h9) rfl dX6_remember_37 ?_
      refine g_aload_n C 1 rfl dX6_remember_40 ?_
      refine g_get C 0 6 0 (by omega) x0 rfl in6 (by decide) f10 (fun _ h9 => h9) rfl dX6_remember_41 ?_
      refine g_Vv C [.ref (adr 1)] 39 3 (by omega) hHI.1 rfl (c_X3_record l D kc N adr cell 39 od hn dh 1 d0 hHI (by omega) hS (by omega) (by omega)) (cwV 1 C.2.2.2.2.1 gX6_remember_X3_record rfl rfl rfl (by decide +kernel) ⟨Nat.le_of_ble_eq_true rfl, Nat.le_of_ble_eq_true rfl⟩) rfl rfl (Nat.le_of_ble_eq_true rfl) (Nat.zero_le _) (Nat.zero_le _) dX6_remember_44 (fun cell4 q4 => ?_)
      obtain ⟨dc, hHI_6, hEc, gf_5⟩ := q4
      have hHE1 := ring_rec hod hh4 hHE (Eqv.tr hEc hEq)
      have h_7 : cell4 0 = .inr (6, [.ref (adr 1), .ref (adr 20), .ref (adr 39), .ref (adr 117), .ref (adr 120), .ref (adr 123)]) := (gf_5 0 (by omega)).trans x0
      have h_8 : StAt cell4 adr kc 1 d0 := StAt.frame hS (fun j h1 h2 => gf_5 j (by omega))
      have h_9 : StAt cell4 adr kc 20 dT := StAt.frame hST (fun j h1 h2 => gf_5 j (by omega))
      have h_10 : TxAt cell4 adr kc 117 L sx (nI nx) sg ch nu := TxAt.frame hTX (fun j h1 h2 => gf_5 j (by omega))
      have h_11 : BlAt cell4 adr kc 120 bz Sf Mf := BlAt.frame hBL (fun j h1 h2 => gf_5 j (by omega))
      have h_12 : AncAt cell4 adr kc 123 ap av af := AncAt.frame hAN (fun j h1 h2 => gf_5 j (by omega))
      have h_13 : AncAt cell4 adr kc (1 + 7 + 2 * x.toNatClampNeg) (d0.2.2.2.2.2.2.2.1 x.toNatClampNeg) (d0.2.2.2.2.2.2.2.2.1 x.toNatClampNeg) (d0.2.2.2.2.2.2.2.2.2 x.toNatClampNeg) := AncAt.frame hAx (fun j h1 h2 => gf_5 j (by omega))
      refine g_aload_n C 0 rfl dX6_remember_47 ?_
      refine g_aload_n C 1 rfl dX6_remember_48 ?_
      refine g_get C 0 6 0 (by omega) h_7 rfl in6 (by decide) f10 (fun _ h9 => h9) rfl dX6_remember_49 ?_
      refine g_get C 1 5 0 (by omega) h_8.1 rfl in5 (by decide) f47 (fun _ h9 => h9) rfl dX6_remember_52 ?_
      refine g_Vi C [.ref (adr (1 + 1))] (1 + 7 + 2 * x.toNatClampNeg) 0 (by omega) h_13.1 rfl (c_X0_look l D kc N adr cell4 (1 + 7 + 2 * x.toNatClampNeg) (d0.2.2.2.2.2.2.2.1 x.toNatClampNeg) (d0.2.2.2.2.2.2.2.2.1 x.toNatClampNeg) (d0.2.2.2.2.2.2.2.2.2 x.toNatClampNeg) (1 + 1) d0.2.2.2.1 d0.2.2.2.2.1 d0.2.2.2.2.2.1 d0.1  h_13 (by omega) h_8.2.1 (by omega) (by omega)) (cwV 1 C.2.2.2.2.1 gX6_remember_X0_look rfl rfl rfl (by decide +kernel) ⟨Nat.le_of_ble_eq_true rfl, Nat.le_of_ble_eq_true rfl⟩) rfl rfl (Nat.le_of_ble_eq_true rfl) (Nat.zero_le _) (Nat.zero_le _) dX6_remember_55 (fun v14 cell14 q14 => ?_)
      obtain ⟨rfl, ha_16, gf_15⟩ := q14
      have hS_17 := StAt.anc h_8 (by omega) ha_16 gf_15
      have h_18 : cell14 0 = .inr (6, [.ref (adr 1), .ref (adr 20), .ref (adr 39), .ref (adr 117), .ref (adr 120), .ref (adr 123)]) := (gf_15 0 (by omega)).trans h_7
      have h_19 : StAt cell14 adr kc 20 dT := StAt.frame h_9 (fun j h1 h2 => gf_15 j (by omega))
      have h_20 : HiAt cell14 adr kc 39 (if hn < 4 then od else (od + 1) % 4) (if hn < 4 then hn + 1 else 4) (updS dh ((od + hn) % 4) dc) := HiAt.frame hHI_6 (fun j h1 h2 => gf_15 j (by omega))
      have h_21 : TxAt cell14 adr kc 117 L sx (nI nx) sg ch nu := TxAt.frame h_10 (fun j h1 h2 => gf_15 j (by omega))
      have h_22 : BlAt cell14 adr kc 120 bz Sf Mf := BlAt.frame h_11 (fun j h1 h2 => gf_15 j (by omega))
      have h_23 : AncAt cell14 adr kc 123 ap av af := AncAt.frame h_12 (fun j h1 h2 => gf_15 j (by omega))
      refine g_iret C hr rfl hlk dX6_remember_58 ?_
      have hAm : x.toNatClampNeg < σ.2.1 := by omega
      have ep := (hEq.2.2.2.2.2 _ hAm).1
      rw [ep, en] at c30'
      refine ⟨?_, XNx.yes (s := remembD x.toNatClampNeg σ) (by unfold rememberO; exact if_pos ⟨by unfold InA; omega, c30'⟩) ⟨h_18, ⟨_, hS_17, (rememb_eqv hEq hAm)⟩, ⟨_, h_19⟩, ⟨_, _, h_20, hHE1⟩, ⟨_, _, _, _, h_21⟩, ⟨_, _, _, h_22⟩, ⟨_, _, _, h_23⟩, hch⟩⟩
      unfold rememberR; rw [if_neg (by unfold InA; omega), if_neg (fun h => h c30')]
      exact congrArg nI (cnt_cong (fun j hj => by show decide (¬ σ.2.2.2.2.2.2.2.2.2 x.toNatClampNeg j = lookF σ.1 σ.2.2.2.1 (σ.2.2.2.2.2.2.2.1 x.toNatClampNeg) j) = decide (d0.2.2.2.2.2.2.2.2.2 x.toNatClampNeg j ≠ lookF d0.1 d0.2.2.2.1 (d0.2.2.2.2.2.2.2.1 x.toNatClampNeg) j); rw [(hEq.2.2.2.2.2 _ hAm).2.2 j hj, ep, en]; unfold lookF; rw [atF_cong hEq.2.2.2.1]))
    · -- not taken at 30
      have c30' := bI_f c30
      refine g_ldc C (-1000002) k124 dX6_remember_33 ?_
      refine g_iret C hr rfl hlk dX6_remember_35 ?_
      have hAm : x.toNatClampNeg < σ.2.1 := by omega
      have ep := (hEq.2.2.2.2.2 _ hAm).1
      rw [ep, en] at c30'
      exact ⟨by unfold rememberR; rw [if_neg (by unfold InA; omega)]; exact if_pos c30', XNx.no (by unfold rememberO; exact if_neg (fun h => c30' h.2)) hX0⟩
  refine g_eqst (st1 := ([.null] : List Value)) (by rw [if_neg hx]; rfl) ?_
  refine g_astore_nN C [(2, .null), (0, .ref (adr 0)), (1, .int x)] (by decide) rfl dX6_remember_8 ?_
  refine g_aload_nN C 0 rfl dX6_remember_9 ?_
  refine g_ifnonnullN C dX6_remember_10 ?_
  refine g_ldc C (-1000001) k60 dX6_remember_13 ?_
  refine g_iret C hr rfl hlk dX6_remember_15 ?_
  exact ⟨by unfold rememberR; exact if_pos (by unfold InA; omega), XNx.no (by unfold rememberO; exact if_neg (fun h => hx (by have := h.1; unfold InA at this; omega))) hX0⟩
set_option maxRecDepth 100000 in
set_option maxHeartbeats 4000000 in
theorem c_X6_wordAt (l : Launch) (D : va_G) (kc : Nat → ClassId) (N : Nat) (adr : Nat → Nat) (cell : Nat → va_E) (σ : SD) (hn : Nat) (hi : Nat → SD) (L : Nat) (ch : Nat → Int32) (x : Int32) (hX : XAt cell adr kc σ hn hi L ch) (hG : Good σ) (hN : 125 ≤ N) : MI l yX6_wordAt wsX6_wordAt ({ frames := 1, cells := 0, slots := 0, locals := 21 }) D kc N adr cell [.ref (adr 0), .int x] (fun (w0 : Int32) (cell1 : Nat → va_E) => wordAtR σ x = w0 ∧ cell = cell1) := by
  refine met_i (cc := cX6_wordAt) (maxL := 2) (ret := (some .int)) (by decide) rfl (Nat.le_of_ble_eq_true rfl) (lv := [(0, .ref (adr 0)), (1, .int x)]) rfl ?_
  intro Pg Ev Sv Mi args below Me Cd Ar C hr hlk hnm
  have in5 : ∀ w ∈ u_ws RX5 TX5 5, w ∈ wsX6_wordAt := by decide +kernel
  have in6 : ∀ w ∈ u_ws RX6 TX6 6, w ∈ wsX6_wordAt := by decide +kernel
  have f10 := C.2.2.2.2.1 (.fieldLink RX6 10 "WordAnchors" "now" "LWordAnchors$State;") (by decide +kernel)
  have f47 := C.2.2.2.2.1 (.fieldLink RX6 47 "WordAnchors$State" "row" "LWordAnchors$Row;") (by decide +kernel)
  have k60 := C.2.2.2.2.1 (.constant RX6 60 (-1000001)) (by decide +kernel)
  have hX0 := hX
  obtain ⟨x0, ⟨d0, hS, hEq⟩, ⟨dT, hST⟩, ⟨od, dh, hHI, hHE⟩, ⟨sx, nx, sg, nu, hTX⟩, ⟨bz, Sf, Mf, hBL⟩, ⟨ap, av, af, hAN⟩, hch⟩ := hX
  have en := hEq.1
  have em := hEq.2.1
  have hgn := hG.1
  have hgm := hG.2.1
  have hn40 : d0.1 ≤ 40 := hS.2.1.2.2.2.2
  have hm6 : d0.2.1 ≤ 6 := hS.2.2.2.2.2
  have hL60 : L ≤ 60 := hTX.2.2.2
  have hod : od < 4 := hHI.2.2.2.1
  have hh4 : hn ≤ 4 := hHI.2.2.2.2
  have litm1000001 : ((-1000001) : Int32).toInt = -1000001 := rfl
  have litm1 : ((-1) : Int32).toInt = -1 := rfl
  have lit0 : (0 : Int32).toInt = 0 := rfl
  have lit1 : (1 : Int32).toInt = 1 := rfl
  have tn_d0_1 : (nI d0.1).toInt = ((d0.1 : Nat) : Int) := nI_toInt (by omega)
  have tn_d0_2_1 : (nI d0.2.1).toInt = ((d0.2.1 : Nat) : Int) := nI_toInt (by omega)
  have tn_L : (nI L).toInt = ((L : Nat) : Int) := nI_toInt (by omega)
  have tn_hn : (nI hn).toInt = ((hn : Nat) : Int) := nI_toInt (by omega)
  refine g_iload_n C 1 rfl dX6_wordAt_0 ?_
  refine g_if_ge C 7 (by decide) dX6_wordAt_1 (fun c1 => ?_) (fun c1 => ?_)
  · -- taken at 1
    have c1' := i_le c1
    refine g_aload_n C 0 rfl dX6_wordAt_7 ?_
    refine g_get C 0 6 0 (by omega) x0 rfl in6 (by decide) f10 (fun _ h9 => h9) rfl dX6_wordAt_8 ?_
    refine g_get C 1 5 0 (by omega) hS.1 rfl in5 (by decide) f47 (fun _ h9 => h9) rfl dX6_wordAt_11 ?_
    refine g_iload_n C 1 rfl dX6_wordAt_14 ?_
    refine g_Vi C [.int x] (1 + 1) 4 (by omega) hS.2.1.1 rfl (c_X4_at l D kc N adr cell (1 + 1) d0.2.2.2.1 d0.2.2.2.2.1 d0.2.2.2.2.2.1 d0.1 x hS.2.1 (by omega)) (cwV 1 C.2.2.2.2.1 gX6_wordAt_X4_at rfl rfl rfl (by decide +kernel) ⟨Nat.le_of_ble_eq_true rfl, Nat.le_of_ble_eq_true rfl⟩) rfl rfl (Nat.le_of_ble_eq_true rfl) (Nat.zero_le _) (Nat.zero_le _) dX6_wordAt_15 (fun v1 cell1 q1 => ?_)
    obtain ⟨rfl, rfl⟩ := q1
    refine g_Si C [.int (atF d0.1 d0.2.2.2.1 x)] (c_X6_orNotFound l D kc N adr cell (atF d0.1 d0.2.2.2.1 x)) (va_cwS 1 C.2.2.2.2.1 gX6_wordAt_X6_orNotFound rfl rfl rfl (by decide +kernel) ⟨Nat.le_of_ble_eq_true rfl, Nat.le_of_ble_eq_true rfl⟩) rfl rfl (Nat.le_of_ble_eq_true rfl) (Nat.zero_le _) (Nat.zero_le _) dX6_wordAt_18 (fun v2 cell2 q2 => ?_)
    obtain ⟨rfl, rfl⟩ := q2
    refine g_iret C hr rfl hlk dX6_wordAt_21 ?_
    refine ⟨?_, rfl⟩
    unfold wordAtR; rw [if_neg (by omega)]
    by_cases h : x.toInt < σ.1
    · have hk := cl_toInt (x := x) (by omega)
      have hw := hG.2.2.1 x.toNatClampNeg (by omega)
      have ea : atF d0.1 d0.2.2.2.1 x = σ.2.2.2.1 x.toNatClampNeg := (if_pos (by omega)).trans (hEq.2.2.2.1 _ (by omega))
      rw [if_pos h, ea, if_neg (fun e => by rw [e] at hw; exact absurd hw.1 (by decide))]
    · have ea : atF d0.1 d0.2.2.2.1 x = -1 := if_neg (by omega)
      rw [if_neg h, ea]; rfl
  · -- not taken at 1
    have c1' := i_nle c1
    refine g_ldc C (-1000001) k60 dX6_wordAt_4 ?_
    refine g_iret C hr rfl hlk dX6_wordAt_6 ?_
    exact ⟨by unfold wordAtR; exact if_pos (by omega), rfl⟩
set_option maxRecDepth 100000 in
set_option maxHeartbeats 4000000 in
theorem c_X6_score (l : Launch) (D : va_G) (kc : Nat → ClassId) (N : Nat) (adr : Nat → Nat) (cell : Nat → va_E) (σ : SD) (hn : Nat) (hi : Nat → SD) (L : Nat) (ch : Nat → Int32) (x y : Int32) (hX : XAt cell adr kc σ hn hi L ch) (hG : Good σ) (hN : 125 ≤ N) : MI l yX6_score wsX6_score ({ frames := 2, cells := 0, slots := 0, locals := 46 }) D kc N adr cell [.ref (adr 0), .int x, .int y] (fun (w0 : Int32) (cell1 : Nat → va_E) => scoreR σ x y = w0 ∧ cell = cell1) := by
  refine met_i (cc := cX6_score) (maxL := 4) (ret := (some .int)) (by decide) rfl (Nat.le_of_ble_eq_true rfl) (lv := [(0, .ref (adr 0)), (1, .int x), (2, .int y)]) rfl ?_
  intro Pg Ev Sv Mi args below Me Cd Ar C hr hlk hnm
  have in5 : ∀ w ∈ u_ws RX5 TX5 5, w ∈ wsX6_score := by decide +kernel
  have in6 : ∀ w ∈ u_ws RX6 TX6 6, w ∈ wsX6_score := by decide +kernel
  have f10 := C.2.2.2.2.1 (.fieldLink RX6 10 "WordAnchors" "now" "LWordAnchors$State;") (by decide +kernel)
  have f47 := C.2.2.2.2.1 (.fieldLink RX6 47 "WordAnchors$State" "row" "LWordAnchors$Row;") (by decide +kernel)
  have k60 := C.2.2.2.2.1 (.constant RX6 60 (-1000001)) (by decide +kernel)
  have hX0 := hX
  obtain ⟨x0, ⟨d0, hS, hEq⟩, ⟨dT, hST⟩, ⟨od, dh, hHI, hHE⟩, ⟨sx, nx, sg, nu, hTX⟩, ⟨bz, Sf, Mf, hBL⟩, ⟨ap, av, af, hAN⟩, hch⟩ := hX
  have en := hEq.1
  have em := hEq.2.1
  have hgn := hG.1
  have hgm := hG.2.1
  have hn40 : d0.1 ≤ 40 := hS.2.1.2.2.2.2
  have hm6 : d0.2.1 ≤ 6 := hS.2.2.2.2.2
  have hL60 : L ≤ 60 := hTX.2.2.2
  have hod : od < 4 := hHI.2.2.2.1
  have hh4 : hn ≤ 4 := hHI.2.2.2.2
  have litm1000001 : ((-1000001) : Int32).toInt = -1000001 := rfl
  have litm1 : ((-1) : Int32).toInt = -1 := rfl
  have lit0 : (0 : Int32).toInt = 0 := rfl
  have lit1 : (1 : Int32).toInt = 1 := rfl
  have tn_d0_1 : (nI d0.1).toInt = ((d0.1 : Nat) : Int) := nI_toInt (by omega)
  have tn_d0_2_1 : (nI d0.2.1).toInt = ((d0.2.1 : Nat) : Int) := nI_toInt (by omega)
  have tn_L : (nI L).toInt = ((L : Nat) : Int) := nI_toInt (by omega)
  have tn_hn : (nI hn).toInt = ((hn : Nat) : Int) := nI_toInt (by omega)
  refine g_aload_n C 0 rfl dX6_score_0 ?_
  refine g_get C 0 6 0 (by omega) x0 rfl in6 (by decide) f10 (fun _ h9 => h9) rfl dX6_score_1 ?_
  refine g_iload_n C 1 rfl dX6_score_4 ?_
  refine g_Vq C [.int x] 1 5 (by omega) hS.1 rfl (c_X5_anchorNumbered l D kc N adr cell 1 d0.1 d0.2.1 d0.2.2.1 d0.2.2.2.1 d0.2.2.2.2.1 d0.2.2.2.2.2.1 d0.2.2.2.2.2.2.1 d0.2.2.2.2.2.2.2.1 d0.2.2.2.2.2.2.2.2.1 d0.2.2.2.2.2.2.2.2.2 x hS (by omega)) (cwV 1 C.2.2.2.2.1 gX6_score_X5_anchorNumbered rfl rfl rfl (by decide +kernel) ⟨Nat.le_of_ble_eq_true rfl, Nat.le_of_ble_eq_true rfl⟩) rfl rfl (Nat.le_of_ble_eq_true rfl) (Nat.zero_le _) (Nat.zero_le _) dX6_score_5 (fun v1 cell1 q1 => ?_)
  obtain ⟨rfl, rfl⟩ := q1
  by_cases hx : 0 ≤ x.toInt ∧ x.toInt < d0.2.1
  · have hcl := cl_toInt (x := x) hx.1
    have hAx : AncAt cell adr kc (1 + 7 + 2 * x.toNatClampNeg) (d0.2.2.2.2.2.2.2.1 x.toNatClampNeg) (d0.2.2.2.2.2.2.2.2.1 x.toNatClampNeg) (d0.2.2.2.2.2.2.2.2.2 x.toNatClampNeg) := hS.2.2.2.2.1 x.toNatClampNeg (by omega)
    refine g_eqst (st1 := ([.ref (adr (1 + 7 + 2 * x.toNatClampNeg))] : List Value)) (by rw [if_pos hx]; rfl) ?_
    refine g_astore_n C [(3, .ref (adr (1 + 7 + 2 * x.toNatClampNeg))), (0, .ref (adr 0)), (1, .int x), (2, .int y)] (by decide) rfl dX6_score_8 ?_
    refine g_aload_n C 0 rfl dX6_score_9 ?_
    refine g_ifnull C dX6_score_10 ?_
    refine g_aload_n C 1 rfl dX6_score_13 ?_
    refine g_get C 0 6 0 (by omega) x0 rfl in6 (by decide) f10 (fun _ h9 => h9) rfl dX6_score_14 ?_
    refine g_get C 1 5 0 (by omega) hS.1 rfl in5 (by decide) f47 (fun _ h9 => h9) rfl dX6_score_17 ?_
    refine g_iload_n C 3 rfl dX6_score_20 ?_
    refine g_Vi C [.int y] (1 + 1) 4 (by omega) hS.2.1.1 rfl (c_X4_holds l D kc N adr cell (1 + 1) d0.2.2.2.1 d0.2.2.2.2.1 d0.2.2.2.2.2.1 d0.1 y hS.2.1 (by omega)) (cwV 1 C.2.2.2.2.1 gX6_score_X4_holds rfl rfl rfl (by decide +kernel) ⟨Nat.le_of_ble_eq_true rfl, Nat.le_of_ble_eq_true rfl⟩) rfl rfl (Nat.le_of_ble_eq_true rfl) (Nat.zero_le _) (Nat.zero_le _) dX6_score_21 (fun v2 cell2 q2 => ?_)
    obtain ⟨rfl, rfl⟩ := q2
    refine g_if_ne C 30 (by decide) dX6_score_24 (fun c24 => ?_) (fun c24 => ?_)
    · -- taken at 24
      have c24' := bI_t c24
      refine g_aload_n C 1 rfl dX6_score_30 ?_
      refine g_get C 0 6 0 (by omega) x0 rfl in6 (by decide) f10 (fun _ h9 => h9) rfl dX6_score_31 ?_
      refine g_aload_n C 0 rfl dX6_score_34 ?_
      refine g_iload_n C 3 rfl dX6_score_35 ?_
      refine g_Vi C [.ref (adr (1 + 7 + 2 * x.toNatClampNeg)), .int y] 1 5 (by omega) hS.1 rfl (c_X5_scoreOf l D kc N adr cell 1 d0.1 d0.2.1 d0.2.2.1 d0.2.2.2.1 d0.2.2.2.2.1 d0.2.2.2.2.2.1 d0.2.2.2.2.2.2.1 d0.2.2.2.2.2.2.2.1 d0.2.2.2.2.2.2.2.2.1 d0.2.2.2.2.2.2.2.2.2 (1 + 7 + 2 * x.toNatClampNeg) (d0.2.2.2.2.2.2.2.1 x.toNatClampNeg) (d0.2.2.2.2.2.2.2.2.1 x.toNatClampNeg) (d0.2.2.2.2.2.2.2.2.2 x.toNatClampNeg) y hS (by omega) hAx (by omega)) (cwV 2 C.2.2.2.2.1 gX6_score_X5_scoreOf rfl rfl rfl (by decide +kernel) ⟨Nat.le_of_ble_eq_true rfl, Nat.le_of_ble_eq_true rfl⟩) rfl rfl (Nat.le_of_ble_eq_true rfl) (Nat.zero_le _) (Nat.zero_le _) dX6_score_36 (fun v3 cell3 q3 => ?_)
      obtain ⟨rfl, rfl⟩ := q3
      refine g_iret C hr rfl hlk dX6_score_39 ?_
      have hAm : x.toNatClampNeg < σ.2.1 := by omega
      exact ⟨by unfold scoreR; rw [if_neg (fun h => h ⟨by unfold InA; omega, by omega⟩)]; exact (eS hEq hAm y).symm, rfl⟩
    · -- not taken at 24
      have c24' := bI_f c24
      refine g_ldc C (-1000001) k60 dX6_score_27 ?_
      refine g_iret C hr rfl hlk dX6_score_29 ?_
      exact ⟨by unfold scoreR; exact if_pos (fun h => c24' (by have := h.2; omega)), rfl⟩
  refine g_eqst (st1 := ([.null] : List Value)) (by rw [if_neg hx]; rfl) ?_
  refine g_astore_nN C [(3, .null), (0, .ref (adr 0)), (1, .int x), (2, .int y)] (by decide) rfl dX6_score_8 ?_
  refine g_aload_nN C 0 rfl dX6_score_9 ?_
  refine g_ifnullN C 27 (by decide) dX6_score_10 ?_
  refine g_ldc C (-1000001) k60 dX6_score_27 ?_
  refine g_iret C hr rfl hlk dX6_score_29 ?_
  exact ⟨by unfold scoreR; exact if_pos (fun h => hx (by have := h.1; unfold InA at this; omega)), rfl⟩
set_option maxRecDepth 100000 in
set_option maxHeartbeats 4000000 in
theorem c_X6_anchors (l : Launch) (D : va_G) (kc : Nat → ClassId) (N : Nat) (adr : Nat → Nat) (cell : Nat → va_E) (σ : SD) (hn : Nat) (hi : Nat → SD) (L : Nat) (ch : Nat → Int32) (x : Int32) (hX : XAt cell adr kc σ hn hi L ch) (hG : Good σ) (hN : 125 ≤ N) : MI l yX6_anchors wsX6_anchors ({ frames := 6, cells := 0, slots := 0, locals := 145 }) D kc N adr cell [.ref (adr 0), .int x] (fun (w0 : Int32) (cell1 : Nat → va_E) => anchorsR σ x = w0 ∧ cell = cell1) := by
  refine met_i (cc := cX6_anchors) (maxL := 2) (ret := (some .int)) (by decide) rfl (Nat.le_of_ble_eq_true rfl) (lv := [(0, .ref (adr 0)), (1, .int x)]) rfl ?_
  intro Pg Ev Sv Mi args below Me Cd Ar C hr hlk hnm
  have in6 : ∀ w ∈ u_ws RX6 TX6 6, w ∈ wsX6_anchors := by decide +kernel
  have k60 := C.2.2.2.2.1 (.constant RX6 60 (-1000001)) (by decide +kernel)
  have f10 := C.2.2.2.2.1 (.fieldLink RX6 10 "WordAnchors" "now" "LWordAnchors$State;") (by decide +kernel)
  have hX0 := hX
  obtain ⟨x0, ⟨d0, hS, hEq⟩, ⟨dT, hST⟩, ⟨od, dh, hHI, hHE⟩, ⟨sx, nx, sg, nu, hTX⟩, ⟨bz, Sf, Mf, hBL⟩, ⟨ap, av, af, hAN⟩, hch⟩ := hX
  have en := hEq.1
  have em := hEq.2.1
  have hgn := hG.1
  have hgm := hG.2.1
  have hn40 : d0.1 ≤ 40 := hS.2.1.2.2.2.2
  have hm6 : d0.2.1 ≤ 6 := hS.2.2.2.2.2
  have hL60 : L ≤ 60 := hTX.2.2.2
  have hod : od < 4 := hHI.2.2.2.1
  have hh4 : hn ≤ 4 := hHI.2.2.2.2
  have litm1000001 : ((-1000001) : Int32).toInt = -1000001 := rfl
  have litm1 : ((-1) : Int32).toInt = -1 := rfl
  have lit0 : (0 : Int32).toInt = 0 := rfl
  have lit1 : (1 : Int32).toInt = 1 := rfl
  have lit5 : (5 : Int32).toInt = 5 := rfl
  have tn_d0_1 : (nI d0.1).toInt = ((d0.1 : Nat) : Int) := nI_toInt (by omega)
  have tn_d0_2_1 : (nI d0.2.1).toInt = ((d0.2.1 : Nat) : Int) := nI_toInt (by omega)
  have tn_L : (nI L).toInt = ((L : Nat) : Int) := nI_toInt (by omega)
  have tn_hn : (nI hn).toInt = ((hn : Nat) : Int) := nI_toInt (by omega)
  refine g_iload_n C 1 rfl dX6_anchors_0 ?_
  refine g_if_lt C 9 (by decide) dX6_anchors_1 (fun c1 => ?_) (fun c1 => ?_)
  · -- taken at 1
    have c1' := i_lt c1
    refine g_ldc C (-1000001) k60 dX6_anchors_9 ?_
    refine g_iret C hr rfl hlk dX6_anchors_11 ?_
    exact ⟨by unfold anchorsR; exact if_pos (by omega), rfl⟩
  · -- not taken at 1
    have c1' := i_nlt c1
    refine g_iload_n C 1 rfl dX6_anchors_4 ?_
    refine g_iconst C 5 (by decide) dX6_anchors_5 ?_
    refine g_icmp_le C 12 (by decide) dX6_anchors_6 (fun c6 => ?_) (fun c6 => ?_)
    · -- taken at 6
      have c6' := i_le c6
      refine g_aload_n C 0 rfl dX6_anchors_12 ?_
      refine g_get C 0 6 0 (by omega) x0 rfl in6 (by decide) f10 (fun _ h9 => h9) rfl dX6_anchors_13 ?_
      refine g_iload_n C 1 rfl dX6_anchors_16 ?_
      refine g_Vi C [.int x] 1 5 (by omega) hS.1 rfl (c_X5_anchorsOfKind l D kc N adr cell 1 d0.1 d0.2.1 d0.2.2.1 d0.2.2.2.1 d0.2.2.2.2.1 d0.2.2.2.2.2.1 d0.2.2.2.2.2.2.1 d0.2.2.2.2.2.2.2.1 d0.2.2.2.2.2.2.2.2.1 d0.2.2.2.2.2.2.2.2.2 x hS (by omega)) (cwV 1 C.2.2.2.2.1 gX6_anchors_X5_anchorsOfKind rfl rfl rfl (by decide +kernel) ⟨Nat.le_of_ble_eq_true rfl, Nat.le_of_ble_eq_true rfl⟩) rfl rfl (Nat.le_of_ble_eq_true rfl) (Nat.zero_le _) (Nat.zero_le _) dX6_anchors_17 (fun v1 cell1 q1 => ?_)
      obtain ⟨rfl, rfl⟩ := q1
      refine g_iret C hr rfl hlk dX6_anchors_20 ?_
      exact ⟨by unfold anchorsR; rw [if_neg (by omega), em, knd_aKs]; exact (eKs hEq x _ (Nat.le_refl _)).symm, rfl⟩
    · -- not taken at 6
      have c6' := i_nle c6
      refine g_ldc C (-1000001) k60 dX6_anchors_9 ?_
      refine g_iret C hr rfl hlk dX6_anchors_11 ?_
      exact ⟨by unfold anchorsR; exact if_pos (by omega), rfl⟩
