set_option maxRecDepth 100000 in
set_option maxHeartbeats 4000000 in
theorem c_X6_isWord (l : Launch) (D : va_G) (kc : Nat → ClassId) (N : Nat) (adr : Nat → Nat) (cell : Nat → va_E) (x : Int32)  : MI l yX6_isWord wsX6_isWord ({ frames := 0, cells := 0, slots := 0, locals := 0 }) D kc N adr cell [.int x] (fun (w : Int32) (cell1 : Nat → va_E) => bI (decide (0 ≤ x.toInt ∧ x.toInt ≤ 99)) = w ∧ cell = cell1) := by
  refine met_i (cc := cX6_isWord) (maxL := 1) (ret := (some .boolean)) (by decide) rfl (Nat.le_of_ble_eq_true rfl) (lv := [(0, .int x)]) rfl ?_
  intro Pg Ev Sv Mi args below Me Cd Ar C hr hlk hnm
  have litm1 : ((-1) : Int32).toInt = -1 := rfl
  have lit0 : (0 : Int32).toInt = 0 := rfl
  have lit1 : (1 : Int32).toInt = 1 := rfl
  have lit99 : (99 : Int32).toInt = 99 := rfl
  refine g_iload_n C 0 rfl dX6_isWord_0 ?_
  refine g_if_lt C 14 (by decide) dX6_isWord_1 (fun c1 => ?_) (fun c1 => ?_)
  · -- taken at 1
    have c1' := i_lt c1
    refine g_iconst C 0 (by decide) dX6_isWord_14 ?_
    refine g_iret C hr rfl hlk dX6_isWord_15 ?_
    exact ⟨by first | rfl | exact bI_1 (by omega) | exact bI_0 (by omega) | exact if_pos (by omega) | exact if_neg (by omega), rfl⟩
  · -- not taken at 1
    have c1' := i_nlt c1
    refine g_iload_n C 0 rfl dX6_isWord_4 ?_
    refine g_bipush C 99 (by decide) dX6_isWord_5 ?_
    refine g_icmp_gt C 14 (by decide) dX6_isWord_7 (fun c7 => ?_) (fun c7 => ?_)
    · -- taken at 7
      have c7' := i_lt c7
      refine g_iconst C 0 (by decide) dX6_isWord_14 ?_
      refine g_iret C hr rfl hlk dX6_isWord_15 ?_
      exact ⟨by first | rfl | exact bI_1 (by omega) | exact bI_0 (by omega) | exact if_pos (by omega) | exact if_neg (by omega), rfl⟩
    · -- not taken at 7
      have c7' := i_nlt c7
      refine g_iconst C 1 (by decide) dX6_isWord_10 ?_
      refine g_goto C 15 (by decide) dX6_isWord_11 ?_
      refine g_iret C hr rfl hlk dX6_isWord_15 ?_
      exact ⟨by first | rfl | exact bI_1 (by omega) | exact bI_0 (by omega) | exact if_pos (by omega) | exact if_neg (by omega), rfl⟩
set_option maxRecDepth 100000 in
set_option maxHeartbeats 4000000 in
theorem c_X6_orNotFound (l : Launch) (D : va_G) (kc : Nat → ClassId) (N : Nat) (adr : Nat → Nat) (cell : Nat → va_E) (x : Int32)  : MI l yX6_orNotFound wsX6_orNotFound ({ frames := 0, cells := 0, slots := 0, locals := 0 }) D kc N adr cell [.int x] (fun (w : Int32) (cell1 : Nat → va_E) => (if x = -1 then -1000004 else x) = w ∧ cell = cell1) := by
  refine met_i (cc := cX6_orNotFound) (maxL := 1) (ret := (some .int)) (by decide) rfl (Nat.le_of_ble_eq_true rfl) (lv := [(0, .int x)]) rfl ?_
  intro Pg Ev Sv Mi args below Me Cd Ar C hr hlk hnm
  have k182 := C.2.2.2.2.1 (.constant RX6 182 (-1000004)) (by decide +kernel)
  have litm1000004 : ((-1000004) : Int32).toInt = -1000004 := rfl
  have litm1 : ((-1) : Int32).toInt = -1 := rfl
  have lit0 : (0 : Int32).toInt = 0 := rfl
  have lit1 : (1 : Int32).toInt = 1 := rfl
  refine g_iload_n C 0 rfl dX6_orNotFound_0 ?_
  refine g_iconst C (-1) (by decide) dX6_orNotFound_1 ?_
  refine g_icmp_ne C 10 (by decide) dX6_orNotFound_2 (fun c2 => ?_) (fun c2 => ?_)
  · -- taken at 2
    have c2' := i_ne c2
    refine g_iload_n C 0 rfl dX6_orNotFound_10 ?_
    refine g_iret C hr rfl hlk dX6_orNotFound_11 ?_
    exact ⟨if_neg c2, rfl⟩
  · -- not taken at 2
    have c2' := i_eq c2
    refine g_ldc C (-1000004) k182 dX6_orNotFound_5 ?_
    refine g_goto C 11 (by decide) dX6_orNotFound_7 ?_
    refine g_iret C hr rfl hlk dX6_orNotFound_11 ?_
    exact ⟨if_pos c2, rfl⟩
set_option maxRecDepth 100000 in
set_option maxHeartbeats 4000000 in
theorem c_X6_put (l : Launch) (D : va_G) (kc : Nat → ClassId) (N : Nat) (adr : Nat → Nat) (cell : Nat → va_E) (σ : SD) (hn : Nat) (hi : Nat → SD) (L : Nat) (ch : Nat → Int32) (x w : Int32) (hX : XAt cell adr kc σ hn hi L ch) (hG : Good σ) (hN : 125 ≤ N) : MI l yX6_put wsX6_put ({ frames := 4, cells := 0, slots := 0, locals := 90 }) D kc N adr cell [.ref (adr 0), .int x, .int w] (fun (w0 : Int32) (cell1 : Nat → va_E) => putR σ x w = w0 ∧ XNx cell1 adr kc σ hn hi (putO σ x w) L ch) := by
  refine met_i (cc := cX6_put) (maxL := 3) (ret := (some .int)) (by decide) rfl (Nat.le_of_ble_eq_true rfl) (lv := [(0, .ref (adr 0)), (1, .int x), (2, .int w)]) rfl ?_
  intro Pg Ev Sv Mi args below Me Cd Ar C hr hlk hnm
  have in5 : ∀ w ∈ u_ws RX5 TX5 5, w ∈ wsX6_put := by decide +kernel
  have in6 : ∀ w ∈ u_ws RX6 TX6 6, w ∈ wsX6_put := by decide +kernel
  have f10 := C.2.2.2.2.1 (.fieldLink RX6 10 "WordAnchors" "now" "LWordAnchors$State;") (by decide +kernel)
  have f47 := C.2.2.2.2.1 (.fieldLink RX6 47 "WordAnchors$State" "row" "LWordAnchors$Row;") (by decide +kernel)
  have k60 := C.2.2.2.2.1 (.constant RX6 60 (-1000001)) (by decide +kernel)
  have f22 := C.2.2.2.2.1 (.fieldLink RX6 22 "WordAnchors" "history" "LWordAnchors$History;") (by decide +kernel)
  have k65 := C.2.2.2.2.1 (.constant RX6 65 (-1000003)) (by decide +kernel)
  have hX0 := hX
  obtain ⟨x0, ⟨d0, hS, hEq⟩, ⟨dT, hST⟩, ⟨od, dh, hHI, hHE⟩, ⟨sx, nx, sg, nu, hTX⟩, ⟨bz, Sf, Mf, hBL⟩, ⟨ap, av, af, hAN⟩, hch⟩ := hX
  have en := hEq.1
  have em := hEq.2.1
  have hgn := hG.1
  have hgm := hG.2.1
  have hn40 : d0.1 ≤ 40 := hS.2.1.2.2.2.2
  have hm6 : d0.2.1 ≤ 6 := hS.2.2.2.2.2
  have hL60 : L ≤ 60 := hTX.2.2.2
  have hod : od < 4 := hHI.2.2.2.1
  have hh4 : hn ≤ 4 := hHI.2.2.2.2
  have litm1000003 : ((-1000003) : Int32).toInt = -1000003 := rfl
  have litm1000001 : ((-1000001) : Int32).toInt = -1000001 := rfl
  have litm1 : ((-1) : Int32).toInt = -1 := rfl
  have lit0 : (0 : Int32).toInt = 0 := rfl
  have lit1 : (1 : Int32).toInt = 1 := rfl
  have tn_d0_1 : (nI d0.1).toInt = ((d0.1 : Nat) : Int) := nI_toInt (by omega)
  have tn_d0_2_1 : (nI d0.2.1).toInt = ((d0.2.1 : Nat) : Int) := nI_toInt (by omega)
  have tn_L : (nI L).toInt = ((L : Nat) : Int) := nI_toInt (by omega)
  have tn_hn : (nI hn).toInt = ((hn : Nat) : Int) := nI_toInt (by omega)
  refine g_aload_n C 0 rfl dX6_put_0 ?_
  refine g_get C 0 6 0 (by omega) x0 rfl in6 (by decide) f10 (fun _ h9 => h9) rfl dX6_put_1 ?_
  refine g_get C 1 5 0 (by omega) hS.1 rfl in5 (by decide) f47 (fun _ h9 => h9) rfl dX6_put_4 ?_
  refine g_iload_n C 1 rfl dX6_put_7 ?_
  refine g_Vi C [.int x] (1 + 1) 4 (by omega) hS.2.1.1 rfl (c_X4_takesAt l D kc N adr cell (1 + 1) d0.2.2.2.1 d0.2.2.2.2.1 d0.2.2.2.2.2.1 d0.1 x hS.2.1 (by omega)) (cwV 1 C.2.2.2.2.1 gX6_put_X4_takesAt rfl rfl rfl (by decide +kernel) ⟨Nat.le_of_ble_eq_true rfl, Nat.le_of_ble_eq_true rfl⟩) rfl rfl (Nat.le_of_ble_eq_true rfl) (Nat.zero_le _) (Nat.zero_le _) dX6_put_8 (fun v1 cell1 q1 => ?_)
  obtain ⟨rfl, rfl⟩ := q1
  refine g_if_eq C 21 (by decide) dX6_put_11 (fun c11 => ?_) (fun c11 => ?_)
  · -- taken at 11
    have c11' := bI_f c11
    refine g_ldc C (-1000001) k60 dX6_put_21 ?_
    refine g_iret C hr rfl hlk dX6_put_23 ?_
    exact ⟨by unfold putR; exact if_pos (by omega), XNx.no (by unfold putO; exact if_neg (by omega)) hX0⟩
  · -- not taken at 11
    have c11' := bI_t c11
    refine g_iload_n C 2 rfl dX6_put_14 ?_
    refine g_Si C [.int w] (c_X6_isWord l D kc N adr cell w) (va_cwS 1 C.2.2.2.2.1 gX6_put_X6_isWord rfl rfl rfl (by decide +kernel) ⟨Nat.le_of_ble_eq_true rfl, Nat.le_of_ble_eq_true rfl⟩) rfl rfl (Nat.le_of_ble_eq_true rfl) (Nat.zero_le _) (Nat.zero_le _) dX6_put_15 (fun v2 cell2 q2 => ?_)
    obtain ⟨rfl, rfl⟩ := q2
    refine g_if_ne C 24 (by decide) dX6_put_18 (fun c18 => ?_) (fun c18 => ?_)
    · -- taken at 18
      have c18' := bI_t c18
      refine g_aload_n C 0 rfl dX6_put_24 ?_
      refine g_get C 0 6 0 (by omega) x0 rfl in6 (by decide) f10 (fun _ h9 => h9) rfl dX6_put_25 ?_
      refine g_get C 1 5 0 (by omega) hS.1 rfl in5 (by decide) f47 (fun _ h9 => h9) rfl dX6_put_28 ?_
      refine g_Vi C [] (1 + 1) 4 (by omega) hS.2.1.1 rfl (c_X4_isFull l D kc N adr cell (1 + 1) d0.2.2.2.1 d0.2.2.2.2.1 d0.2.2.2.2.2.1 d0.1  hS.2.1 (by omega)) (cwV 0 C.2.2.2.2.1 gX6_put_X4_isFull rfl rfl rfl (by decide +kernel) ⟨Nat.le_of_ble_eq_true rfl, Nat.le_of_ble_eq_true rfl⟩) rfl rfl (Nat.le_of_ble_eq_true rfl) (Nat.zero_le _) (Nat.zero_le _) dX6_put_31 (fun v3 cell3 q3 => ?_)
      obtain ⟨rfl, rfl⟩ := q3
      refine g_if_eq C 40 (by decide) dX6_put_34 (fun c34 => ?_) (fun c34 => ?_)
      · -- taken at 34
        have c34' := bI_f c34
        have ez : x = nI x.toNatClampNeg := nI_cl (by omega)
        have kz := cl_toInt (x := x) (by omega)
        generalize hzz : x.toNatClampNeg = z at ez kz
        refine g_eqlv (lv1 := [(0, .ref (adr 0)), (1, .int (nI z)), (2, .int w)]) (congrArg (fun z0 : Int32 => ([(0, .ref (adr 0)), (1, .int z0), (2, .int w)] : List (Nat × Value))) ez) ?_
        refine g_aload_n C 0 rfl dX6_put_40 ?_
        refine g_get C 0 6 2 (by omega) x0 rfl in6 (by decide) f22 (fun _ h9 => h9) rfl dX6_put_41 ?_
        refine g_aload_n C 0 rfl dX6_put_44 ?_
        refine g_get C 0 6 0 (by omega) x0 rfl in6 (by decide) f10 (fun _ h9 => h9) rfl dX6_put_45 ?_
        refine g_Vv C [.ref (adr 1)] 39 3 (by omega) hHI.1 rfl (c_X3_record l D kc N adr cell 39 od hn dh 1 d0 hHI (by omega) hS (by omega) (by omega)) (cwV 1 C.2.2.2.2.1 gX6_put_X3_record rfl rfl rfl (by decide +kernel) ⟨Nat.le_of_ble_eq_true rfl, Nat.le_of_ble_eq_true rfl⟩) rfl rfl (Nat.le_of_ble_eq_true rfl) (Nat.zero_le _) (Nat.zero_le _) dX6_put_48 (fun cell4 q4 => ?_)
        obtain ⟨dc, hHI_6, hEc, gf_5⟩ := q4
        have hHE1 := ring_rec hod hh4 hHE (Eqv.tr hEc hEq)
        have h_7 : cell4 0 = .inr (6, [.ref (adr 1), .ref (adr 20), .ref (adr 39), .ref (adr 117), .ref (adr 120), .ref (adr 123)]) := (gf_5 0 (by omega)).trans x0
        have h_8 : StAt cell4 adr kc 1 d0 := StAt.frame hS (fun j h1 h2 => gf_5 j (by omega))
        have h_9 : StAt cell4 adr kc 20 dT := StAt.frame hST (fun j h1 h2 => gf_5 j (by omega))
        have h_10 : TxAt cell4 adr kc 117 L sx (nI nx) sg ch nu := TxAt.frame hTX (fun j h1 h2 => gf_5 j (by omega))
        have h_11 : BlAt cell4 adr kc 120 bz Sf Mf := BlAt.frame hBL (fun j h1 h2 => gf_5 j (by omega))
        have h_12 : AncAt cell4 adr kc 123 ap av af := AncAt.frame hAN (fun j h1 h2 => gf_5 j (by omega))
        refine g_aload_n C 0 rfl dX6_put_51 ?_
        refine g_get C 0 6 0 (by omega) h_7 rfl in6 (by decide) f10 (fun _ h9 => h9) rfl dX6_put_52 ?_
        refine g_iload_n C 1 rfl dX6_put_55 ?_
        refine g_iload_n C 2 rfl dX6_put_56 ?_
        refine g_Vv C [.int (nI z), .int w] 1 5 (by omega) h_8.1 rfl (c_X5_insertWord l D kc N adr cell4 1 d0.1 d0.2.1 d0.2.2.1 d0.2.2.2.1 d0.2.2.2.2.1 d0.2.2.2.2.2.1 d0.2.2.2.2.2.2.1 d0.2.2.2.2.2.2.2.1 d0.2.2.2.2.2.2.2.2.1 d0.2.2.2.2.2.2.2.2.2 z w h_8 (by omega) (by omega)) (cwV 2 C.2.2.2.2.1 gX6_put_X5_insertWord rfl rfl rfl (by decide +kernel) ⟨Nat.le_of_ble_eq_true rfl, Nat.le_of_ble_eq_true rfl⟩) rfl rfl (Nat.le_of_ble_eq_true rfl) (Nat.zero_le _) (Nat.zero_le _) dX6_put_57 (fun cell13 q13 => ?_)
        obtain ⟨d_15, hS_16, hE_17, gf_14⟩ := ins_new (by omega) q13
        have h_18 : cell13 0 = .inr (6, [.ref (adr 1), .ref (adr 20), .ref (adr 39), .ref (adr 117), .ref (adr 120), .ref (adr 123)]) := (gf_14 0 (by omega)).trans h_7
        have h_19 : StAt cell13 adr kc 20 dT := StAt.frame h_9 (fun j h1 h2 => gf_14 j (by omega))
        have h_20 : HiAt cell13 adr kc 39 (if hn < 4 then od else (od + 1) % 4) (if hn < 4 then hn + 1 else 4) (updS dh ((od + hn) % 4) dc) := HiAt.frame hHI_6 (fun j h1 h2 => gf_14 j (by omega))
        have h_21 : TxAt cell13 adr kc 117 L sx (nI nx) sg ch nu := TxAt.frame h_10 (fun j h1 h2 => gf_14 j (by omega))
        have h_22 : BlAt cell13 adr kc 120 bz Sf Mf := BlAt.frame h_11 (fun j h1 h2 => gf_14 j (by omega))
        have h_23 : AncAt cell13 adr kc 123 ap av af := AncAt.frame h_12 (fun j h1 h2 => gf_14 j (by omega))
        refine g_aload_n C 0 rfl dX6_put_60 ?_
        refine g_get C 0 6 0 (by omega) h_18 rfl in6 (by decide) f10 (fun _ h9 => h9) rfl dX6_put_61 ?_
        refine g_get C 1 5 0 (by omega) hS_16.1 rfl in5 (by decide) f47 (fun _ h9 => h9) rfl dX6_put_64 ?_
        refine g_Vi C [] (1 + 1) 4 (by omega) hS_16.2.1.1 rfl (c_X4_size l D kc N adr cell13 (1 + 1) d_15.2.2.2.1 d_15.2.2.2.2.1 d_15.2.2.2.2.2.1 d_15.1  hS_16.2.1 (by omega)) (cwV 0 C.2.2.2.2.1 gX6_put_X4_size rfl rfl rfl (by decide +kernel) ⟨Nat.le_of_ble_eq_true rfl, Nat.le_of_ble_eq_true rfl⟩) rfl rfl (Nat.le_of_ble_eq_true rfl) (Nat.zero_le _) (Nat.zero_le _) dX6_put_67 (fun v24 cell24 q24 => ?_)
        obtain ⟨rfl, rfl⟩ := q24
        refine g_iret C hr rfl hlk dX6_put_70 ?_
        refine ⟨?_, XNx.yes (s := insD z w σ) (by unfold putO; rw [hzz]; exact if_pos (by omega)) ⟨h_18, ⟨_, hS_16, hE_17 σ hEq hG⟩, ⟨_, h_19⟩, ⟨_, _, h_20, hHE1⟩, ⟨_, _, _, _, h_21⟩, ⟨_, _, _, h_22⟩, ⟨_, _, _, h_23⟩, hch⟩⟩
        unfold putR; rw [if_neg (by omega), if_neg (by omega)]; rw [(hE_17 σ hEq hG).1]; rfl
      · -- not taken at 34
        have c34' := bI_t c34
        refine g_ldc C (-1000003) k65 dX6_put_37 ?_
        refine g_iret C hr rfl hlk dX6_put_39 ?_
        exact ⟨by unfold putR; rw [if_neg (by omega)]; exact if_pos (by omega), XNx.no (by unfold putO; exact if_neg (by omega)) hX0⟩
    · -- not taken at 18
      have c18' := bI_f c18
      refine g_ldc C (-1000001) k60 dX6_put_21 ?_
      refine g_iret C hr rfl hlk dX6_put_23 ?_
      exact ⟨by unfold putR; exact if_pos (by omega), XNx.no (by unfold putO; exact if_neg (by omega)) hX0⟩
set_option maxRecDepth 100000 in
set_option maxHeartbeats 4000000 in
theorem c_X6_take (l : Launch) (D : va_G) (kc : Nat → ClassId) (N : Nat) (adr : Nat → Nat) (cell : Nat → va_E) (σ : SD) (hn : Nat) (hi : Nat → SD) (L : Nat) (ch : Nat → Int32) (x : Int32) (hX : XAt cell adr kc σ hn hi L ch) (hG : Good σ) (hN : 125 ≤ N) : MI l yX6_take wsX6_take ({ frames := 4, cells := 0, slots := 0, locals := 89 }) D kc N adr cell [.ref (adr 0), .int x] (fun (w0 : Int32) (cell1 : Nat → va_E) => takeR σ x = w0 ∧ XNx cell1 adr kc σ hn hi (takeO σ x) L ch) := by
  refine met_i (cc := cX6_take) (maxL := 3) (ret := (some .int)) (by decide) rfl (Nat.le_of_ble_eq_true rfl) (lv := [(0, .ref (adr 0)), (1, .int x)]) rfl ?_
  intro Pg Ev Sv Mi args below Me Cd Ar C hr hlk hnm
  have in5 : ∀ w ∈ u_ws RX5 TX5 5, w ∈ wsX6_take := by decide +kernel
  have in6 : ∀ w ∈ u_ws RX6 TX6 6, w ∈ wsX6_take := by decide +kernel
  have f10 := C.2.2.2.2.1 (.fieldLink RX6 10 "WordAnchors" "now" "LWordAnchors$State;") (by decide +kernel)
  have f47 := C.2.2.2.2.1 (.fieldLink RX6 47 "WordAnchors$State" "row" "LWordAnchors$Row;") (by decide +kernel)
  have f22 := C.2.2.2.2.1 (.fieldLink RX6 22 "WordAnchors" "history" "LWordAnchors$History;") (by decide +kernel)
  have k60 := C.2.2.2.2.1 (.constant RX6 60 (-1000001)) (by decide +kernel)
  have hX0 := hX
  obtain ⟨x0, ⟨d0, hS, hEq⟩, ⟨dT, hST⟩, ⟨od, dh, hHI, hHE⟩, ⟨sx, nx, sg, nu, hTX⟩, ⟨bz, Sf, Mf, hBL⟩, ⟨ap, av, af, hAN⟩, hch⟩ := hX
  have en := hEq.1
  have em := hEq.2.1
  have hgn := hG.1
  have hgm := hG.2.1
  have hn40 : d0.1 ≤ 40 := hS.2.1.2.2.2.2
  have hm6 : d0.2.1 ≤ 6 := hS.2.2.2.2.2
  have hL60 : L ≤ 60 := hTX.2.2.2
  have hod : od < 4 := hHI.2.2.2.1
  have hh4 : hn ≤ 4 := hHI.2.2.2.2
  have litm1000001 : ((-1000001) : Int32).toInt = -1000001 := rfl
  have litm1 : ((-1) : Int32).toInt = -1 := rfl
  have lit0 : (0 : Int32).toInt = 0 := rfl
  have lit1 : (1 : Int32).toInt = 1 := rfl
  have tn_d0_1 : (nI d0.1).toInt = ((d0.1 : Nat) : Int) := nI_toInt (by omega)
  have tn_d0_2_1 : (nI d0.2.1).toInt = ((d0.2.1 : Nat) : Int) := nI_toInt (by omega)
  have tn_L : (nI L).toInt = ((L : Nat) : Int) := nI_toInt (by omega)
  have tn_hn : (nI hn).toInt = ((hn : Nat) : Int) := nI_toInt (by omega)
  refine g_aload_n C 0 rfl dX6_take_0 ?_
  refine g_get C 0 6 0 (by omega) x0 rfl in6 (by decide) f10 (fun _ h9 => h9) rfl dX6_take_1 ?_
  refine g_get C 1 5 0 (by omega) hS.1 rfl in5 (by decide) f47 (fun _ h9 => h9) rfl dX6_take_4 ?_
  refine g_iload_n C 1 rfl dX6_take_7 ?_
  refine g_Vi C [.int x] (1 + 1) 4 (by omega) hS.2.1.1 rfl (c_X4_holds l D kc N adr cell (1 + 1) d0.2.2.2.1 d0.2.2.2.2.1 d0.2.2.2.2.2.1 d0.1 x hS.2.1 (by omega)) (cwV 1 C.2.2.2.2.1 gX6_take_X4_holds rfl rfl rfl (by decide +kernel) ⟨Nat.le_of_ble_eq_true rfl, Nat.le_of_ble_eq_true rfl⟩) rfl rfl (Nat.le_of_ble_eq_true rfl) (Nat.zero_le _) (Nat.zero_le _) dX6_take_8 (fun v1 cell1 q1 => ?_)
  obtain ⟨rfl, rfl⟩ := q1
  refine g_if_ne C 17 (by decide) dX6_take_11 (fun c11 => ?_) (fun c11 => ?_)
  · -- taken at 11
    have c11' := bI_t c11
    have ez : x = nI x.toNatClampNeg := nI_cl (by omega)
    have kz := cl_toInt (x := x) (by omega)
    generalize hzz : x.toNatClampNeg = z at ez kz
    refine g_eqlv (lv1 := [(0, .ref (adr 0)), (1, .int (nI z))]) (congrArg (fun z0 : Int32 => ([(0, .ref (adr 0)), (1, .int z0)] : List (Nat × Value))) ez) ?_
    refine g_aload_n C 0 rfl dX6_take_17 ?_
    refine g_get C 0 6 0 (by omega) x0 rfl in6 (by decide) f10 (fun _ h9 => h9) rfl dX6_take_18 ?_
    refine g_get C 1 5 0 (by omega) hS.1 rfl in5 (by decide) f47 (fun _ h9 => h9) rfl dX6_take_21 ?_
    refine g_iload_n C 1 rfl dX6_take_24 ?_
    refine g_Vi C [.int (nI z)] (1 + 1) 4 (by omega) hS.2.1.1 rfl (c_X4_at l D kc N adr cell (1 + 1) d0.2.2.2.1 d0.2.2.2.2.1 d0.2.2.2.2.2.1 d0.1 (nI z) hS.2.1 (by omega)) (cwV 1 C.2.2.2.2.1 gX6_take_X4_at rfl rfl rfl (by decide +kernel) ⟨Nat.le_of_ble_eq_true rfl, Nat.le_of_ble_eq_true rfl⟩) rfl rfl (Nat.le_of_ble_eq_true rfl) (Nat.zero_le _) (Nat.zero_le _) dX6_take_25 (fun v2 cell2 q2 => ?_)
    obtain ⟨rfl, rfl⟩ := q2
    refine g_eqst (st1 := ([.int (d0.2.2.2.1 z)] : List Value)) (by rw [atF_nI (by omega) (by omega)]) ?_
    refine g_istore_n C [(2, .int (d0.2.2.2.1 z)), (0, .ref (adr 0)), (1, .int (nI z))] (by decide) rfl dX6_take_28 ?_
    refine g_aload_n C 1 rfl dX6_take_29 ?_
    refine g_get C 0 6 2 (by omega) x0 rfl in6 (by decide) f22 (fun _ h9 => h9) rfl dX6_take_30 ?_
    refine g_aload_n C 1 rfl dX6_take_33 ?_
    refine g_get C 0 6 0 (by omega) x0 rfl in6 (by decide) f10 (fun _ h9 => h9) rfl dX6_take_34 ?_
    refine g_Vv C [.ref (adr 1)] 39 3 (by omega) hHI.1 rfl (c_X3_record l D kc N adr cell 39 od hn dh 1 d0 hHI (by omega) hS (by omega) (by omega)) (cwV 1 C.2.2.2.2.1 gX6_take_X3_record rfl rfl rfl (by decide +kernel) ⟨Nat.le_of_ble_eq_true rfl, Nat.le_of_ble_eq_true rfl⟩) rfl rfl (Nat.le_of_ble_eq_true rfl) (Nat.zero_le _) (Nat.zero_le _) dX6_take_37 (fun cell4 q4 => ?_)
    obtain ⟨dc, hHI_6, hEc, gf_5⟩ := q4
    have hHE1 := ring_rec hod hh4 hHE (Eqv.tr hEc hEq)
    have h_7 : cell4 0 = .inr (6, [.ref (adr 1), .ref (adr 20), .ref (adr 39), .ref (adr 117), .ref (adr 120), .ref (adr 123)]) := (gf_5 0 (by omega)).trans x0
    have h_8 : StAt cell4 adr kc 1 d0 := StAt.frame hS (fun j h1 h2 => gf_5 j (by omega))
    have h_9 : StAt cell4 adr kc 20 dT := StAt.frame hST (fun j h1 h2 => gf_5 j (by omega))
    have h_10 : TxAt cell4 adr kc 117 L sx (nI nx) sg ch nu := TxAt.frame hTX (fun j h1 h2 => gf_5 j (by omega))
    have h_11 : BlAt cell4 adr kc 120 bz Sf Mf := BlAt.frame hBL (fun j h1 h2 => gf_5 j (by omega))
    have h_12 : AncAt cell4 adr kc 123 ap av af := AncAt.frame hAN (fun j h1 h2 => gf_5 j (by omega))
    refine g_aload_n C 1 rfl dX6_take_40 ?_
    refine g_get C 0 6 0 (by omega) h_7 rfl in6 (by decide) f10 (fun _ h9 => h9) rfl dX6_take_41 ?_
    refine g_iload_n C 2 rfl dX6_take_44 ?_
    refine g_Vv C [.int (nI z)] 1 5 (by omega) h_8.1 rfl (c_X5_removeWord l D kc N adr cell4 1 d0.1 d0.2.1 d0.2.2.1 d0.2.2.2.1 d0.2.2.2.2.1 d0.2.2.2.2.2.1 d0.2.2.2.2.2.2.1 d0.2.2.2.2.2.2.2.1 d0.2.2.2.2.2.2.2.2.1 d0.2.2.2.2.2.2.2.2.2 z h_8 (by omega) (by omega)) (cwV 1 C.2.2.2.2.1 gX6_take_X5_removeWord rfl rfl rfl (by decide +kernel) ⟨Nat.le_of_ble_eq_true rfl, Nat.le_of_ble_eq_true rfl⟩) rfl rfl (Nat.le_of_ble_eq_true rfl) (Nat.zero_le _) (Nat.zero_le _) dX6_take_45 (fun cell13 q13 => ?_)
    obtain ⟨d_15, hS_16, hE_17, gf_14⟩ := rem_new (by omega) q13
    have h_18 : cell13 0 = .inr (6, [.ref (adr 1), .ref (adr 20), .ref (adr 39), .ref (adr 117), .ref (adr 120), .ref (adr 123)]) := (gf_14 0 (by omega)).trans h_7
    have h_19 : StAt cell13 adr kc 20 dT := StAt.frame h_9 (fun j h1 h2 => gf_14 j (by omega))
    have h_20 : HiAt cell13 adr kc 39 (if hn < 4 then od else (od + 1) % 4) (if hn < 4 then hn + 1 else 4) (updS dh ((od + hn) % 4) dc) := HiAt.frame hHI_6 (fun j h1 h2 => gf_14 j (by omega))
    have h_21 : TxAt cell13 adr kc 117 L sx (nI nx) sg ch nu := TxAt.frame h_10 (fun j h1 h2 => gf_14 j (by omega))
    have h_22 : BlAt cell13 adr kc 120 bz Sf Mf := BlAt.frame h_11 (fun j h1 h2 => gf_14 j (by omega))
    have h_23 : AncAt cell13 adr kc 123 ap av af := AncAt.frame h_12 (fun j h1 h2 => gf_14 j (by omega))
    refine g_iload_n C 0 rfl dX6_take_48 ?_
    refine g_iret C hr rfl hlk dX6_take_49 ?_
    refine ⟨?_, XNx.yes (s := remD z σ) (by unfold takeO; rw [hzz]; exact if_pos (by omega)) ⟨h_18, ⟨_, hS_16, hE_17 σ hEq hG⟩, ⟨_, h_19⟩, ⟨_, _, h_20, hHE1⟩, ⟨_, _, _, _, h_21⟩, ⟨_, _, _, h_22⟩, ⟨_, _, _, h_23⟩, hch⟩⟩
    unfold takeR; rw [if_neg (by omega), hzz]; exact (hEq.2.2.2.1 z (by omega)).symm
  · -- not taken at 11
    have c11' := bI_f c11
    refine g_ldc C (-1000001) k60 dX6_take_14 ?_
    refine g_iret C hr rfl hlk dX6_take_16 ?_
    exact ⟨by unfold takeR; exact if_pos (by omega), XNx.no (by unfold takeO; exact if_neg (by omega)) hX0⟩
set_option maxRecDepth 100000 in
set_option maxHeartbeats 4000000 in
theorem c_X6_change (l : Launch) (D : va_G) (kc : Nat → ClassId) (N : Nat) (adr : Nat → Nat) (cell : Nat → va_E) (σ : SD) (hn : Nat) (hi : Nat → SD) (L : Nat) (ch : Nat → Int32) (x w : Int32) (hX : XAt cell adr kc σ hn hi L ch) (hG : Good σ) (hN : 125 ≤ N) : MI l yX6_change wsX6_change ({ frames := 4, cells := 0, slots := 0, locals := 89 }) D kc N adr cell [.ref (adr 0), .int x, .int w] (fun (w0 : Int32) (cell1 : Nat → va_E) => changeR σ x w = w0 ∧ XNx cell1 adr kc σ hn hi (changeO σ x w) L ch) := by
  refine met_i (cc := cX6_change) (maxL := 4) (ret := (some .int)) (by decide) rfl (Nat.le_of_ble_eq_true rfl) (lv := [(0, .ref (adr 0)), (1, .int x), (2, .int w)]) rfl ?_
  intro Pg Ev Sv Mi args below Me Cd Ar C hr hlk hnm
  have in5 : ∀ w ∈ u_ws RX5 TX5 5, w ∈ wsX6_change := by decide +kernel
  have in6 : ∀ w ∈ u_ws RX6 TX6 6, w ∈ wsX6_change := by decide +kernel
  have f10 := C.2.2.2.2.1 (.fieldLink RX6 10 "WordAnchors" "now" "LWordAnchors$State;") (by decide +kernel)
  have f47 := C.2.2.2.2.1 (.fieldLink RX6 47 "WordAnchors$State" "row" "LWordAnchors$Row;") (by decide +kernel)
  have k60 := C.2.2.2.2.1 (.constant RX6 60 (-1000001)) (by decide +kernel)
  have f22 := C.2.2.2.2.1 (.fieldLink RX6 22 "WordAnchors" "history" "LWordAnchors$History;") (by decide +kernel)
  have hX0 := hX
  obtain ⟨x0, ⟨d0, hS, hEq⟩, ⟨dT, hST⟩, ⟨od, dh, hHI, hHE⟩, ⟨sx, nx, sg, nu, hTX⟩, ⟨bz, Sf, Mf, hBL⟩, ⟨ap, av, af, hAN⟩, hch⟩ := hX
  have en := hEq.1
  have em := hEq.2.1
  have hgn := hG.1
  have hgm := hG.2.1
  have hn40 : d0.1 ≤ 40 := hS.2.1.2.2.2.2
  have hm6 : d0.2.1 ≤ 6 := hS.2.2.2.2.2
  have hL60 : L ≤ 60 := hTX.2.2.2
  have hod : od < 4 := hHI.2.2.2.1
  have hh4 : hn ≤ 4 := hHI.2.2.2.2
  have litm1000001 : ((-1000001) : Int32).toInt = -1000001 := rfl
  have litm1 : ((-1) : Int32).toInt = -1 := rfl
  have lit0 : (0 : Int32).toInt = 0 := rfl
  have lit1 : (1 : Int32).toInt = 1 := rfl
  have tn_d0_1 : (nI d0.1).toInt = ((d0.1 : Nat) : Int) := nI_toInt (by omega)
  have tn_d0_2_1 : (nI d0.2.1).toInt = ((d0.2.1 : Nat) : Int) := nI_toInt (by omega)
  have tn_L : (nI L).toInt = ((L : Nat) : Int) := nI_toInt (by omega)
  have tn_hn : (nI hn).toInt = ((hn : Nat) : Int) := nI_toInt (by omega)
  refine g_aload_n C 0 rfl dX6_change_0 ?_
  refine g_get C 0 6 0 (by omega) x0 rfl in6 (by decide) f10 (fun _ h9 => h9) rfl dX6_change_1 ?_
  refine g_get C 1 5 0 (by omega) hS.1 rfl in5 (by decide) f47 (fun _ h9 => h9) rfl dX6_change_4 ?_
  refine g_iload_n C 1 rfl dX6_change_7 ?_
  refine g_Vi C [.int x] (1 + 1) 4 (by omega) hS.2.1.1 rfl (c_X4_holds l D kc N adr cell (1 + 1) d0.2.2.2.1 d0.2.2.2.2.1 d0.2.2.2.2.2.1 d0.1 x hS.2.1 (by omega)) (cwV 1 C.2.2.2.2.1 gX6_change_X4_holds rfl rfl rfl (by decide +kernel) ⟨Nat.le_of_ble_eq_true rfl, Nat.le_of_ble_eq_true rfl⟩) rfl rfl (Nat.le_of_ble_eq_true rfl) (Nat.zero_le _) (Nat.zero_le _) dX6_change_8 (fun v1 cell1 q1 => ?_)
  obtain ⟨rfl, rfl⟩ := q1
  refine g_if_eq C 21 (by decide) dX6_change_11 (fun c11 => ?_) (fun c11 => ?_)
  · -- taken at 11
    have c11' := bI_f c11
    refine g_ldc C (-1000001) k60 dX6_change_21 ?_
    refine g_iret C hr rfl hlk dX6_change_23 ?_
    exact ⟨by unfold changeR; exact if_pos (by omega), XNx.no (by unfold changeO; exact if_neg (by omega)) hX0⟩
  · -- not taken at 11
    have c11' := bI_t c11
    refine g_iload_n C 2 rfl dX6_change_14 ?_
    refine g_Si C [.int w] (c_X6_isWord l D kc N adr cell w) (va_cwS 1 C.2.2.2.2.1 gX6_change_X6_isWord rfl rfl rfl (by decide +kernel) ⟨Nat.le_of_ble_eq_true rfl, Nat.le_of_ble_eq_true rfl⟩) rfl rfl (Nat.le_of_ble_eq_true rfl) (Nat.zero_le _) (Nat.zero_le _) dX6_change_15 (fun v2 cell2 q2 => ?_)
    obtain ⟨rfl, rfl⟩ := q2
    refine g_if_ne C 24 (by decide) dX6_change_18 (fun c18 => ?_) (fun c18 => ?_)
    · -- taken at 18
      have c18' := bI_t c18
      have ez : x = nI x.toNatClampNeg := nI_cl (by omega)
      have kz := cl_toInt (x := x) (by omega)
      generalize hzz : x.toNatClampNeg = z at ez kz
      refine g_eqlv (lv1 := [(0, .ref (adr 0)), (1, .int (nI z)), (2, .int w)]) (congrArg (fun z0 : Int32 => ([(0, .ref (adr 0)), (1, .int z0), (2, .int w)] : List (Nat × Value))) ez) ?_
      refine g_aload_n C 0 rfl dX6_change_24 ?_
      refine g_get C 0 6 0 (by omega) x0 rfl in6 (by decide) f10 (fun _ h9 => h9) rfl dX6_change_25 ?_
      refine g_get C 1 5 0 (by omega) hS.1 rfl in5 (by decide) f47 (fun _ h9 => h9) rfl dX6_change_28 ?_
      refine g_iload_n C 1 rfl dX6_change_31 ?_
      refine g_Vi C [.int (nI z)] (1 + 1) 4 (by omega) hS.2.1.1 rfl (c_X4_at l D kc N adr cell (1 + 1) d0.2.2.2.1 d0.2.2.2.2.1 d0.2.2.2.2.2.1 d0.1 (nI z) hS.2.1 (by omega)) (cwV 1 C.2.2.2.2.1 gX6_change_X4_at rfl rfl rfl (by decide +kernel) ⟨Nat.le_of_ble_eq_true rfl, Nat.le_of_ble_eq_true rfl⟩) rfl rfl (Nat.le_of_ble_eq_true rfl) (Nat.zero_le _) (Nat.zero_le _) dX6_change_32 (fun v3 cell3 q3 => ?_)
      obtain ⟨rfl, rfl⟩ := q3
      refine g_eqst (st1 := ([.int (d0.2.2.2.1 z)] : List Value)) (by rw [atF_nI (by omega) (by omega)]) ?_
      refine g_istore_n C [(3, .int (d0.2.2.2.1 z)), (0, .ref (adr 0)), (1, .int (nI z)), (2, .int w)] (by decide) rfl dX6_change_35 ?_
      refine g_aload_n C 1 rfl dX6_change_36 ?_
      refine g_get C 0 6 2 (by omega) x0 rfl in6 (by decide) f22 (fun _ h9 => h9) rfl dX6_change_37 ?_
      refine g_aload_n C 1 rfl dX6_change_40 ?_
      refine g_get C 0 6 0 (by omega) x0 rfl in6 (by decide) f10 (fun _ h9 => h9) rfl dX6_change_41 ?_
      refine g_Vv C [.ref (adr 1)] 39 3 (by omega) hHI.1 rfl (c_X3_record l D kc N adr cell 39 od hn dh 1 d0 hHI (by omega) hS (by omega) (by omega)) (cwV 1 C.2.2.2.2.1 gX6_change_X3_record rfl rfl rfl (by decide +kernel) ⟨Nat.le_of_ble_eq_true rfl, Nat.le_of_ble_eq_true rfl⟩) rfl rfl (Nat.le_of_ble_eq_true rfl) (Nat.zero_le _) (Nat.zero_le _) dX6_change_44 (fun cell5 q5 => ?_)
      obtain ⟨dc, hHI_7, hEc, gf_6⟩ := q5
      have hHE1 := ring_rec hod hh4 hHE (Eqv.tr hEc hEq)
      have h_8 : cell5 0 = .inr (6, [.ref (adr 1), .ref (adr 20), .ref (adr 39), .ref (adr 117), .ref (adr 120), .ref (adr 123)]) := (gf_6 0 (by omega)).trans x0
      have h_9 : StAt cell5 adr kc 1 d0 := StAt.frame hS (fun j h1 h2 => gf_6 j (by omega))
      have h_10 : StAt cell5 adr kc 20 dT := StAt.frame hST (fun j h1 h2 => gf_6 j (by omega))
      have h_11 : TxAt cell5 adr kc 117 L sx (nI nx) sg ch nu := TxAt.frame hTX (fun j h1 h2 => gf_6 j (by omega))
      have h_12 : BlAt cell5 adr kc 120 bz Sf Mf := BlAt.frame hBL (fun j h1 h2 => gf_6 j (by omega))
      have h_13 : AncAt cell5 adr kc 123 ap av af := AncAt.frame hAN (fun j h1 h2 => gf_6 j (by omega))
      refine g_aload_n C 1 rfl dX6_change_47 ?_
      refine g_get C 0 6 0 (by omega) h_8 rfl in6 (by decide) f10 (fun _ h9 => h9) rfl dX6_change_48 ?_
      refine g_iload_n C 2 rfl dX6_change_51 ?_
      refine g_iload_n C 3 rfl dX6_change_52 ?_
      refine g_Vv C [.int (nI z), .int w] 1 5 (by omega) h_9.1 rfl (c_X5_replaceWord l D kc N adr cell5 1 d0.1 d0.2.1 d0.2.2.1 d0.2.2.2.1 d0.2.2.2.2.1 d0.2.2.2.2.2.1 d0.2.2.2.2.2.2.1 d0.2.2.2.2.2.2.2.1 d0.2.2.2.2.2.2.2.2.1 d0.2.2.2.2.2.2.2.2.2 z w h_9 (by omega) (by omega)) (cwV 2 C.2.2.2.2.1 gX6_change_X5_replaceWord rfl rfl rfl (by decide +kernel) ⟨Nat.le_of_ble_eq_true rfl, Nat.le_of_ble_eq_true rfl⟩) rfl rfl (Nat.le_of_ble_eq_true rfl) (Nat.zero_le _) (Nat.zero_le _) dX6_change_53 (fun cell14 q14 => ?_)
      obtain ⟨d_16, hS_17, hE_18, gf_15⟩ := chg_new q14
      have h_19 : cell14 0 = .inr (6, [.ref (adr 1), .ref (adr 20), .ref (adr 39), .ref (adr 117), .ref (adr 120), .ref (adr 123)]) := (gf_15 0 (by omega)).trans h_8
      have h_20 : StAt cell14 adr kc 20 dT := StAt.frame h_10 (fun j h1 h2 => gf_15 j (by omega))
      have h_21 : HiAt cell14 adr kc 39 (if hn < 4 then od else (od + 1) % 4) (if hn < 4 then hn + 1 else 4) (updS dh ((od + hn) % 4) dc) := HiAt.frame hHI_7 (fun j h1 h2 => gf_15 j (by omega))
      have h_22 : TxAt cell14 adr kc 117 L sx (nI nx) sg ch nu := TxAt.frame h_11 (fun j h1 h2 => gf_15 j (by omega))
      have h_23 : BlAt cell14 adr kc 120 bz Sf Mf := BlAt.frame h_12 (fun j h1 h2 => gf_15 j (by omega))
      have h_24 : AncAt cell14 adr kc 123 ap av af := AncAt.frame h_13 (fun j h1 h2 => gf_15 j (by omega))
      refine g_iload_n C 0 rfl dX6_change_56 ?_
      refine g_iret C hr rfl hlk dX6_change_57 ?_
      refine ⟨?_, XNx.yes (s := chgD z w σ) (by unfold changeO; rw [hzz]; exact if_pos (by omega)) ⟨h_19, ⟨_, hS_17, hE_18 σ hEq hG⟩, ⟨_, h_20⟩, ⟨_, _, h_21, hHE1⟩, ⟨_, _, _, _, h_22⟩, ⟨_, _, _, h_23⟩, ⟨_, _, _, h_24⟩, hch⟩⟩
      unfold changeR; rw [if_neg (by omega), hzz]; exact (hEq.2.2.2.1 z (by omega)).symm
    · -- not taken at 18
      have c18' := bI_f c18
      refine g_ldc C (-1000001) k60 dX6_change_21 ?_
      refine g_iret C hr rfl hlk dX6_change_23 ?_
      exact ⟨by unfold changeR; exact if_pos (by omega), XNx.no (by unfold changeO; exact if_neg (by omega)) hX0⟩
