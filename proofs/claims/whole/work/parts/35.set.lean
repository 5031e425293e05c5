set_option maxRecDepth 100000 in
set_option maxHeartbeats 4000000 in
theorem c_X6_set (l : Launch) (D : va_G) (kc : Nat → ClassId) (N : Nat) (adr : Nat → Nat) (cell : Nat → va_E) (σ : SD) (hn : Nat) (hi : Nat → SD) (L : Nat) (ch : Nat → Int32) (x v : Int32) (hX : XAt cell adr kc σ hn hi L ch) (hG : Good σ) (hN : 125 ≤ N) : MIZ l yX6_set wsX6_set ({ frames := 4, cells := 0, slots := 0, locals := 89 }) D kc N adr cell [.ref (adr 0), .int x, .int v] (fun (w0 : Int32) (cell1 : Nat → va_E) => setR σ x v = w0 ∧ XNx cell1 adr kc σ hn hi (setO σ x v) L ch) := by
  refine met_iz (cc := cX6_set) (maxL := 4) (ret := (some .int)) (by decide) rfl (Nat.le_of_ble_eq_true rfl) (lv := [(0, .ref (adr 0)), (1, .int x), (2, .int v)]) rfl ?_
  intro Pg Ev Sv Mi args below Me Cd Ar C hr hlk hnm hZ8
  obtain ⟨t9, hZ9, hT9⟩ := hZ8
  have in6 : ∀ w ∈ u_ws RX6 TX6 6, w ∈ wsX6_set := by decide +kernel
  have k60 := C.2.2.2.2.1 (.constant RX6 60 (-1000001)) (by decide +kernel)
  have f138 := C.2.2.2.2.1 (.fieldLink RX6 138 "WordAnchors" "GREATEST_SETTINGS" "[I") (by decide +kernel)
  have f10 := C.2.2.2.2.1 (.fieldLink RX6 10 "WordAnchors" "now" "LWordAnchors$State;") (by decide +kernel)
  have f22 := C.2.2.2.2.1 (.fieldLink RX6 22 "WordAnchors" "history" "LWordAnchors$History;") (by decide +kernel)
  have hX0 := hX
  obtain ⟨x0, ⟨d0, hS, hEq⟩, ⟨dT, hST⟩, ⟨od, dh, hHI, hHE⟩, ⟨sx, nx, sg, nu, hTX⟩, ⟨bz, Sf, Mf, hBL⟩, ⟨ap, av, af, hAN⟩, hch⟩ := hX
  have en := hEq.1
  have em := hEq.2.1
  have hgn := hG.1
  have hgm := hG.2.1
  have hn40 : d0.1 ≤ 40 := hS.2.1.2.2.2.2
  have hm6 : d0.2.1 ≤ 6 := hS.2.2.2.2.2
  have hL60 : L ≤ 60 := hTX.2.2.2
  have hod : od < 4 := hHI.2.2.2.1
  have hh4 : hn ≤ 4 := hHI.2.2.2.2
  have litm1000001 : ((-1000001) : Int32).toInt = -1000001 := rfl
  have litm1 : ((-1) : Int32).toInt = -1 := rfl
  have lit0 : (0 : Int32).toInt = 0 := rfl
  have lit1 : (1 : Int32).toInt = 1 := rfl
  have lit5 : (5 : Int32).toInt = 5 := rfl
  have tn_d0_1 : (nI d0.1).toInt = ((d0.1 : Nat) : Int) := nI_toInt (by omega)
  have tn_d0_2_1 : (nI d0.2.1).toInt = ((d0.2.1 : Nat) : Int) := nI_toInt (by omega)
  have tn_L : (nI L).toInt = ((L : Nat) : Int) := nI_toInt (by omega)
  have tn_hn : (nI hn).toInt = ((hn : Nat) : Int) := nI_toInt (by omega)
  refine g_iload_n C 1 rfl dX6_set_0 ?_
  refine g_if_lt C 12 (by decide) dX6_set_1 (fun c1 => ?_) (fun c1 => ?_)
  · -- taken at 1
    have c1' := i_lt c1
    refine g_ldc C (-1000001) k60 dX6_set_12 ?_
    refine g_iret C hr rfl hlk dX6_set_14 ?_
    exact ⟨by unfold setR; exact if_pos (fun h => by have h1 := h.1; have h2 := h.2; omega), XNx.no (by unfold setO; exact if_neg (fun h => by have h1 := h.1; have h2 := h.2; omega)) hX0⟩
  · -- not taken at 1
    have c1' := i_nlt c1
    refine g_iload_n C 1 rfl dX6_set_4 ?_
    refine g_gets C hZ9 rfl f138 (fun _ h9 => h9) dX6_set_5 ?_
    refine g_tlen C hT9 5 rfl dX6_set_8 ?_
    refine g_icmp_lt C 15 (by decide) dX6_set_9 (fun c9 => ?_) (fun c9 => ?_)
    · -- taken at 9
      have c9' := i_lt c9
      refine g_iload_n C 2 rfl dX6_set_15 ?_
      refine g_if_lt C 28 (by decide) dX6_set_16 (fun c16 => ?_) (fun c16 => ?_)
      · -- taken at 16
        have c16' := i_lt c16
        refine g_ldc C (-1000001) k60 dX6_set_28 ?_
        refine g_iret C hr rfl hlk dX6_set_30 ?_
        exact ⟨by unfold setR; exact if_pos (fun h => by have h1 := h.1; have h2 := h.2; omega), XNx.no (by unfold setO; exact if_neg (fun h => by have h1 := h.1; have h2 := h.2; omega)) hX0⟩
      · -- not taken at 16
        have c16' := i_nlt c16
        refine g_iload_n C 2 rfl dX6_set_19 ?_
        refine g_gets C hZ9 rfl f138 (fun _ h9 => h9) dX6_set_20 ?_
        refine g_iload_n C 1 rfl dX6_set_23 ?_
        refine g_ti C hT9 (vp_in_iff.mpr (by omega)) (.int (gsI x.toNatClampNeg)) rfl dX6_set_24 ?_
        have hgs : (gsI x.toNatClampNeg).toInt = gsF x := gsI_gsF (by omega)
        refine g_icmp_le C 31 (by decide) dX6_set_25 (fun c25 => ?_) (fun c25 => ?_)
        · -- taken at 25
          have c25' := i_le c25
          have ez : x = nI x.toNatClampNeg := nI_cl (by omega)
          have kz := cl_toInt (x := x) (by omega)
          generalize hzz : x.toNatClampNeg = z at ez kz
          refine g_eqlv (lv1 := [(0, .ref (adr 0)), (1, .int (nI z)), (2, .int v)]) (congrArg (fun z0 : Int32 => ([(0, .ref (adr 0)), (1, .int z0), (2, .int v)] : List (Nat × Value))) ez) ?_
          refine g_aload_n C 0 rfl dX6_set_31 ?_
          refine g_get C 0 6 0 (by omega) x0 rfl in6 (by decide) f10 (fun _ h9 => h9) rfl dX6_set_32 ?_
          refine g_iload_n C 1 rfl dX6_set_35 ?_
          refine g_Vi C [.int (nI z)] 1 5 (by omega) hS.1 rfl (c_X5_setting l D kc N adr cell 1 d0.1 d0.2.1 d0.2.2.1 d0.2.2.2.1 d0.2.2.2.2.1 d0.2.2.2.2.2.1 d0.2.2.2.2.2.2.1 d0.2.2.2.2.2.2.2.1 d0.2.2.2.2.2.2.2.2.1 d0.2.2.2.2.2.2.2.2.2 (nI z) hS (by omega)) (cwV 1 C.2.2.2.2.1 gX6_set_X5_setting rfl rfl rfl (by decide +kernel) ⟨Nat.le_of_ble_eq_true rfl, Nat.le_of_ble_eq_true rfl⟩) rfl rfl (Nat.le_of_ble_eq_true rfl) (Nat.zero_le _) (Nat.zero_le _) dX6_set_36 (fun v1 cell1 q1 => ?_)
          obtain ⟨rfl, rfl⟩ := q1
          refine g_istore_n C [(3, .int (setF d0.2.2.2.2.2.2.1 (nI z))), (0, .ref (adr 0)), (1, .int (nI z)), (2, .int v)] (by decide) rfl dX6_set_39 ?_
          refine g_aload_n C 1 rfl dX6_set_40 ?_
          refine g_get C 0 6 2 (by omega) x0 rfl in6 (by decide) f22 (fun _ h9 => h9) rfl dX6_set_41 ?_
          refine g_aload_n C 1 rfl dX6_set_44 ?_
          refine g_get C 0 6 0 (by omega) x0 rfl in6 (by decide) f10 (fun _ h9 => h9) rfl dX6_set_45 ?_
          refine g_Vv C [.ref (adr 1)] 39 3 (by omega) hHI.1 rfl (c_X3_record l D kc N adr cell 39 od hn dh 1 d0 hHI (by omega) hS (by omega) (by omega)) (cwV 1 C.2.2.2.2.1 gX6_set_X3_record rfl rfl rfl (by decide +kernel) ⟨Nat.le_of_ble_eq_true rfl, Nat.le_of_ble_eq_true rfl⟩) rfl rfl (Nat.le_of_ble_eq_true rfl) (Nat.zero_le _) (Nat.zero_le _) dX6_set_48 (fun cell2 q2 => ?_)
          obtain ⟨dc, hHI_4, hEc, gf_3⟩ := q2
          have hHE1 := ring_rec hod hh4 hHE (Eqv.tr hEc hEq)
          have h_5 : cell2 0 = .inr (6, [.ref (adr 1), .ref (adr 20), .ref (adr 39), .ref (adr 117), .ref (adr 120), .ref (adr 123)]) := (gf_3 0 (by omega)).trans x0
          have h_6 : StAt cell2 adr kc 1 d0 := StAt.frame hS (fun j h1 h2 => gf_3 j (by omega))
          have h_7 : StAt cell2 adr kc 20 dT := StAt.frame hST (fun j h1 h2 => gf_3 j (by omega))
          have h_8 : TxAt cell2 adr kc 117 L sx (nI nx) sg ch nu := TxAt.frame hTX (fun j h1 h2 => gf_3 j (by omega))
          have h_9 : BlAt cell2 adr kc 120 bz Sf Mf := BlAt.frame hBL (fun j h1 h2 => gf_3 j (by omega))
          have h_10 : AncAt cell2 adr kc 123 ap av af := AncAt.frame hAN (fun j h1 h2 => gf_3 j (by omega))
          refine g_aload_n C 1 rfl dX6_set_51 ?_
          refine g_get C 0 6 0 (by omega) h_5 rfl in6 (by decide) f10 (fun _ h9 => h9) rfl dX6_set_52 ?_
          refine g_iload_n C 2 rfl dX6_set_55 ?_
          refine g_iload_n C 3 rfl dX6_set_56 ?_
          refine g_Vv C [.int (nI z), .int v] 1 5 (by omega) h_6.1 rfl (c_X5_changeSetting l D kc N adr cell2 1 d0.1 d0.2.1 d0.2.2.1 d0.2.2.2.1 d0.2.2.2.2.1 d0.2.2.2.2.2.1 d0.2.2.2.2.2.2.1 d0.2.2.2.2.2.2.2.1 d0.2.2.2.2.2.2.2.2.1 d0.2.2.2.2.2.2.2.2.2 z v h_6 (by omega) (by omega)) (cwV 2 C.2.2.2.2.1 gX6_set_X5_changeSetting rfl rfl rfl (by decide +kernel) ⟨Nat.le_of_ble_eq_true rfl, Nat.le_of_ble_eq_true rfl⟩) rfl rfl (Nat.le_of_ble_eq_true rfl) (Nat.zero_le _) (Nat.zero_le _) dX6_set_57 (fun cell11 q11 => ?_)
          obtain ⟨hS_14, gf_12⟩ := q11
          obtain ⟨d_13, hS_15, hE_16⟩ : ∃ d9 : SD, StAt cell11 adr kc 1 d9 ∧ Eqv d9 (setD z v σ) := ⟨_, hS_14, set_eqv hEq⟩
          have h_17 : cell11 0 = .inr (6, [.ref (adr 1), .ref (adr 20), .ref (adr 39), .ref (adr 117), .ref (adr 120), .ref (adr 123)]) := (gf_12 0 (by omega)).trans h_5
          have h_18 : StAt cell11 adr kc 20 dT := StAt.frame h_7 (fun j h1 h2 => gf_12 j (by omega))
          have h_19 : HiAt cell11 adr kc 39 (if hn < 4 then od else (od + 1) % 4) (if hn < 4 then hn + 1 else 4) (updS dh ((od + hn) % 4) dc) := HiAt.frame hHI_4 (fun j h1 h2 => gf_12 j (by omega))
          have h_20 : TxAt cell11 adr kc 117 L sx (nI nx) sg ch nu := TxAt.frame h_8 (fun j h1 h2 => gf_12 j (by omega))
          have h_21 : BlAt cell11 adr kc 120 bz Sf Mf := BlAt.frame h_9 (fun j h1 h2 => gf_12 j (by omega))
          have h_22 : AncAt cell11 adr kc 123 ap av af := AncAt.frame h_10 (fun j h1 h2 => gf_12 j (by omega))
          refine g_iload_n C 0 rfl dX6_set_60 ?_
          refine g_iret C hr rfl hlk dX6_set_61 ?_
          have hso : SOk x v := ⟨by omega, by omega, by omega⟩
          refine ⟨?_, XNx.yes (s := setD z v σ) (by unfold setO; rw [hzz]; exact if_pos hso) ⟨h_17, ⟨_, hS_15, hE_16⟩, ⟨_, h_18⟩, ⟨_, _, h_19, hHE1⟩, ⟨_, _, _, _, h_20⟩, ⟨_, _, _, h_21⟩, ⟨_, _, _, h_22⟩, hch⟩⟩
          unfold setR; rw [if_neg (fun h => h hso), setF_nI (by omega), hzz]; exact (hEq.2.2.2.2.1 z (by omega)).symm
        · -- not taken at 25
          have c25' := i_nle c25
          refine g_ldc C (-1000001) k60 dX6_set_28 ?_
          refine g_iret C hr rfl hlk dX6_set_30 ?_
          exact ⟨by unfold setR; exact if_pos (fun h => by have h1 := h.1; have h2 := h.2; omega), XNx.no (by unfold setO; exact if_neg (fun h => by have h1 := h.1; have h2 := h.2; omega)) hX0⟩
    · -- not taken at 9
      have c9' := i_nlt c9
      refine g_ldc C (-1000001) k60 dX6_set_12 ?_
      refine g_iret C hr rfl hlk dX6_set_14 ?_
      exact ⟨by unfold setR; exact if_pos (fun h => by have h1 := h.1; have h2 := h.2; omega), XNx.no (by unfold setO; exact if_neg (fun h => by have h1 := h.1; have h2 := h.2; omega)) hX0⟩
