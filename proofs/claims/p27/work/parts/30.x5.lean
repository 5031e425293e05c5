set_option maxRecDepth 100000 in
set_option maxHeartbeats 4000000 in
theorem c_X6_blockOf (l : Launch) (D : va_G) (kc : Nat → ClassId) (N : Nat) (adr : Nat → Nat) (cell : Nat → va_E) (σ : SD) (hn : Nat) (hi : Nat → SD) (L : Nat) (ch : Nat → Int32) (x y : Int32) (hX : XAt cell adr kc σ hn hi L ch) (hG : Good σ) (hN : 125 ≤ N) : MI l yX6_blockOf wsX6_blockOf ({ frames := 6, cells := 0, slots := 0, locals := 141 }) D kc N adr cell [.ref (adr 0), .int x, .int y] (fun (w0 : Int32) (cell1 : Nat → va_E) => blockOfR σ x y = w0 ∧ XAt cell1 adr kc σ hn hi L ch) := by
  refine met_i (cc := cX6_blockOf) (maxL := 4) (ret := (some .int)) (by decide) rfl (Nat.le_of_ble_eq_true rfl) (lv := [(0, .ref (adr 0)), (1, .int x), (2, .int y)]) rfl ?_
  intro Pg Ev Sv Mi args below Me Cd Ar C hr hlk hnm
  have in6 : ∀ w ∈ u_ws RX6 TX6 6, w ∈ wsX6_blockOf := by decide +kernel
  have k60 := C.2.2.2.2.1 (.constant RX6 60 (-1000001)) (by decide +kernel)
  have f36 := C.2.2.2.2.1 (.fieldLink RX6 36 "WordAnchors" "blocks" "LWordAnchors$Blocks;") (by decide +kernel)
  have f10 := C.2.2.2.2.1 (.fieldLink RX6 10 "WordAnchors" "now" "LWordAnchors$State;") (by decide +kernel)
  have k182 := C.2.2.2.2.1 (.constant RX6 182 (-1000004)) (by decide +kernel)
  have hX0 := hX
  obtain ⟨x0, ⟨d0, hS, hEq⟩, ⟨dT, hST⟩, ⟨od, dh, hHI, hHE⟩, ⟨sx, nx, sg, nu, hTX⟩, ⟨bz, Sf, Mf, hBL⟩, ⟨ap, av, af, hAN⟩, hch⟩ := hX
  have en := hEq.1
  have em := hEq.2.1
  have hgn := hG.1
  have hgm := hG.2.1
  have hn40 : d0.1 ≤ 40 := hS.2.1.2.2.2.2
  have hm6 : d0.2.1 ≤ 6 := hS.2.2.2.2.2
  have hL60 : L ≤ 60 := hTX.2.2.2
  have hod : od < 4 := hHI.2.2.2.1
  have hh4 : hn ≤ 4 := hHI.2.2.2.2
  have litm1000004 : ((-1000004) : Int32).toInt = -1000004 := rfl
  have litm1000001 : ((-1000001) : Int32).toInt = -1000001 := rfl
  have litm1 : ((-1) : Int32).toInt = -1 := rfl
  have lit0 : (0 : Int32).toInt = 0 := rfl
  have lit1 : (1 : Int32).toInt = 1 := rfl
  have lit100 : (100 : Int32).toInt = 100 := rfl
  have tn_d0_1 : (nI d0.1).toInt = ((d0.1 : Nat) : Int) := nI_toInt (by omega)
  have tn_d0_2_1 : (nI d0.2.1).toInt = ((d0.2.1 : Nat) : Int) := nI_toInt (by omega)
  have tn_L : (nI L).toInt = ((L : Nat) : Int) := nI_toInt (by omega)
  have tn_hn : (nI hn).toInt = ((hn : Nat) : Int) := nI_toInt (by omega)
  refine g_iload_n C 1 rfl dX6_blockOf_0 ?_
  refine g_if_lt C 13 (by decide) dX6_blockOf_1 (fun c1 => ?_) (fun c1 => ?_)
  · -- taken at 1
    have c1' := i_lt c1
    refine g_ldc C (-1000001) k60 dX6_blockOf_13 ?_
    refine g_iret C hr rfl hlk dX6_blockOf_15 ?_
    exact ⟨by unfold blockOfR; exact if_pos (by omega), hX0⟩
  · -- not taken at 1
    have c1' := i_nlt c1
    refine g_iload_n C 2 rfl dX6_blockOf_4 ?_
    refine g_if_lt C 13 (by decide) dX6_blockOf_5 (fun c5 => ?_) (fun c5 => ?_)
    · -- taken at 5
      have c5' := i_lt c5
      refine g_ldc C (-1000001) k60 dX6_blockOf_13 ?_
      refine g_iret C hr rfl hlk dX6_blockOf_15 ?_
      exact ⟨by unfold blockOfR; exact if_pos (by omega), hX0⟩
    · -- not taken at 5
      have c5' := i_nlt c5
      refine g_iload_n C 2 rfl dX6_blockOf_8 ?_
      refine g_iconst C 1 (by decide) dX6_blockOf_9 ?_
      refine g_icmp_le C 16 (by decide) dX6_blockOf_10 (fun c10 => ?_) (fun c10 => ?_)
      · -- taken at 10
        have c10' := i_le c10
        refine g_aload_n C 0 rfl dX6_blockOf_16 ?_
        refine g_get C 0 6 4 (by omega) x0 rfl in6 (by decide) f36 (fun _ h9 => h9) rfl dX6_blockOf_17 ?_
        refine g_aload_n C 0 rfl dX6_blockOf_20 ?_
        refine g_get C 0 6 0 (by omega) x0 rfl in6 (by decide) f10 (fun _ h9 => h9) rfl dX6_blockOf_21 ?_
        refine g_Vv C [.ref (adr 1)] 120 1 (by omega) hBL.1 rfl (c_X1_gather l D kc N adr cell 120 bz Sf Mf 1 d0.1 d0.2.1 d0.2.2.1 d0.2.2.2.1 d0.2.2.2.2.1 d0.2.2.2.2.2.1 d0.2.2.2.2.2.2.1 d0.2.2.2.2.2.2.2.1 d0.2.2.2.2.2.2.2.2.1 d0.2.2.2.2.2.2.2.2.2 hBL (by omega) hS (by omega) (by omega)) (cwV 1 C.2.2.2.2.1 gX6_blockOf_X1_gather rfl rfl rfl (by decide +kernel) ⟨Nat.le_of_ble_eq_true rfl, Nat.le_of_ble_eq_true rfl⟩) rfl rfl (Nat.le_of_ble_eq_true rfl) (Nat.zero_le _) (Nat.zero_le _) dX6_blockOf_24 (fun cell1 q1 => ?_)
        obtain ⟨hBL_2, gf_3⟩ := q1
        have hBL_2 : BlAt cell1 adr kc 120 (gaF (aH d0) Sf Mf d0.2.1).1 (gaF (aH d0) Sf Mf d0.2.1).2.1 (gaF (aH d0) Sf Mf d0.2.1).2.2 := hBL_2
        have hBE : BEq (gaF (aH d0) Sf Mf d0.2.1) (aBl σ) := by unfold aBl; rw [em]; exact ga_cong (fun i hi1 => eH hEq hi1)
        have h_4 : cell1 0 = .inr (6, [.ref (adr 1), .ref (adr 20), .ref (adr 39), .ref (adr 117), .ref (adr 120), .ref (adr 123)]) := (gf_3 0 (by omega)).trans x0
        have h_5 : StAt cell1 adr kc 1 d0 := StAt.frame hS (fun j h1 h2 => gf_3 j (by omega))
        have h_6 : StAt cell1 adr kc 20 dT := StAt.frame hST (fun j h1 h2 => gf_3 j (by omega))
        have h_7 : HiAt cell1 adr kc 39 od hn dh := HiAt.frame hHI (fun j h1 h2 => gf_3 j (by omega))
        have h_8 : TxAt cell1 adr kc 117 L sx (nI nx) sg ch nu := TxAt.frame hTX (fun j h1 h2 => gf_3 j (by omega))
        have h_9 : AncAt cell1 adr kc 123 ap av af := AncAt.frame hAN (fun j h1 h2 => gf_3 j (by omega))
        refine g_aload_n C 0 rfl dX6_blockOf_27 ?_
        refine g_get C 0 6 4 (by omega) h_4 rfl in6 (by decide) f36 (fun _ h9 => h9) rfl dX6_blockOf_28 ?_
        refine g_iload_n C 1 rfl dX6_blockOf_31 ?_
        refine g_Vi C [.int x] 120 1 (by omega) hBL_2.1 rfl (c_X1_inOrder l D kc N adr cell1 120 (gaF (aH d0) Sf Mf d0.2.1).1 (gaF (aH d0) Sf Mf d0.2.1).2.1 (gaF (aH d0) Sf Mf d0.2.1).2.2 x hBL_2 (by omega)) (cwV 1 C.2.2.2.2.1 gX6_blockOf_X1_inOrder rfl rfl rfl (by decide +kernel) ⟨Nat.le_of_ble_eq_true rfl, Nat.le_of_ble_eq_true rfl⟩) rfl rfl (Nat.le_of_ble_eq_true rfl) (Nat.zero_le _) (Nat.zero_le _) dX6_blockOf_32 (fun v10 cell10 q10 => ?_)
        obtain ⟨rfl, rfl⟩ := q10
        have hio : ioF ((gaF (aH d0) Sf Mf d0.2.1).1, (gaF (aH d0) Sf Mf d0.2.1).2.1, (gaF (aH d0) Sf Mf d0.2.1).2.2) x (gaF (aH d0) Sf Mf d0.2.1).1 0 = aIo σ x := by
          show ioF (gaF (aH d0) Sf Mf d0.2.1) x (gaF (aH d0) Sf Mf d0.2.1).1 0 = ioF (aBl σ) x (aBl σ).1 0
          rw [← hBE.1]; exact io_cong hBE (by omega)
        refine g_eqst (st1 := ([.int (aIo σ x)] : List Value)) (by rw [hio]) ?_
        refine g_istore_n C [(3, .int (aIo σ x)), (0, .ref (adr 0)), (1, .int x), (2, .int y)] (by decide) rfl dX6_blockOf_35 ?_
        refine g_iload_n C 0 rfl dX6_blockOf_36 ?_
        refine g_iconst C (-1) (by decide) dX6_blockOf_37 ?_
        refine g_icmp_ne C 44 (by decide) dX6_blockOf_38 (fun c38 => ?_) (fun c38 => ?_)
        · -- taken at 38
          have c38' := i_ne c38
          refine g_iload_n C 3 rfl dX6_blockOf_44 ?_
          refine g_if_ne C 59 (by decide) dX6_blockOf_45 (fun c45 => ?_) (fun c45 => ?_)
          · -- taken at 45
            have c45' := i_ne c45
            refine g_aload_n C 1 rfl dX6_blockOf_59 ?_
            refine g_get C 0 6 4 (by omega) h_4 rfl in6 (by decide) f36 (fun _ h9 => h9) rfl dX6_blockOf_60 ?_
            refine g_iload_n C 0 rfl dX6_blockOf_63 ?_
            refine g_Vi C [.int (aIo σ x)] 120 1 (by omega) hBL_2.1 rfl (c_X1_shiftOf l D kc N adr cell1 120 (gaF (aH d0) Sf Mf d0.2.1).1 (gaF (aH d0) Sf Mf d0.2.1).2.1 (gaF (aH d0) Sf Mf d0.2.1).2.2 (aIo σ x) hBL_2 (by omega)) (cwV 1 C.2.2.2.2.1 gX6_blockOf_X1_shiftOf rfl rfl rfl (by decide +kernel) ⟨Nat.le_of_ble_eq_true rfl, Nat.le_of_ble_eq_true rfl⟩) rfl rfl (Nat.le_of_ble_eq_true rfl) (Nat.zero_le _) (Nat.zero_le _) dX6_blockOf_64 (fun v11 cell11 q11 => ?_)
            obtain ⟨rfl, rfl⟩ := q11
            refine g_bipush C 100 (by decide) dX6_blockOf_67 ?_
            refine g_iadd C dX6_blockOf_69 ?_
            refine g_iret C hr rfl hlk dX6_blockOf_70 ?_
            have hwh : whF (gaF (aH d0) Sf Mf d0.2.1).2.1 (gaF (aH d0) Sf Mf d0.2.1).1 (aIo σ x) = whF (aBl σ).2.1 (aBl σ).1 (aIo σ x) := by rw [← hBE.1]; exact wh_cong hBE.2.1 _
            exact ⟨by unfold blockOfR; rw [if_neg (by omega), if_neg c38, if_neg c45, hwh], ⟨h_4, ⟨_, h_5, hEq⟩, ⟨_, h_6⟩, ⟨_, _, h_7, hHE⟩, ⟨_, _, _, _, h_8⟩, ⟨_, _, _, hBL_2⟩, ⟨_, _, _, h_9⟩, hch⟩⟩
          · -- not taken at 45
            have c45' := i_eq c45
            refine g_aload_n C 1 rfl dX6_blockOf_48 ?_
            refine g_get C 0 6 4 (by omega) h_4 rfl in6 (by decide) f36 (fun _ h9 => h9) rfl dX6_blockOf_49 ?_
            refine g_iload_n C 0 rfl dX6_blockOf_52 ?_
            refine g_Vi C [.int (aIo σ x)] 120 1 (by omega) hBL_2.1 rfl (c_X1_membersOf l D kc N adr cell1 120 (gaF (aH d0) Sf Mf d0.2.1).1 (gaF (aH d0) Sf Mf d0.2.1).2.1 (gaF (aH d0) Sf Mf d0.2.1).2.2 (aIo σ x) hBL_2 (by omega)) (cwV 1 C.2.2.2.2.1 gX6_blockOf_X1_membersOf rfl rfl rfl (by decide +kernel) ⟨Nat.le_of_ble_eq_true rfl, Nat.le_of_ble_eq_true rfl⟩) rfl rfl (Nat.le_of_ble_eq_true rfl) (Nat.zero_le _) (Nat.zero_le _) dX6_blockOf_53 (fun v12 cell12 q12 => ?_)
            obtain ⟨rfl, rfl⟩ := q12
            refine g_goto C 70 (by decide) dX6_blockOf_56 ?_
            refine g_iret C hr rfl hlk dX6_blockOf_70 ?_
            have hwh : whF (gaF (aH d0) Sf Mf d0.2.1).2.2 (gaF (aH d0) Sf Mf d0.2.1).1 (aIo σ x) = whF (aBl σ).2.2 (aBl σ).1 (aIo σ x) := by rw [← hBE.1]; exact wh_cong hBE.2.2 _
            exact ⟨by unfold blockOfR; rw [if_neg (by omega), if_neg c38, if_pos c45, hwh], ⟨h_4, ⟨_, h_5, hEq⟩, ⟨_, h_6⟩, ⟨_, _, h_7, hHE⟩, ⟨_, _, _, _, h_8⟩, ⟨_, _, _, hBL_2⟩, ⟨_, _, _, h_9⟩, hch⟩⟩
        · -- not taken at 38
          have c38' := i_eq c38
          refine g_ldc C (-1000004) k182 dX6_blockOf_41 ?_
          refine g_iret C hr rfl hlk dX6_blockOf_43 ?_
          exact ⟨by unfold blockOfR; rw [if_neg (by omega)]; exact if_pos c38, ⟨h_4, ⟨_, h_5, hEq⟩, ⟨_, h_6⟩, ⟨_, _, h_7, hHE⟩, ⟨_, _, _, _, h_8⟩, ⟨_, _, _, hBL_2⟩, ⟨_, _, _, h_9⟩, hch⟩⟩
      · -- not taken at 10
        have c10' := i_nle c10
        refine g_ldc C (-1000001) k60 dX6_blockOf_13 ?_
        refine g_iret C hr rfl hlk dX6_blockOf_15 ?_
        exact ⟨by unfold blockOfR; exact if_pos (by omega), hX0⟩
