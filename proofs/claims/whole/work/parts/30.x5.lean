set_option maxRecDepth 100000 in
set_option maxHeartbeats 4000000 in
theorem c_X6_differenceAt (l : Launch) (D : va_G) (kc : Nat → ClassId) (N : Nat) (adr : Nat → Nat) (cell : Nat → va_E) (d0 : SD) (ap av : Int32) (af : Nat → Int32) (z : Nat) (x0 : cell 0 = .inr (6, [.ref (adr 1), .ref (adr 20), .ref (adr 39), .ref (adr 117), .ref (adr 120), .ref (adr 123)])) (hS : StAt cell adr kc 1 d0) (hAN : AncAt cell adr kc 123 ap av af) (hz : z < d0.1) (hN : 125 ≤ N) : MI l yX6_differenceAt wsX6_differenceAt ({ frames := 3, cells := 0, slots := 0, locals := 75 }) D kc N adr cell [.ref (adr 0), .int (nI z)] (fun (w : Int32) (cell1 : Nat → va_E) => dfF d0 z = w ∧ (∃ (p v : Int32) (f : Nat → Int32), AncAt cell1 adr kc 123 p v f) ∧ ∀ j : Nat, (j < 123 ∨ 125 ≤ j) → cell1 j = cell j) := by
  refine met_i (cc := cX6_differenceAt) (maxL := 4) (ret := (some .int)) (by decide) rfl (Nat.le_of_ble_eq_true rfl) (lv := [(0, .ref (adr 0)), (1, .int (nI z))]) rfl ?_
  intro Pg Ev Sv Mi args below Me Cd Ar C hr hlk hnm
  have in5 : ∀ w ∈ u_ws RX5 TX5 5, w ∈ wsX6_differenceAt := by decide +kernel
  have in6 : ∀ w ∈ u_ws RX6 TX6 6, w ∈ wsX6_differenceAt := by decide +kernel
  have f43 := C.2.2.2.2.1 (.fieldLink RX6 43 "WordAnchors" "probe" "LWordAnchors$Anchor;") (by decide +kernel)
  have f10 := C.2.2.2.2.1 (.fieldLink RX6 10 "WordAnchors" "now" "LWordAnchors$State;") (by decide +kernel)
  have f47 := C.2.2.2.2.1 (.fieldLink RX6 47 "WordAnchors$State" "row" "LWordAnchors$Row;") (by decide +kernel)
  have litm1 : ((-1) : Int32).toInt = -1 := rfl
  have lit0 : (0 : Int32).toInt = 0 := rfl
  have lit1 : (1 : Int32).toInt = 1 := rfl
  refine g_aload_n C 0 rfl dX6_differenceAt_0 ?_
  refine g_get C 0 6 5 (by omega) x0 rfl in6 (by decide) f43 (fun _ h9 => h9) rfl dX6_differenceAt_1 ?_
  refine g_aload_n C 0 rfl dX6_differenceAt_4 ?_
  refine g_get C 0 6 0 (by omega) x0 rfl in6 (by decide) f10 (fun _ h9 => h9) rfl dX6_differenceAt_5 ?_
  refine g_get C 1 5 0 (by omega) hS.1 rfl in5 (by decide) f47 (fun _ h9 => h9) rfl dX6_differenceAt_8 ?_
  refine g_iload_n C 1 rfl dX6_differenceAt_11 ?_
  refine g_Vv C [.ref (adr (1 + 1)), .int (nI z)] 123 0 (by omega) hAN.1 rfl (c_X0_setAt l D kc N adr cell (123) (ap) (av) (af) (1 + 1) d0.2.2.2.1 d0.2.2.2.2.1 d0.2.2.2.2.2.1 d0.1 (nI z) hAN (by omega) hS.2.1 (by omega) (by omega)) (cwV 2 C.2.2.2.2.1 gX6_differenceAt_X0_setAt rfl rfl rfl (by decide +kernel) ⟨Nat.le_of_ble_eq_true rfl, Nat.le_of_ble_eq_true rfl⟩) rfl rfl (Nat.le_of_ble_eq_true rfl) (Nat.zero_le _) (Nat.zero_le _) dX6_differenceAt_12 (fun cell1 q1 => ?_)
  obtain ⟨ha_2, gf_3⟩ := q1
  have hsc : ∀ y : Int32, scr d0.1 d0.2.2.2.1 d0.2.2.2.2.2.2.1 (fill (lookF d0.1 d0.2.2.2.1 (nI z)) af 5) y = scr d0.1 d0.2.2.2.1 d0.2.2.2.2.2.2.1 (lookF d0.1 d0.2.2.2.1 (nI z)) y := fun y => scr_cong (fun _ _ => rfl) (fun _ _ => rfl) (fun j hj => fill_in hj) y
  have hbc : ∀ y : Int32, bpF d0.1 d0.2.2.2.1 d0.2.2.2.2.2.2.1 (fill (lookF d0.1 d0.2.2.2.1 (nI z)) af 5) (nI z) y = bpF d0.1 d0.2.2.2.1 d0.2.2.2.2.2.2.1 (lookF d0.1 d0.2.2.2.1 (nI z)) (nI z) y := fun y => bp_cong (fun _ _ => rfl) (fun _ _ => rfl) (fun j hj => fill_in hj) (nI z) y
  have h_4 : cell1 0 = .inr (6, [.ref (adr 1), .ref (adr 20), .ref (adr 39), .ref (adr 117), .ref (adr 120), .ref (adr 123)]) := (gf_3 0 (by omega)).trans x0
  have h_5 : StAt cell1 adr kc 1 d0 := StAt.frame hS (fun j h1 h2 => gf_3 j (by omega))
  have fr_6 : ∀ j : Nat, (j < 123 ∨ 125 ≤ j) → cell1 j = cell j := fun j hj => gf_3 j (by omega)
  refine g_aload_n C 0 rfl dX6_differenceAt_15 ?_
  refine g_get C 0 6 0 (by omega) h_4 rfl in6 (by decide) f10 (fun _ h9 => h9) rfl dX6_differenceAt_16 ?_
  refine g_aload_n C 0 rfl dX6_differenceAt_19 ?_
  refine g_get C 0 6 5 (by omega) h_4 rfl in6 (by decide) f43 (fun _ h9 => h9) rfl dX6_differenceAt_20 ?_
  refine g_iload_n C 1 rfl dX6_differenceAt_23 ?_
  refine g_Vi C [.ref (adr 123), .int (nI z)] 1 5 (by omega) h_5.1 rfl (c_X5_scoreOf l D kc N adr cell1 1 d0.1 d0.2.1 d0.2.2.1 d0.2.2.2.1 d0.2.2.2.2.1 d0.2.2.2.2.2.1 d0.2.2.2.2.2.2.1 d0.2.2.2.2.2.2.2.1 d0.2.2.2.2.2.2.2.2.1 d0.2.2.2.2.2.2.2.2.2 123 (nI z) (nI z) (fill (lookF d0.1 d0.2.2.2.1 (nI z)) af 5) (nI z) h_5 (by omega) ha_2 (by omega)) (cwV 2 C.2.2.2.2.1 gX6_differenceAt_X5_scoreOf rfl rfl rfl (by decide +kernel) ⟨Nat.le_of_ble_eq_true rfl, Nat.le_of_ble_eq_true rfl⟩) rfl rfl (Nat.le_of_ble_eq_true rfl) (Nat.zero_le _) (Nat.zero_le _) dX6_differenceAt_24 (fun v7 cell7 q7 => ?_)
  obtain ⟨rfl, rfl⟩ := q7
  refine g_eqst (st1 := ([.int (scr d0.1 d0.2.2.2.1 d0.2.2.2.2.2.2.1 (lookF d0.1 d0.2.2.2.1 (nI z)) (nI z))] : List Value)) (by rw [hsc]) ?_
  refine g_istore_n C [(2, .int (scr d0.1 d0.2.2.2.1 d0.2.2.2.2.2.2.1 (lookF d0.1 d0.2.2.2.1 (nI z)) (nI z))), (0, .ref (adr 0)), (1, .int (nI z))] (by decide) rfl dX6_differenceAt_27 ?_
  refine g_aload_n C 1 rfl dX6_differenceAt_28 ?_
  refine g_get C 0 6 0 (by omega) h_4 rfl in6 (by decide) f10 (fun _ h9 => h9) rfl dX6_differenceAt_29 ?_
  refine g_aload_n C 1 rfl dX6_differenceAt_32 ?_
  refine g_get C 0 6 5 (by omega) h_4 rfl in6 (by decide) f43 (fun _ h9 => h9) rfl dX6_differenceAt_33 ?_
  refine g_iload_n C 2 rfl dX6_differenceAt_36 ?_
  refine g_Vi C [.ref (adr 123), .int (nI z)] 1 5 (by omega) h_5.1 rfl (c_X5_bestPlaceBut l D kc N adr cell1 1 d0.1 d0.2.1 d0.2.2.1 d0.2.2.2.1 d0.2.2.2.2.1 d0.2.2.2.2.2.1 d0.2.2.2.2.2.2.1 d0.2.2.2.2.2.2.2.1 d0.2.2.2.2.2.2.2.2.1 d0.2.2.2.2.2.2.2.2.2 123 (nI z) (nI z) (fill (lookF d0.1 d0.2.2.2.1 (nI z)) af 5) (nI z) h_5 (by omega) ha_2 (by omega)) (cwV 2 C.2.2.2.2.1 gX6_differenceAt_X5_bestPlaceBut rfl rfl rfl (by decide +kernel) ⟨Nat.le_of_ble_eq_true rfl, Nat.le_of_ble_eq_true rfl⟩) rfl rfl (Nat.le_of_ble_eq_true rfl) (Nat.zero_le _) (Nat.zero_le _) dX6_differenceAt_37 (fun v8 cell8 q8 => ?_)
  obtain ⟨rfl, rfl⟩ := q8
  refine g_eqst (st1 := ([.int (bpF d0.1 d0.2.2.2.1 d0.2.2.2.2.2.2.1 (lookF d0.1 d0.2.2.2.1 (nI z)) (nI z) (nI z))] : List Value)) (by rw [hbc]) ?_
  refine g_istore_n C [(3, .int (bpF d0.1 d0.2.2.2.1 d0.2.2.2.2.2.2.1 (lookF d0.1 d0.2.2.2.1 (nI z)) (nI z) (nI z))), (2, .int (scr d0.1 d0.2.2.2.1 d0.2.2.2.2.2.2.1 (lookF d0.1 d0.2.2.2.1 (nI z)) (nI z))), (0, .ref (adr 0)), (1, .int (nI z))] (by decide) rfl dX6_differenceAt_40 ?_
  refine g_iload_n C 0 rfl dX6_differenceAt_41 ?_
  refine g_iconst C (-1) (by decide) dX6_differenceAt_42 ?_
  refine g_icmp_ne C 50 (by decide) dX6_differenceAt_43 (fun c43 => ?_) (fun c43 => ?_)
  · -- taken at 43
    have c43' := i_ne c43
    refine g_iload_n C 1 rfl dX6_differenceAt_50 ?_
    refine g_aload_n C 2 rfl dX6_differenceAt_51 ?_
    refine g_get C 0 6 0 (by omega) h_4 rfl in6 (by decide) f10 (fun _ h9 => h9) rfl dX6_differenceAt_52 ?_
    refine g_aload_n C 2 rfl dX6_differenceAt_55 ?_
    refine g_get C 0 6 5 (by omega) h_4 rfl in6 (by decide) f43 (fun _ h9 => h9) rfl dX6_differenceAt_56 ?_
    refine g_iload_n C 0 rfl dX6_differenceAt_59 ?_
    refine g_Vi C [.ref (adr 123), .int (bpF d0.1 d0.2.2.2.1 d0.2.2.2.2.2.2.1 (lookF d0.1 d0.2.2.2.1 (nI z)) (nI z) (nI z))] 1 5 (by omega) h_5.1 rfl (c_X5_scoreOf l D kc N adr cell1 1 d0.1 d0.2.1 d0.2.2.1 d0.2.2.2.1 d0.2.2.2.2.1 d0.2.2.2.2.2.1 d0.2.2.2.2.2.2.1 d0.2.2.2.2.2.2.2.1 d0.2.2.2.2.2.2.2.2.1 d0.2.2.2.2.2.2.2.2.2 123 (nI z) (nI z) (fill (lookF d0.1 d0.2.2.2.1 (nI z)) af 5) (bpF d0.1 d0.2.2.2.1 d0.2.2.2.2.2.2.1 (lookF d0.1 d0.2.2.2.1 (nI z)) (nI z) (nI z)) h_5 (by omega) ha_2 (by omega)) (cwV 2 C.2.2.2.2.1 gX6_differenceAt_X5_scoreOf rfl rfl rfl (by decide +kernel) ⟨Nat.le_of_ble_eq_true rfl, Nat.le_of_ble_eq_true rfl⟩) rfl rfl (Nat.le_of_ble_eq_true rfl) (Nat.zero_le _) (Nat.zero_le _) dX6_differenceAt_60 (fun v9 cell9 q9 => ?_)
    obtain ⟨rfl, rfl⟩ := q9
    refine g_eqst (st1 := ([.int (scr d0.1 d0.2.2.2.1 d0.2.2.2.2.2.2.1 (lookF d0.1 d0.2.2.2.1 (nI z)) (bpF d0.1 d0.2.2.2.1 d0.2.2.2.2.2.2.1 (lookF d0.1 d0.2.2.2.1 (nI z)) (nI z) (nI z))), .int (scr d0.1 d0.2.2.2.1 d0.2.2.2.2.2.2.1 (lookF d0.1 d0.2.2.2.1 (nI z)) (nI z))] : List Value)) (by rw [hsc]) ?_
    refine g_isub C dX6_differenceAt_63 ?_
    refine g_iret C hr rfl hlk dX6_differenceAt_64 ?_
    exact ⟨if_neg c43, ⟨_, _, _, ha_2⟩, fr_6⟩
  · -- not taken at 43
    have c43' := i_eq c43
    refine g_iload_n C 1 rfl dX6_differenceAt_46 ?_
    refine g_goto C 64 (by decide) dX6_differenceAt_47 ?_
    refine g_iret C hr rfl hlk dX6_differenceAt_64 ?_
    exact ⟨if_pos c43, ⟨_, _, _, ha_2⟩, fr_6⟩
set_option maxRecDepth 100000 in
set_option maxHeartbeats 4000000 in
theorem c_X6_clearest (l : Launch) (D : va_G) (kc : Nat → ClassId) (N : Nat) (adr : Nat → Nat) (cell : Nat → va_E) (σ : SD) (hn : Nat) (hi : Nat → SD) (L : Nat) (ch : Nat → Int32) (x : Int32) (hX : XAt cell adr kc σ hn hi L ch) (hG : Good σ) (hN : 125 ≤ N) : MI l yX6_clearest wsX6_clearest ({ frames := 4, cells := 0, slots := 0, locals := 98 }) D kc N adr cell [.ref (adr 0), .int x] (fun (w0 : Int32) (cell1 : Nat → va_E) => clearestR σ x = w0 ∧ XAt cell1 adr kc σ hn hi L ch) := by
  refine met_i (cc := cX6_clearest) (maxL := 6) (ret := (some .int)) (by decide) rfl (Nat.le_of_ble_eq_true rfl) (lv := [(0, .ref (adr 0)), (1, .int x)]) rfl ?_
  intro Pg Ev Sv Mi args below Me Cd Ar C hr hlk hnm
  have in5 : ∀ w ∈ u_ws RX5 TX5 5, w ∈ wsX6_clearest := by decide +kernel
  have in6 : ∀ w ∈ u_ws RX6 TX6 6, w ∈ wsX6_clearest := by decide +kernel
  have k60 := C.2.2.2.2.1 (.constant RX6 60 (-1000001)) (by decide +kernel)
  have f10 := C.2.2.2.2.1 (.fieldLink RX6 10 "WordAnchors" "now" "LWordAnchors$State;") (by decide +kernel)
  have f47 := C.2.2.2.2.1 (.fieldLink RX6 47 "WordAnchors$State" "row" "LWordAnchors$Row;") (by decide +kernel)
  have k182 := C.2.2.2.2.1 (.constant RX6 182 (-1000004)) (by decide +kernel)
  have hX0 := hX
  obtain ⟨x0, ⟨d0, hS, hEq⟩, ⟨dT, hST⟩, ⟨od, dh, hHI, hHE⟩, ⟨sx, nx, sg, nu, hTX⟩, ⟨bz, Sf, Mf, hBL⟩, ⟨ap, av, af, hAN⟩, hch⟩ := hX
  have en := hEq.1
  have em := hEq.2.1
  have hgn := hG.1
  have hgm := hG.2.1
  have hn40 : d0.1 ≤ 40 := hS.2.1.2.2.2.2
  have hm6 : d0.2.1 ≤ 6 := hS.2.2.2.2.2
  have hL60 : L ≤ 60 := hTX.2.2.2
  have hod : od < 4 := hHI.2.2.2.1
  have hh4 : hn ≤ 4 := hHI.2.2.2.2
  have litm1000004 : ((-1000004) : Int32).toInt = -1000004 := rfl
  have litm1000001 : ((-1000001) : Int32).toInt = -1000001 := rfl
  have litm1 : ((-1) : Int32).toInt = -1 := rfl
  have lit0 : (0 : Int32).toInt = 0 := rfl
  have lit1 : (1 : Int32).toInt = 1 := rfl
  have tn_d0_1 : (nI d0.1).toInt = ((d0.1 : Nat) : Int) := nI_toInt (by omega)
  have tn_d0_2_1 : (nI d0.2.1).toInt = ((d0.2.1 : Nat) : Int) := nI_toInt (by omega)
  have tn_L : (nI L).toInt = ((L : Nat) : Int) := nI_toInt (by omega)
  have tn_hn : (nI hn).toInt = ((hn : Nat) : Int) := nI_toInt (by omega)
  refine g_iload_n C 1 rfl dX6_clearest_0 ?_
  refine g_if_lt C 9 (by decide) dX6_clearest_1 (fun c1 => ?_) (fun c1 => ?_)
  · -- taken at 1
    have c1' := i_lt c1
    refine g_ldc C (-1000001) k60 dX6_clearest_9 ?_
    refine g_iret C hr rfl hlk dX6_clearest_11 ?_
    exact ⟨by unfold clearestR; exact if_pos (by omega), hX0⟩
  · -- not taken at 1
    have c1' := i_nlt c1
    refine g_iload_n C 1 rfl dX6_clearest_4 ?_
    refine g_iconst C 1 (by decide) dX6_clearest_5 ?_
    refine g_icmp_le C 12 (by decide) dX6_clearest_6 (fun c6 => ?_) (fun c6 => ?_)
    · -- taken at 6
      have c6' := i_le c6
      refine g_iconst C (-1) (by decide) dX6_clearest_12 ?_
      refine g_istore_n C [(2, .int (-1)), (0, .ref (adr 0)), (1, .int x)] (by decide) rfl dX6_clearest_13 ?_
      refine g_iconst C 0 (by decide) dX6_clearest_14 ?_
      refine g_istore_n C [(3, .int 0), (2, .int (-1)), (0, .ref (adr 0)), (1, .int x)] (by decide) rfl dX6_clearest_15 ?_
      refine g_iconst C 0 (by decide) dX6_clearest_16 ?_
      refine g_istore C [(4, .int 0), (3, .int 0), (2, .int (-1)), (0, .ref (adr 0)), (1, .int x)] (by decide) rfl dX6_clearest_17 ?_
      have L19 : ∀ (fu i : Nat) (cl : Nat → va_E) (apl avl : Int32) (afl : Nat → Int32), i ≤ d0.1 → d0.1 < i + fu → (t0 : cl 0 = .inr (6, [.ref (adr 1), .ref (adr 20), .ref (adr 39), .ref (adr 117), .ref (adr 120), .ref (adr 123)])) → (t1 : StAt cl adr kc 1 d0) → (t2 : StAt cl adr kc 20 dT) → (t3 : HiAt cl adr kc 39 od hn dh) → (t4 : TxAt cl adr kc 117 L sx (nI nx) sg ch nu) → (t5 : BlAt cl adr kc 120 bz Sf Mf) → (t6 : AncAt cl adr kc 123 apl avl afl) → G Pg l Ev (headSpec wsX6_clearest { frames := 4, cells := 0, slots := 0, locals := 98 }).room Sv Mi args below Me Cd D N adr Ar Sv.heap 6 0 0 (MQ below (va_Qi (fun (w0 : Int32) (cell1 : Nat → va_E) => clearestR σ x = w0 ∧ XAt cell1 adr kc σ hn hi L ch) (fun (cell1 : Nat → va_E) (t : State) => va_P D vwCl (wld N adr cell1) t.heap) Ar) args Sv 0 0 Ar) cl 19 [(0, .ref (adr 0)), (1, .int x), (2, .int ((clF σ i).1)), (3, .int ((clF σ i).2)), (4, .int (nI i))] ([] : List Value) := by
        intro fu
        induction fu with
        | zero => intro i cl apl avl afl hle hfu; exact absurd hfu (by omega)
        | succ fu ih =>
          intro i cl apl avl afl hle19 hfu19 t0 t1 t2 t3 t4 t5 t6 
          have tn_i : (nI i).toInt = ((i : Nat) : Int) := nI_toInt (by omega)
          refine g_iload C 4 rfl dX6_clearest_19 ?_
          refine g_aload_n C 0 rfl dX6_clearest_21 ?_
          refine g_get C 0 6 0 (by omega) t0 rfl in6 (by decide) f10 (fun _ h9 => h9) rfl dX6_clearest_22 ?_
          refine g_get C 1 5 0 (by omega) t1.1 rfl in5 (by decide) f47 (fun _ h9 => h9) rfl dX6_clearest_25 ?_
          refine g_Vi C [] (1 + 1) 4 (by omega) t1.2.1.1 rfl (c_X4_size l D kc N adr cl (1 + 1) d0.2.2.2.1 d0.2.2.2.2.1 d0.2.2.2.2.2.1 d0.1  t1.2.1 (by omega)) (cwV 0 C.2.2.2.2.1 gX6_clearest_X4_size rfl rfl rfl (by decide +kernel) ⟨Nat.le_of_ble_eq_true rfl, Nat.le_of_ble_eq_true rfl⟩) rfl rfl (Nat.le_of_ble_eq_true rfl) (Nat.zero_le _) (Nat.zero_le _) dX6_clearest_28 (fun v1 cell1 q1 => ?_)
          obtain ⟨rfl, rfl⟩ := q1
          refine g_icmp_ge C 65 (by decide) dX6_clearest_31 (fun c31 => ?_) (fun c31 => ?_)
          · -- taken at 31
            have c31' := i_le c31
            refine g_iload_n C 2 rfl dX6_clearest_65 ?_
            refine g_iconst C (-1) (by decide) dX6_clearest_66 ?_
            refine g_icmp_ne C 73 (by decide) dX6_clearest_67 (fun c67 => ?_) (fun c67 => ?_)
            · -- taken at 67
              have c67' := i_ne c67
              refine g_iload_n C 1 rfl dX6_clearest_73 ?_
              refine g_if_ne C 81 (by decide) dX6_clearest_74 (fun c74 => ?_) (fun c74 => ?_)
              · -- taken at 74
                have c74' := i_ne c74
                refine g_iload_n C 3 rfl dX6_clearest_81 ?_
                refine g_iret C hr rfl hlk dX6_clearest_82 ?_
                have hsn : clF σ σ.1 = clF σ i := by rw [← en]; exact congrArg _ (by omega)
                exact ⟨by unfold clearestR; rw [if_neg (by omega), hsn]; rw [if_neg c67, if_neg c74], ⟨t0, ⟨_, t1, hEq⟩, ⟨_, t2⟩, ⟨_, _, t3, hHE⟩, ⟨_, _, _, _, t4⟩, ⟨_, _, _, t5⟩, ⟨_, _, _, t6⟩, hch⟩⟩
              · -- not taken at 74
                have c74' := i_eq c74
                refine g_iload_n C 2 rfl dX6_clearest_77 ?_
                refine g_goto C 82 (by decide) dX6_clearest_78 ?_
                refine g_iret C hr rfl hlk dX6_clearest_82 ?_
                have hsn : clF σ σ.1 = clF σ i := by rw [← en]; exact congrArg _ (by omega)
                exact ⟨by unfold clearestR; rw [if_neg (by omega), hsn]; rw [if_neg c67, if_pos c74], ⟨t0, ⟨_, t1, hEq⟩, ⟨_, t2⟩, ⟨_, _, t3, hHE⟩, ⟨_, _, _, _, t4⟩, ⟨_, _, _, t5⟩, ⟨_, _, _, t6⟩, hch⟩⟩
            · -- not taken at 67
              have c67' := i_eq c67
              refine g_ldc C (-1000004) k182 dX6_clearest_70 ?_
              refine g_iret C hr rfl hlk dX6_clearest_72 ?_
              have hsn : clF σ σ.1 = clF σ i := by rw [← en]; exact congrArg _ (by omega)
              exact ⟨by unfold clearestR; rw [if_neg (by omega), hsn]; exact if_pos c67, ⟨t0, ⟨_, t1, hEq⟩, ⟨_, t2⟩, ⟨_, _, t3, hHE⟩, ⟨_, _, _, _, t4⟩, ⟨_, _, _, t5⟩, ⟨_, _, _, t6⟩, hch⟩⟩
          · -- not taken at 31
            have c31' := i_nle c31
            refine g_aload_n C 0 rfl dX6_clearest_34 ?_
            refine g_iload C 4 rfl dX6_clearest_35 ?_
            refine g_Vi C [.int (nI i)] 0 6 (by omega) t0 rfl (c_X6_differenceAt l D kc N adr cl d0 apl avl afl i t0 t1 t6 (by omega) (by omega)) (cwV 1 C.2.2.2.2.1 gX6_clearest_X6_differenceAt rfl rfl rfl (by decide +kernel) ⟨Nat.le_of_ble_eq_true rfl, Nat.le_of_ble_eq_true rfl⟩) rfl rfl (Nat.le_of_ble_eq_true rfl) (Nat.zero_le _) (Nat.zero_le _) dX6_clearest_37 (fun v2 cell2 q2 => ?_)
            obtain ⟨rfl, ⟨ap2, av2, af2, hAN_3⟩, gf_4⟩ := q2
            have h_5 : cell2 0 = .inr (6, [.ref (adr 1), .ref (adr 20), .ref (adr 39), .ref (adr 117), .ref (adr 120), .ref (adr 123)]) := (gf_4 0 (by omega)).trans t0
            have h_6 : StAt cell2 adr kc 1 d0 := StAt.frame t1 (fun j h1 h2 => gf_4 j (by omega))
            have h_7 : StAt cell2 adr kc 20 dT := StAt.frame t2 (fun j h1 h2 => gf_4 j (by omega))
            have h_8 : HiAt cell2 adr kc 39 od hn dh := HiAt.frame t3 (fun j h1 h2 => gf_4 j (by omega))
            have h_9 : TxAt cell2 adr kc 117 L sx (nI nx) sg ch nu := TxAt.frame t4 (fun j h1 h2 => gf_4 j (by omega))
            have h_10 : BlAt cell2 adr kc 120 bz Sf Mf := BlAt.frame t5 (fun j h1 h2 => gf_4 j (by omega))
            refine g_eqst (st1 := ([.int (dfF σ i)] : List Value)) (by rw [df_cong hEq]) ?_
            refine g_istore C [(5, .int (dfF σ i)), (0, .ref (adr 0)), (1, .int x), (2, .int ((clF σ i).1)), (3, .int ((clF σ i).2)), (4, .int (nI i))] (by decide) rfl dX6_clearest_40 ?_
            refine g_iload_n C 3 rfl dX6_clearest_42 ?_
            refine g_iconst C (-1) (by decide) dX6_clearest_43 ?_
            refine g_icmp_eq C 53 (by decide) dX6_clearest_44 (fun c44 => ?_) (fun c44 => ?_)
            · -- taken at 44
              have c44' := i_eq c44
              refine g_iload C 5 rfl dX6_clearest_53 ?_
              refine g_istore_n C [(2, .int (nI i)), (5, .int (dfF σ i)), (0, .ref (adr 0)), (1, .int x), (3, .int ((clF σ i).2)), (4, .int (nI i))] (by decide) rfl dX6_clearest_55 ?_
              refine g_iload C 1 rfl dX6_clearest_56 ?_
              refine g_istore_n C [(3, .int (dfF σ i)), (2, .int (nI i)), (5, .int (dfF σ i)), (0, .ref (adr 0)), (1, .int x), (4, .int (nI i))] (by decide) rfl dX6_clearest_58 ?_
              refine g_iinc C 5 [(4, .int (nI (i + 1))), (3, .int (dfF σ i)), (2, .int (nI i)), (5, .int (dfF σ i)), (0, .ref (adr 0)), (1, .int x)] rfl (iinc_nI i) (by decide) rfl dX6_clearest_59 ?_
              refine g_goto C 19 (by decide) dX6_clearest_62 ?_
              have hcl1 : clF σ (i + 1) = (nI i, dfF σ i) := if_pos (Or.inl c44)
              refine g_sub [4, 5, 2, 1, 0] rfl ?_
              have ev_11 : nI i = (clF σ (i + 1)).1 := by rw [hcl1]
              refine g_eqlv (lv1 := [(0, .ref (adr 0)), (1, .int x), (2, .int ((clF σ (i + 1)).1)), (3, .int (dfF σ i)), (4, .int (nI (i + 1)))]) (congrArg (fun z0 : Int32 => ([(0, .ref (adr 0)), (1, .int x), (2, .int z0), (3, .int (dfF σ i)), (4, .int (nI (i + 1)))] : List (Nat × Value))) ev_11) ?_
              have ev_12 : dfF σ i = (clF σ (i + 1)).2 := by rw [hcl1]
              refine g_eqlv (lv1 := [(0, .ref (adr 0)), (1, .int x), (2, .int ((clF σ (i + 1)).1)), (3, .int ((clF σ (i + 1)).2)), (4, .int (nI (i + 1)))]) (congrArg (fun z0 : Int32 => ([(0, .ref (adr 0)), (1, .int x), (2, .int ((clF σ (i + 1)).1)), (3, .int z0), (4, .int (nI (i + 1)))] : List (Nat × Value))) ev_12) ?_
              exact ih (i + 1) _ _ _ _ (by omega) (by omega) h_5 h_6 h_7 h_8 h_9 h_10 hAN_3 
            · -- not taken at 44
              have c44' := i_ne c44
              refine g_iload C 0 rfl dX6_clearest_47 ?_
              refine g_iload_n C 4 rfl dX6_clearest_49 ?_
              refine g_icmp_le C 59 (by decide) dX6_clearest_50 (fun c50 => ?_) (fun c50 => ?_)
              · -- taken at 50
                have c50' := i_le c50
                refine g_iinc C 5 [(4, .int (nI (i + 1))), (5, .int (dfF σ i)), (0, .ref (adr 0)), (1, .int x), (2, .int ((clF σ i).1)), (3, .int ((clF σ i).2))] rfl (iinc_nI i) (by decide) rfl dX6_clearest_59 ?_
                refine g_goto C 19 (by decide) dX6_clearest_62 ?_
                have hcl1 : clF σ (i + 1) = clF σ i := if_neg (fun h => h.elim c44 (fun h => h c50))
                refine g_sub [2, 3, 4, 5, 0] rfl ?_
                have ev_13 : (clF σ i).1 = (clF σ (i + 1)).1 := by rw [hcl1]
                refine g_eqlv (lv1 := [(0, .ref (adr 0)), (1, .int x), (2, .int ((clF σ (i + 1)).1)), (3, .int ((clF σ i).2)), (4, .int (nI (i + 1)))]) (congrArg (fun z0 : Int32 => ([(0, .ref (adr 0)), (1, .int x), (2, .int z0), (3, .int ((clF σ i).2)), (4, .int (nI (i + 1)))] : List (Nat × Value))) ev_13) ?_
                have ev_14 : (clF σ i).2 = (clF σ (i + 1)).2 := by rw [hcl1]
                refine g_eqlv (lv1 := [(0, .ref (adr 0)), (1, .int x), (2, .int ((clF σ (i + 1)).1)), (3, .int ((clF σ (i + 1)).2)), (4, .int (nI (i + 1)))]) (congrArg (fun z0 : Int32 => ([(0, .ref (adr 0)), (1, .int x), (2, .int ((clF σ (i + 1)).1)), (3, .int z0), (4, .int (nI (i + 1)))] : List (Nat × Value))) ev_14) ?_
                exact ih (i + 1) _ _ _ _ (by omega) (by omega) h_5 h_6 h_7 h_8 h_9 h_10 hAN_3 
              · -- not taken at 50
                have c50' := i_nle c50
                refine g_iload C 5 rfl dX6_clearest_53 ?_
                refine g_istore_n C [(2, .int (nI i)), (5, .int (dfF σ i)), (0, .ref (adr 0)), (1, .int x), (3, .int ((clF σ i).2)), (4, .int (nI i))] (by decide) rfl dX6_clearest_55 ?_
                refine g_iload C 1 rfl dX6_clearest_56 ?_
                refine g_istore_n C [(3, .int (dfF σ i)), (2, .int (nI i)), (5, .int (dfF σ i)), (0, .ref (adr 0)), (1, .int x), (4, .int (nI i))] (by decide) rfl dX6_clearest_58 ?_
                refine g_iinc C 5 [(4, .int (nI (i + 1))), (3, .int (dfF σ i)), (2, .int (nI i)), (5, .int (dfF σ i)), (0, .ref (adr 0)), (1, .int x)] rfl (iinc_nI i) (by decide) rfl dX6_clearest_59 ?_
                refine g_goto C 19 (by decide) dX6_clearest_62 ?_
                have hcl1 : clF σ (i + 1) = (nI i, dfF σ i) := if_pos (Or.inr c50)
                refine g_sub [4, 5, 2, 1, 0] rfl ?_
                have ev_15 : nI i = (clF σ (i + 1)).1 := by rw [hcl1]
                refine g_eqlv (lv1 := [(0, .ref (adr 0)), (1, .int x), (2, .int ((clF σ (i + 1)).1)), (3, .int (dfF σ i)), (4, .int (nI (i + 1)))]) (congrArg (fun z0 : Int32 => ([(0, .ref (adr 0)), (1, .int x), (2, .int z0), (3, .int (dfF σ i)), (4, .int (nI (i + 1)))] : List (Nat × Value))) ev_15) ?_
                have ev_16 : dfF σ i = (clF σ (i + 1)).2 := by rw [hcl1]
                refine g_eqlv (lv1 := [(0, .ref (adr 0)), (1, .int x), (2, .int ((clF σ (i + 1)).1)), (3, .int ((clF σ (i + 1)).2)), (4, .int (nI (i + 1)))]) (congrArg (fun z0 : Int32 => ([(0, .ref (adr 0)), (1, .int x), (2, .int ((clF σ (i + 1)).1)), (3, .int z0), (4, .int (nI (i + 1)))] : List (Nat × Value))) ev_16) ?_
                exact ih (i + 1) _ _ _ _ (by omega) (by omega) h_5 h_6 h_7 h_8 h_9 h_10 hAN_3 
      refine g_sub [3, 4, 2, 1, 0] rfl ?_
      have ev_17 : (-1) = (clF σ 0).1 := by rfl
      refine g_eqlv (lv1 := [(0, .ref (adr 0)), (1, .int x), (2, .int ((clF σ 0).1)), (3, .int 0), (4, .int 0)]) (congrArg (fun z0 : Int32 => ([(0, .ref (adr 0)), (1, .int x), (2, .int z0), (3, .int 0), (4, .int 0)] : List (Nat × Value))) ev_17) ?_
      have ev_18 : 0 = (clF σ 0).2 := by rfl
      refine g_eqlv (lv1 := [(0, .ref (adr 0)), (1, .int x), (2, .int ((clF σ 0).1)), (3, .int ((clF σ 0).2)), (4, .int 0)]) (congrArg (fun z0 : Int32 => ([(0, .ref (adr 0)), (1, .int x), (2, .int ((clF σ 0).1)), (3, .int z0), (4, .int 0)] : List (Nat × Value))) ev_18) ?_
      exact L19 (d0.1 + 1) 0 _ _ _ _ (by omega) (by omega) x0 hS hST hHI hTX hBL hAN 
    · -- not taken at 6
      have c6' := i_nle c6
      refine g_ldc C (-1000001) k60 dX6_clearest_9 ?_
      refine g_iret C hr rfl hlk dX6_clearest_11 ?_
      exact ⟨by unfold clearestR; exact if_pos (by omega), hX0⟩
set_option maxRecDepth 100000 in
set_option maxHeartbeats 4000000 in
theorem c_X6_blockOf (l : Launch) (D : va_G) (kc : Nat → ClassId) (N : Nat) (adr : Nat → Nat) (cell : Nat → va_E) (σ : SD) (hn : Nat) (hi : Nat → SD) (L : Nat) (ch : Nat → Int32) (x y : Int32) (hX : XAt cell adr kc σ hn hi L ch) (hG : Good σ) (hN : 125 ≤ N) : MI l yX6_blockOf wsX6_blockOf ({ frames := 6, cells := 0, slots := 0, locals := 141 }) D kc N adr cell [.ref (adr 0), .int x, .int y] (fun (w0 : Int32) (cell1 : Nat → va_E) => blockOfR σ x y = w0 ∧ XAt cell1 adr kc σ hn hi L ch) := by
  refine met_i (cc := cX6_blockOf) (maxL := 4) (ret := (some .int)) (by decide) rfl (Nat.le_of_ble_eq_true rfl) (lv := [(0, .ref (adr 0)), (1, .int x), (2, .int y)]) rfl ?_
  intro Pg Ev Sv Mi args below Me Cd Ar C hr hlk hnm
  have in6 : ∀ w ∈ u_ws RX6 TX6 6, w ∈ wsX6_blockOf := by decide +kernel
  have k60 := C.2.2.2.2.1 (.constant RX6 60 (-1000001)) (by decide +kernel)
  have f36 := C.2.2.2.2.1 (.fieldLink RX6 36 "WordAnchors" "blocks" "LWordAnchors$Blocks;") (by decide +kernel)
  have f10 := C.2.2.2.2.1 (.fieldLink RX6 10 "WordAnchors" "now" "LWordAnchors$State;") (by decide +kernel)
  have k182 := C.2.2.2.2.1 (.constant RX6 182 (-1000004)) (by decide +kernel)
  have hX0 := hX
  obtain ⟨x0, ⟨d0, hS, hEq⟩, ⟨dT, hST⟩, ⟨od, dh, hHI, hHE⟩, ⟨sx, nx, sg, nu, hTX⟩, ⟨bz, Sf, Mf, hBL⟩, ⟨ap, av, af, hAN⟩, hch⟩ := hX
  have en := hEq.1
  have em := hEq.2.1
  have hgn := hG.1
  have hgm := hG.2.1
  have hn40 : d0.1 ≤ 40 := hS.2.1.2.2.2.2
  have hm6 : d0.2.1 ≤ 6 := hS.2.2.2.2.2
  have hL60 : L ≤ 60 := hTX.2.2.2
  have hod : od < 4 := hHI.2.2.2.1
  have hh4 : hn ≤ 4 := hHI.2.2.2.2
  have litm1000004 : ((-1000004) : Int32).toInt = -1000004 := rfl
  have litm1000001 : ((-1000001) : Int32).toInt = -1000001 := rfl
  have litm1 : ((-1) : Int32).toInt = -1 := rfl
  have lit0 : (0 : Int32).toInt = 0 := rfl
  have lit1 : (1 : Int32).toInt = 1 := rfl
  have lit100 : (100 : Int32).toInt = 100 := rfl
  have tn_d0_1 : (nI d0.1).toInt = ((d0.1 : Nat) : Int) := nI_toInt (by omega)
  have tn_d0_2_1 : (nI d0.2.1).toInt = ((d0.2.1 : Nat) : Int) := nI_toInt (by omega)
  have tn_L : (nI L).toInt = ((L : Nat) : Int) := nI_toInt (by omega)
  have tn_hn : (nI hn).toInt = ((hn : Nat) : Int) := nI_toInt (by omega)
  refine g_iload_n C 1 rfl dX6_blockOf_0 ?_
  refine g_if_lt C 13 (by decide) dX6_blockOf_1 (fun c1 => ?_) (fun c1 => ?_)
  · -- taken at 1
    have c1' := i_lt c1
    refine g_ldc C (-1000001) k60 dX6_blockOf_13 ?_
    refine g_iret C hr rfl hlk dX6_blockOf_15 ?_
    exact ⟨by unfold blockOfR; exact if_pos (by omega), hX0⟩
  · -- not taken at 1
    have c1' := i_nlt c1
    refine g_iload_n C 2 rfl dX6_blockOf_4 ?_
    refine g_if_lt C 13 (by decide) dX6_blockOf_5 (fun c5 => ?_) (fun c5 => ?_)
    · -- taken at 5
      have c5' := i_lt c5
      refine g_ldc C (-1000001) k60 dX6_blockOf_13 ?_
      refine g_iret C hr rfl hlk dX6_blockOf_15 ?_
      exact ⟨by unfold blockOfR; exact if_pos (by omega), hX0⟩
    · -- not taken at 5
      have c5' := i_nlt c5
      refine g_iload_n C 2 rfl dX6_blockOf_8 ?_
      refine g_iconst C 1 (by decide) dX6_blockOf_9 ?_
      refine g_icmp_le C 16 (by decide) dX6_blockOf_10 (fun c10 => ?_) (fun c10 => ?_)
      · -- taken at 10
        have c10' := i_le c10
        refine g_aload_n C 0 rfl dX6_blockOf_16 ?_
        refine g_get C 0 6 4 (by omega) x0 rfl in6 (by decide) f36 (fun _ h9 => h9) rfl dX6_blockOf_17 ?_
        refine g_aload_n C 0 rfl dX6_blockOf_20 ?_
        refine g_get C 0 6 0 (by omega) x0 rfl in6 (by decide) f10 (fun _ h9 => h9) rfl dX6_blockOf_21 ?_
        refine g_Vv C [.ref (adr 1)] 120 1 (by omega) hBL.1 rfl (c_X1_gather l D kc N adr cell 120 bz Sf Mf 1 d0.1 d0.2.1 d0.2.2.1 d0.2.2.2.1 d0.2.2.2.2.1 d0.2.2.2.2.2.1 d0.2.2.2.2.2.2.1 d0.2.2.2.2.2.2.2.1 d0.2.2.2.2.2.2.2.2.1 d0.2.2.2.2.2.2.2.2.2 hBL (by omega) hS (by omega) (by omega)) (cwV 1 C.2.2.2.2.1 gX6_blockOf_X1_gather rfl rfl rfl (by decide +kernel) ⟨Nat.le_of_ble_eq_true rfl, Nat.le_of_ble_eq_true rfl⟩) rfl rfl (Nat.le_of_ble_eq_true rfl) (Nat.zero_le _) (Nat.zero_le _) dX6_blockOf_24 (fun cell1 q1 => ?_)
        obtain ⟨hBL_2, gf_3⟩ := q1
        have hBL_2 : BlAt cell1 adr kc 120 (gaF (aH d0) Sf Mf d0.2.1).1 (gaF (aH d0) Sf Mf d0.2.1).2.1 (gaF (aH d0) Sf Mf d0.2.1).2.2 := hBL_2
        have hBE : BEq (gaF (aH d0) Sf Mf d0.2.1) (aBl σ) := by unfold aBl; rw [em]; exact ga_cong (fun i hi1 => eH hEq hi1)
        have h_4 : cell1 0 = .inr (6, [.ref (adr 1), .ref (adr 20), .ref (adr 39), .ref (adr 117), .ref (adr 120), .ref (adr 123)]) := (gf_3 0 (by omega)).trans x0
        have h_5 : StAt cell1 adr kc 1 d0 := StAt.frame hS (fun j h1 h2 => gf_3 j (by omega))
        have h_6 : StAt cell1 adr kc 20 dT := StAt.frame hST (fun j h1 h2 => gf_3 j (by omega))
        have h_7 : HiAt cell1 adr kc 39 od hn dh := HiAt.frame hHI (fun j h1 h2 => gf_3 j (by omega))
        have h_8 : TxAt cell1 adr kc 117 L sx (nI nx) sg ch nu := TxAt.frame hTX (fun j h1 h2 => gf_3 j (by omega))
        have h_9 : AncAt cell1 adr kc 123 ap av af := AncAt.frame hAN (fun j h1 h2 => gf_3 j (by omega))
        refine g_aload_n C 0 rfl dX6_blockOf_27 ?_
        refine g_get C 0 6 4 (by omega) h_4 rfl in6 (by decide) f36 (fun _ h9 => h9) rfl dX6_blockOf_28 ?_
        refine g_iload_n C 1 rfl dX6_blockOf_31 ?_
        refine g_Vi C [.int x] 120 1 (by omega) hBL_2.1 rfl (c_X1_inOrder l D kc N adr cell1 120 (gaF (aH d0) Sf Mf d0.2.1).1 (gaF (aH d0) Sf Mf d0.2.1).2.1 (gaF (aH d0) Sf Mf d0.2.1).2.2 x hBL_2 (by omega)) (cwV 1 C.2.2.2.2.1 gX6_blockOf_X1_inOrder rfl rfl rfl (by decide +kernel) ⟨Nat.le_of_ble_eq_true rfl, Nat.le_of_ble_eq_true rfl⟩) rfl rfl (Nat.le_of_ble_eq_true rfl) (Nat.zero_le _) (Nat.zero_le _) dX6_blockOf_32 (fun v10 cell10 q10 => ?_)
        obtain ⟨rfl, rfl⟩ := q10
        have hio : ioF ((gaF (aH d0) Sf Mf d0.2.1).1, (gaF (aH d0) Sf Mf d0.2.1).2.1, (gaF (aH d0) Sf Mf d0.2.1).2.2) x (gaF (aH d0) Sf Mf d0.2.1).1 0 = aIo σ x := by
          show ioF (gaF (aH d0) Sf Mf d0.2.1) x (gaF (aH d0) Sf Mf d0.2.1).1 0 = ioF (aBl σ) x (aBl σ).1 0
          rw [← hBE.1]; exact io_cong hBE (by omega)
        refine g_eqst (st1 := ([.int (aIo σ x)] : List Value)) (by rw [hio]) ?_
        refine g_istore_n C [(3, .int (aIo σ x)), (0, .ref (adr 0)), (1, .int x), (2, .int y)] (by decide) rfl dX6_blockOf_35 ?_
        refine g_iload_n C 0 rfl dX6_blockOf_36 ?_
        refine g_iconst C (-1) (by decide) dX6_blockOf_37 ?_
        refine g_icmp_ne C 44 (by decide) dX6_blockOf_38 (fun c38 => ?_) (fun c38 => ?_)
        · -- taken at 38
          have c38' := i_ne c38
          refine g_iload_n C 3 rfl dX6_blockOf_44 ?_
          refine g_if_ne C 59 (by decide) dX6_blockOf_45 (fun c45 => ?_) (fun c45 => ?_)
          · -- taken at 45
            have c45' := i_ne c45
            refine g_aload_n C 1 rfl dX6_blockOf_59 ?_
            refine g_get C 0 6 4 (by omega) h_4 rfl in6 (by decide) f36 (fun _ h9 => h9) rfl dX6_blockOf_60 ?_
            refine g_iload_n C 0 rfl dX6_blockOf_63 ?_
            refine g_Vi C [.int (aIo σ x)] 120 1 (by omega) hBL_2.1 rfl (c_X1_shiftOf l D kc N adr cell1 120 (gaF (aH d0) Sf Mf d0.2.1).1 (gaF (aH d0) Sf Mf d0.2.1).2.1 (gaF (aH d0) Sf Mf d0.2.1).2.2 (aIo σ x) hBL_2 (by omega)) (cwV 1 C.2.2.2.2.1 gX6_blockOf_X1_shiftOf rfl rfl rfl (by decide +kernel) ⟨Nat.le_of_ble_eq_true rfl, Nat.le_of_ble_eq_true rfl⟩) rfl rfl (Nat.le_of_ble_eq_true rfl) (Nat.zero_le _) (Nat.zero_le _) dX6_blockOf_64 (fun v11 cell11 q11 => ?_)
            obtain ⟨rfl, rfl⟩ := q11
            refine g_bipush C 100 (by decide) dX6_blockOf_67 ?_
            refine g_iadd C dX6_blockOf_69 ?_
            refine g_iret C hr rfl hlk dX6_blockOf_70 ?_
            have hwh : whF (gaF (aH d0) Sf Mf d0.2.1).2.1 (gaF (aH d0) Sf Mf d0.2.1).1 (aIo σ x) = whF (aBl σ).2.1 (aBl σ).1 (aIo σ x) := by rw [← hBE.1]; exact wh_cong hBE.2.1 _
            exact ⟨by unfold blockOfR; rw [if_neg (by omega), if_neg c38, if_neg c45, hwh], ⟨h_4, ⟨_, h_5, hEq⟩, ⟨_, h_6⟩, ⟨_, _, h_7, hHE⟩, ⟨_, _, _, _, h_8⟩, ⟨_, _, _, hBL_2⟩, ⟨_, _, _, h_9⟩, hch⟩⟩
          · -- not taken at 45
            have c45' := i_eq c45
            refine g_aload_n C 1 rfl dX6_blockOf_48 ?_
            refine g_get C 0 6 4 (by omega) h_4 rfl in6 (by decide) f36 (fun _ h9 => h9) rfl dX6_blockOf_49 ?_
            refine g_iload_n C 0 rfl dX6_blockOf_52 ?_
            refine g_Vi C [.int (aIo σ x)] 120 1 (by omega) hBL_2.1 rfl (c_X1_membersOf l D kc N adr cell1 120 (gaF (aH d0) Sf Mf d0.2.1).1 (gaF (aH d0) Sf Mf d0.2.1).2.1 (gaF (aH d0) Sf Mf d0.2.1).2.2 (aIo σ x) hBL_2 (by omega)) (cwV 1 C.2.2.2.2.1 gX6_blockOf_X1_membersOf rfl rfl rfl (by decide +kernel) ⟨Nat.le_of_ble_eq_true rfl, Nat.le_of_ble_eq_true rfl⟩) rfl rfl (Nat.le_of_ble_eq_true rfl) (Nat.zero_le _) (Nat.zero_le _) dX6_blockOf_53 (fun v12 cell12 q12 => ?_)
            obtain ⟨rfl, rfl⟩ := q12
            refine g_goto C 70 (by decide) dX6_blockOf_56 ?_
            refine g_iret C hr rfl hlk dX6_blockOf_70 ?_
            have hwh : whF (gaF (aH d0) Sf Mf d0.2.1).2.2 (gaF (aH d0) Sf Mf d0.2.1).1 (aIo σ x) = whF (aBl σ).2.2 (aBl σ).1 (aIo σ x) := by rw [← hBE.1]; exact wh_cong hBE.2.2 _
            exact ⟨by unfold blockOfR; rw [if_neg (by omega), if_neg c38, if_pos c45, hwh], ⟨h_4, ⟨_, h_5, hEq⟩, ⟨_, h_6⟩, ⟨_, _, h_7, hHE⟩, ⟨_, _, _, _, h_8⟩, ⟨_, _, _, hBL_2⟩, ⟨_, _, _, h_9⟩, hch⟩⟩
        · -- not taken at 38
          have c38' := i_eq c38
          refine g_ldc C (-1000004) k182 dX6_blockOf_41 ?_
          refine g_iret C hr rfl hlk dX6_blockOf_43 ?_
          exact ⟨by unfold blockOfR; rw [if_neg (by omega)]; exact if_pos c38, ⟨h_4, ⟨_, h_5, hEq⟩, ⟨_, h_6⟩, ⟨_, _, h_7, hHE⟩, ⟨_, _, _, _, h_8⟩, ⟨_, _, _, hBL_2⟩, ⟨_, _, _, h_9⟩, hch⟩⟩
      · -- not taken at 10
        have c10' := i_nle c10
        refine g_ldc C (-1000001) k60 dX6_blockOf_13 ?_
        refine g_iret C hr rfl hlk dX6_blockOf_15 ?_
        exact ⟨by unfold blockOfR; exact if_pos (by omega), hX0⟩
