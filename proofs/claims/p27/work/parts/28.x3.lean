set_option maxRecDepth 100000 in
set_option maxHeartbeats 4000000 in
theorem c_X6_scoreOrNotFound (l : Launch) (D : va_G) (kc : Nat → ClassId) (N : Nat) (adr : Nat → Nat) (cell : Nat → va_E) (d0 : SD) (a : Nat) (p v : Int32) (f : Nat → Int32) (x : Int32) (x0 : cell 0 = .inr (6, [.ref (adr 1), .ref (adr 20), .ref (adr 39), .ref (adr 117), .ref (adr 120), .ref (adr 123)])) (hS : StAt cell adr kc 1 d0) (hA : AncAt cell adr kc a p v f) (hNa : a + 2 ≤ N) (hN : 125 ≤ N) : MI l yX6_scoreOrNotFound wsX6_scoreOrNotFound ({ frames := 2, cells := 0, slots := 0, locals := 46 }) D kc N adr cell [.ref (adr 0), .ref (adr a), .int x] (fun (w : Int32) (cell1 : Nat → va_E) => (if x = -1 then -1000004 else scr d0.1 d0.2.2.2.1 d0.2.2.2.2.2.2.1 f x) = w ∧ cell = cell1) := by
  refine met_i (cc := cX6_scoreOrNotFound) (maxL := 3) (ret := (some .int)) (by decide) rfl (Nat.le_of_ble_eq_true rfl) (lv := [(0, .ref (adr 0)), (1, .ref (adr a)), (2, .int x)]) rfl ?_
  intro Pg Ev Sv Mi args below Me Cd Ar C hr hlk hnm
  have in6 : ∀ w ∈ u_ws RX6 TX6 6, w ∈ wsX6_scoreOrNotFound := by decide +kernel
  have f10 := C.2.2.2.2.1 (.fieldLink RX6 10 "WordAnchors" "now" "LWordAnchors$State;") (by decide +kernel)
  have k182 := C.2.2.2.2.1 (.constant RX6 182 (-1000004)) (by decide +kernel)
  have litm1000004 : ((-1000004) : Int32).toInt = -1000004 := rfl
  have litm1 : ((-1) : Int32).toInt = -1 := rfl
  have lit0 : (0 : Int32).toInt = 0 := rfl
  have lit1 : (1 : Int32).toInt = 1 := rfl
  refine g_iload_n C 2 rfl dX6_scoreOrNotFound_0 ?_
  refine g_iconst C (-1) (by decide) dX6_scoreOrNotFound_1 ?_
  refine g_icmp_ne C 10 (by decide) dX6_scoreOrNotFound_2 (fun c2 => ?_) (fun c2 => ?_)
  · -- taken at 2
    have c2' := i_ne c2
    refine g_aload_n C 0 rfl dX6_scoreOrNotFound_10 ?_
    refine g_get C 0 6 0 (by omega) x0 rfl in6 (by decide) f10 (fun _ h9 => h9) rfl dX6_scoreOrNotFound_11 ?_
    refine g_aload_n C 1 rfl dX6_scoreOrNotFound_14 ?_
    refine g_iload_n C 2 rfl dX6_scoreOrNotFound_15 ?_
    refine g_Vi C [.ref (adr a), .int x] 1 5 (by omega) hS.1 rfl (c_X5_scoreOf l D kc N adr cell 1 d0.1 d0.2.1 d0.2.2.1 d0.2.2.2.1 d0.2.2.2.2.1 d0.2.2.2.2.2.1 d0.2.2.2.2.2.2.1 d0.2.2.2.2.2.2.2.1 d0.2.2.2.2.2.2.2.2.1 d0.2.2.2.2.2.2.2.2.2 a p v f x hS (by omega) hA (by omega)) (cwV 2 C.2.2.2.2.1 gX6_scoreOrNotFound_X5_scoreOf rfl rfl rfl (by decide +kernel) ⟨Nat.le_of_ble_eq_true rfl, Nat.le_of_ble_eq_true rfl⟩) rfl rfl (Nat.le_of_ble_eq_true rfl) (Nat.zero_le _) (Nat.zero_le _) dX6_scoreOrNotFound_16 (fun v1 cell1 q1 => ?_)
    obtain ⟨rfl, rfl⟩ := q1
    refine g_iret C hr rfl hlk dX6_scoreOrNotFound_19 ?_
    exact ⟨if_neg c2, rfl⟩
  · -- not taken at 2
    have c2' := i_eq c2
    refine g_ldc C (-1000004) k182 dX6_scoreOrNotFound_5 ?_
    refine g_goto C 19 (by decide) dX6_scoreOrNotFound_7 ?_
    refine g_iret C hr rfl hlk dX6_scoreOrNotFound_19 ?_
    exact ⟨if_pos c2, rfl⟩
set_option maxRecDepth 100000 in
set_option maxHeartbeats 4000000 in
theorem c_X6_anchorOf (l : Launch) (D : va_G) (kc : Nat → ClassId) (N : Nat) (adr : Nat → Nat) (cell : Nat → va_E) (σ : SD) (hn : Nat) (hi : Nat → SD) (L : Nat) (ch : Nat → Int32) (x y : Int32) (hX : XAt cell adr kc σ hn hi L ch) (hG : Good σ) (hN : 125 ≤ N) : MI l yX6_anchorOf wsX6_anchorOf ({ frames := 5, cells := 0, slots := 0, locals := 121 }) D kc N adr cell [.ref (adr 0), .int x, .int y] (fun (w0 : Int32) (cell1 : Nat → va_E) => anchorOfR σ x y = w0 ∧ cell = cell1) := by
  refine met_i (cc := cX6_anchorOf) (maxL := 4) (ret := (some .int)) (by decide) rfl (Nat.le_of_ble_eq_true rfl) (lv := [(0, .ref (adr 0)), (1, .int x), (2, .int y)]) rfl ?_
  intro Pg Ev Sv Mi args below Me Cd Ar C hr hlk hnm
  have in6 : ∀ w ∈ u_ws RX6 TX6 6, w ∈ wsX6_anchorOf := by decide +kernel
  have f10 := C.2.2.2.2.1 (.fieldLink RX6 10 "WordAnchors" "now" "LWordAnchors$State;") (by decide +kernel)
  have k60 := C.2.2.2.2.1 (.constant RX6 60 (-1000001)) (by decide +kernel)
  have hX0 := hX
  obtain ⟨x0, ⟨d0, hS, hEq⟩, ⟨dT, hST⟩, ⟨od, dh, hHI, hHE⟩, ⟨sx, nx, sg, nu, hTX⟩, ⟨bz, Sf, Mf, hBL⟩, ⟨ap, av, af, hAN⟩, hch⟩ := hX
  have en := hEq.1
  have em := hEq.2.1
  have hgn := hG.1
  have hgm := hG.2.1
  have hn40 : d0.1 ≤ 40 := hS.2.1.2.2.2.2
  have hm6 : d0.2.1 ≤ 6 := hS.2.2.2.2.2
  have hL60 : L ≤ 60 := hTX.2.2.2
  have hod : od < 4 := hHI.2.2.2.1
  have hh4 : hn ≤ 4 := hHI.2.2.2.2
  have litm1000001 : ((-1000001) : Int32).toInt = -1000001 := rfl
  have litm1 : ((-1) : Int32).toInt = -1 := rfl
  have lit0 : (0 : Int32).toInt = 0 := rfl
  have lit1 : (1 : Int32).toInt = 1 := rfl
  have lit2 : (2 : Int32).toInt = 2 := rfl
  have lit3 : (3 : Int32).toInt = 3 := rfl
  have lit12 : (12 : Int32).toInt = 12 := rfl
  have tn_d0_1 : (nI d0.1).toInt = ((d0.1 : Nat) : Int) := nI_toInt (by omega)
  have tn_d0_2_1 : (nI d0.2.1).toInt = ((d0.2.1 : Nat) : Int) := nI_toInt (by omega)
  have tn_L : (nI L).toInt = ((L : Nat) : Int) := nI_toInt (by omega)
  have tn_hn : (nI hn).toInt = ((hn : Nat) : Int) := nI_toInt (by omega)
  refine g_aload_n C 0 rfl dX6_anchorOf_0 ?_
  refine g_get C 0 6 0 (by omega) x0 rfl in6 (by decide) f10 (fun _ h9 => h9) rfl dX6_anchorOf_1 ?_
  refine g_iload_n C 1 rfl dX6_anchorOf_4 ?_
  refine g_Vq C [.int x] 1 5 (by omega) hS.1 rfl (c_X5_anchorNumbered l D kc N adr cell 1 d0.1 d0.2.1 d0.2.2.1 d0.2.2.2.1 d0.2.2.2.2.1 d0.2.2.2.2.2.1 d0.2.2.2.2.2.2.1 d0.2.2.2.2.2.2.2.1 d0.2.2.2.2.2.2.2.2.1 d0.2.2.2.2.2.2.2.2.2 x hS (by omega)) (cwV 1 C.2.2.2.2.1 gX6_anchorOf_X5_anchorNumbered rfl rfl rfl (by decide +kernel) ⟨Nat.le_of_ble_eq_true rfl, Nat.le_of_ble_eq_true rfl⟩) rfl rfl (Nat.le_of_ble_eq_true rfl) (Nat.zero_le _) (Nat.zero_le _) dX6_anchorOf_5 (fun v1 cell1 q1 => ?_)
  obtain ⟨rfl, rfl⟩ := q1
  by_cases hx : 0 ≤ x.toInt ∧ x.toInt < d0.2.1
  · have hcl := cl_toInt (x := x) hx.1
    have hAx : AncAt cell adr kc (1 + 7 + 2 * x.toNatClampNeg) (d0.2.2.2.2.2.2.2.1 x.toNatClampNeg) (d0.2.2.2.2.2.2.2.2.1 x.toNatClampNeg) (d0.2.2.2.2.2.2.2.2.2 x.toNatClampNeg) := hS.2.2.2.2.1 x.toNatClampNeg (by omega)
    refine g_eqst (st1 := ([.ref (adr (1 + 7 + 2 * x.toNatClampNeg))] : List Value)) (by rw [if_pos hx]; rfl) ?_
    refine g_astore_n C [(3, .ref (adr (1 + 7 + 2 * x.toNatClampNeg))), (0, .ref (adr 0)), (1, .int x), (2, .int y)] (by decide) rfl dX6_anchorOf_8 ?_
    refine g_aload_n C 0 rfl dX6_anchorOf_9 ?_
    refine g_ifnull C dX6_anchorOf_10 ?_
    refine g_iload_n C 3 rfl dX6_anchorOf_13 ?_
    refine g_if_lt C 23 (by decide) dX6_anchorOf_14 (fun c14 => ?_) (fun c14 => ?_)
    · -- taken at 14
      have c14' := i_lt c14
      refine g_ldc C (-1000001) k60 dX6_anchorOf_23 ?_
      refine g_iret C hr rfl hlk dX6_anchorOf_25 ?_
      exact ⟨by unfold anchorOfR; exact if_pos (fun h => by have := h.2; omega), rfl⟩
    · -- not taken at 14
      have c14' := i_nlt c14
      refine g_iload_n C 3 rfl dX6_anchorOf_17 ?_
      refine g_bipush C 12 (by decide) dX6_anchorOf_18 ?_
      refine g_icmp_le C 26 (by decide) dX6_anchorOf_20 (fun c20 => ?_) (fun c20 => ?_)
      · -- taken at 20
        have c20' := i_le c20
        refine g_iload_n C 3 rfl dX6_anchorOf_26 ?_
        by_cases c27_0 : y = 0
        · have c27' := i_eq c27_0
          refine g_tableIn C 92 (by rw [c27_0]; decide) (by rw [c27_0]; decide) (by rw [c27_0] <;> rfl) (by decide) dX6_anchorOf_27 ?_
          refine g_aload_n C 0 rfl dX6_anchorOf_92 ?_
          refine g_Vi C [] (1 + 7 + 2 * x.toNatClampNeg) 0 (by omega) hAx.1 rfl (c_X0_place l D kc N adr cell (1 + 7 + 2 * x.toNatClampNeg) (d0.2.2.2.2.2.2.2.1 x.toNatClampNeg) (d0.2.2.2.2.2.2.2.2.1 x.toNatClampNeg) (d0.2.2.2.2.2.2.2.2.2 x.toNatClampNeg)  hAx (by omega)) (cwV 0 C.2.2.2.2.1 gX6_anchorOf_X0_place rfl rfl rfl (by decide +kernel) ⟨Nat.le_of_ble_eq_true rfl, Nat.le_of_ble_eq_true rfl⟩) rfl rfl (Nat.le_of_ble_eq_true rfl) (Nat.zero_le _) (Nat.zero_le _) dX6_anchorOf_93 (fun v2 cell2 q2 => ?_)
          obtain ⟨rfl, rfl⟩ := q2
          refine g_iret C hr rfl hlk dX6_anchorOf_96 ?_
          have hAm : x.toNatClampNeg < σ.2.1 := by omega
          have hA6 := hEq.2.2.2.2.2 _ hAm
          have eb : bpF d0.1 d0.2.2.2.1 d0.2.2.2.2.2.2.1 (d0.2.2.2.2.2.2.2.2.2 x.toNatClampNeg) (d0.2.2.2.2.2.2.2.1 x.toNatClampNeg) (-1) = aB σ x.toNatClampNeg (-1) := eB hEq hAm (-1)
          have eb2 : bpF d0.1 d0.2.2.2.1 d0.2.2.2.2.2.2.1 (d0.2.2.2.2.2.2.2.2.2 x.toNatClampNeg) (d0.2.2.2.2.2.2.2.1 x.toNatClampNeg) (aB σ x.toNatClampNeg (-1)) = aB σ x.toNatClampNeg (aB σ x.toNatClampNeg (-1)) := eB hEq hAm _
          have es : ∀ y : Int32, scr d0.1 d0.2.2.2.1 d0.2.2.2.2.2.2.1 (d0.2.2.2.2.2.2.2.2.2 x.toNatClampNeg) y = aS σ x.toNatClampNeg y := eS hEq hAm
          exact ⟨by unfold anchorOfR; rw [if_neg (fun h => h ⟨by unfold InA; omega, by omega⟩), if_pos c27_0]; exact hA6.1.symm, rfl⟩
        have c27n0 := i_ne c27_0
        by_cases c27_1 : y = 1
        · have c27' := i_eq c27_1
          refine g_tableIn C 97 (by rw [c27_1]; decide) (by rw [c27_1]; decide) (by rw [c27_1] <;> rfl) (by decide) dX6_anchorOf_27 ?_
          refine g_aload_n C 0 rfl dX6_anchorOf_97 ?_
          refine g_Vi C [] (1 + 7 + 2 * x.toNatClampNeg) 0 (by omega) hAx.1 rfl (c_X0_truePlace l D kc N adr cell (1 + 7 + 2 * x.toNatClampNeg) (d0.2.2.2.2.2.2.2.1 x.toNatClampNeg) (d0.2.2.2.2.2.2.2.2.1 x.toNatClampNeg) (d0.2.2.2.2.2.2.2.2.2 x.toNatClampNeg)  hAx (by omega)) (cwV 0 C.2.2.2.2.1 gX6_anchorOf_X0_truePlace rfl rfl rfl (by decide +kernel) ⟨Nat.le_of_ble_eq_true rfl, Nat.le_of_ble_eq_true rfl⟩) rfl rfl (Nat.le_of_ble_eq_true rfl) (Nat.zero_le _) (Nat.zero_le _) dX6_anchorOf_98 (fun v3 cell3 q3 => ?_)
          obtain ⟨rfl, rfl⟩ := q3
          refine g_Si C [.int (d0.2.2.2.2.2.2.2.2.1 x.toNatClampNeg)] (c_X6_orNotFound l D kc N adr cell (d0.2.2.2.2.2.2.2.2.1 x.toNatClampNeg)) (va_cwS 1 C.2.2.2.2.1 gX6_anchorOf_X6_orNotFound rfl rfl rfl (by decide +kernel) ⟨Nat.le_of_ble_eq_true rfl, Nat.le_of_ble_eq_true rfl⟩) rfl rfl (Nat.le_of_ble_eq_true rfl) (Nat.zero_le _) (Nat.zero_le _) dX6_anchorOf_101 (fun v4 cell4 q4 => ?_)
          obtain ⟨rfl, rfl⟩ := q4
          refine g_iret C hr rfl hlk dX6_anchorOf_104 ?_
          have hAm : x.toNatClampNeg < σ.2.1 := by omega
          have hA6 := hEq.2.2.2.2.2 _ hAm
          have eb : bpF d0.1 d0.2.2.2.1 d0.2.2.2.2.2.2.1 (d0.2.2.2.2.2.2.2.2.2 x.toNatClampNeg) (d0.2.2.2.2.2.2.2.1 x.toNatClampNeg) (-1) = aB σ x.toNatClampNeg (-1) := eB hEq hAm (-1)
          have eb2 : bpF d0.1 d0.2.2.2.1 d0.2.2.2.2.2.2.1 (d0.2.2.2.2.2.2.2.2.2 x.toNatClampNeg) (d0.2.2.2.2.2.2.2.1 x.toNatClampNeg) (aB σ x.toNatClampNeg (-1)) = aB σ x.toNatClampNeg (aB σ x.toNatClampNeg (-1)) := eB hEq hAm _
          have es : ∀ y : Int32, scr d0.1 d0.2.2.2.1 d0.2.2.2.2.2.2.1 (d0.2.2.2.2.2.2.2.2.2 x.toNatClampNeg) y = aS σ x.toNatClampNeg y := eS hEq hAm
          exact ⟨by unfold anchorOfR; rw [if_neg (fun h => h ⟨by unfold InA; omega, by omega⟩), if_neg c27_0, if_pos c27_1]; rw [hA6.2.1]; rfl, rfl⟩
        have c27n1 := i_ne c27_1
        by_cases c27_2 : y = 2
        · have c27' := i_eq c27_2
          refine g_tableIn C 184 (by rw [c27_2]; decide) (by rw [c27_2]; decide) (by rw [c27_2] <;> rfl) (by decide) dX6_anchorOf_27 ?_
          refine g_aload_n C 0 rfl dX6_anchorOf_184 ?_
          refine g_iload_n C 3 rfl dX6_anchorOf_185 ?_
          refine g_iconst C 2 (by decide) dX6_anchorOf_186 ?_
          refine g_isub C dX6_anchorOf_187 ?_
          refine g_Vi C [.int (y - 2)] (1 + 7 + 2 * x.toNatClampNeg) 0 (by omega) hAx.1 rfl (c_X0_thing l D kc N adr cell (1 + 7 + 2 * x.toNatClampNeg) (d0.2.2.2.2.2.2.2.1 x.toNatClampNeg) (d0.2.2.2.2.2.2.2.2.1 x.toNatClampNeg) (d0.2.2.2.2.2.2.2.2.2 x.toNatClampNeg) (y - 2) hAx (by omega)) (cwV 1 C.2.2.2.2.1 gX6_anchorOf_X0_thing rfl rfl rfl (by decide +kernel) ⟨Nat.le_of_ble_eq_true rfl, Nat.le_of_ble_eq_true rfl⟩) rfl rfl (Nat.le_of_ble_eq_true rfl) (Nat.zero_le _) (Nat.zero_le _) dX6_anchorOf_188 (fun v5 cell5 q5 => ?_)
          obtain ⟨rfl, rfl⟩ := q5
          refine g_Si C [.int (atF 5 (d0.2.2.2.2.2.2.2.2.2 x.toNatClampNeg) (y - 2))] (c_X6_orNotFound l D kc N adr cell (atF 5 (d0.2.2.2.2.2.2.2.2.2 x.toNatClampNeg) (y - 2))) (va_cwS 1 C.2.2.2.2.1 gX6_anchorOf_X6_orNotFound rfl rfl rfl (by decide +kernel) ⟨Nat.le_of_ble_eq_true rfl, Nat.le_of_ble_eq_true rfl⟩) rfl rfl (Nat.le_of_ble_eq_true rfl) (Nat.zero_le _) (Nat.zero_le _) dX6_anchorOf_191 (fun v6 cell6 q6 => ?_)
          obtain ⟨rfl, rfl⟩ := q6
          refine g_iret C hr rfl hlk dX6_anchorOf_194 ?_
          have hAm : x.toNatClampNeg < σ.2.1 := by omega
          have hA6 := hEq.2.2.2.2.2 _ hAm
          have eb : bpF d0.1 d0.2.2.2.1 d0.2.2.2.2.2.2.1 (d0.2.2.2.2.2.2.2.2.2 x.toNatClampNeg) (d0.2.2.2.2.2.2.2.1 x.toNatClampNeg) (-1) = aB σ x.toNatClampNeg (-1) := eB hEq hAm (-1)
          have eb2 : bpF d0.1 d0.2.2.2.1 d0.2.2.2.2.2.2.1 (d0.2.2.2.2.2.2.2.2.2 x.toNatClampNeg) (d0.2.2.2.2.2.2.2.1 x.toNatClampNeg) (aB σ x.toNatClampNeg (-1)) = aB σ x.toNatClampNeg (aB σ x.toNatClampNeg (-1)) := eB hEq hAm _
          have es : ∀ y : Int32, scr d0.1 d0.2.2.2.1 d0.2.2.2.2.2.2.1 (d0.2.2.2.2.2.2.2.2.2 x.toNatClampNeg) y = aS σ x.toNatClampNeg y := eS hEq hAm
          have eth : atF 5 (d0.2.2.2.2.2.2.2.2.2 x.toNatClampNeg) (y - 2) = atF 5 (σ.2.2.2.2.2.2.2.2.2 x.toNatClampNeg) (y - 2) := atF_cong hA6.2.2 _
          exact ⟨by unfold anchorOfR; rw [if_neg (fun h => h ⟨by unfold InA; omega, by omega⟩), if_neg c27_0, if_neg c27_1, if_neg (by rw [c27_2]; decide), if_neg (by rw [c27_2]; decide), if_neg (by rw [c27_2]; decide), if_neg (by rw [c27_2]; decide), if_neg (by rw [c27_2]; decide), if_neg (by rw [c27_2]; decide), eth]; rfl, rfl⟩
        have c27n2 := i_ne c27_2
        by_cases c27_3 : y = 3
        · have c27' := i_eq c27_3
          refine g_tableIn C 184 (by rw [c27_3]; decide) (by rw [c27_3]; decide) (by rw [c27_3] <;> rfl) (by decide) dX6_anchorOf_27 ?_
          refine g_aload_n C 0 rfl dX6_anchorOf_184 ?_
          refine g_iload_n C 3 rfl dX6_anchorOf_185 ?_
          refine g_iconst C 2 (by decide) dX6_anchorOf_186 ?_
          refine g_isub C dX6_anchorOf_187 ?_
          refine g_Vi C [.int (y - 2)] (1 + 7 + 2 * x.toNatClampNeg) 0 (by omega) hAx.1 rfl (c_X0_thing l D kc N adr cell (1 + 7 + 2 * x.toNatClampNeg) (d0.2.2.2.2.2.2.2.1 x.toNatClampNeg) (d0.2.2.2.2.2.2.2.2.1 x.toNatClampNeg) (d0.2.2.2.2.2.2.2.2.2 x.toNatClampNeg) (y - 2) hAx (by omega)) (cwV 1 C.2.2.2.2.1 gX6_anchorOf_X0_thing rfl rfl rfl (by decide +kernel) ⟨Nat.le_of_ble_eq_true rfl, Nat.le_of_ble_eq_true rfl⟩) rfl rfl (Nat.le_of_ble_eq_true rfl) (Nat.zero_le _) (Nat.zero_le _) dX6_anchorOf_188 (fun v7 cell7 q7 => ?_)
          obtain ⟨rfl, rfl⟩ := q7
          refine g_Si C [.int (atF 5 (d0.2.2.2.2.2.2.2.2.2 x.toNatClampNeg) (y - 2))] (c_X6_orNotFound l D kc N adr cell (atF 5 (d0.2.2.2.2.2.2.2.2.2 x.toNatClampNeg) (y - 2))) (va_cwS 1 C.2.2.2.2.1 gX6_anchorOf_X6_orNotFound rfl rfl rfl (by decide +kernel) ⟨Nat.le_of_ble_eq_true rfl, Nat.le_of_ble_eq_true rfl⟩) rfl rfl (Nat.le_of_ble_eq_true rfl) (Nat.zero_le _) (Nat.zero_le _) dX6_anchorOf_191 (fun v8 cell8 q8 => ?_)
          obtain ⟨rfl, rfl⟩ := q8
          refine g_iret C hr rfl hlk dX6_anchorOf_194 ?_
          have hAm : x.toNatClampNeg < σ.2.1 := by omega
          have hA6 := hEq.2.2.2.2.2 _ hAm
          have eb : bpF d0.1 d0.2.2.2.1 d0.2.2.2.2.2.2.1 (d0.2.2.2.2.2.2.2.2.2 x.toNatClampNeg) (d0.2.2.2.2.2.2.2.1 x.toNatClampNeg) (-1) = aB σ x.toNatClampNeg (-1) := eB hEq hAm (-1)
          have eb2 : bpF d0.1 d0.2.2.2.1 d0.2.2.2.2.2.2.1 (d0.2.2.2.2.2.2.2.2.2 x.toNatClampNeg) (d0.2.2.2.2.2.2.2.1 x.toNatClampNeg) (aB σ x.toNatClampNeg (-1)) = aB σ x.toNatClampNeg (aB σ x.toNatClampNeg (-1)) := eB hEq hAm _
          have es : ∀ y : Int32, scr d0.1 d0.2.2.2.1 d0.2.2.2.2.2.2.1 (d0.2.2.2.2.2.2.2.2.2 x.toNatClampNeg) y = aS σ x.toNatClampNeg y := eS hEq hAm
          have eth : atF 5 (d0.2.2.2.2.2.2.2.2.2 x.toNatClampNeg) (y - 2) = atF 5 (σ.2.2.2.2.2.2.2.2.2 x.toNatClampNeg) (y - 2) := atF_cong hA6.2.2 _
          exact ⟨by unfold anchorOfR; rw [if_neg (fun h => h ⟨by unfold InA; omega, by omega⟩), if_neg c27_0, if_neg c27_1, if_neg (by rw [c27_3]; decide), if_neg (by rw [c27_3]; decide), if_neg (by rw [c27_3]; decide), if_neg (by rw [c27_3]; decide), if_neg (by rw [c27_3]; decide), if_neg (by rw [c27_3]; decide), eth]; rfl, rfl⟩
        have c27n3 := i_ne c27_3
        by_cases c27_4 : y = 4
        · have c27' := i_eq c27_4
          refine g_tableIn C 184 (by rw [c27_4]; decide) (by rw [c27_4]; decide) (by rw [c27_4] <;> rfl) (by decide) dX6_anchorOf_27 ?_
          refine g_aload_n C 0 rfl dX6_anchorOf_184 ?_
          refine g_iload_n C 3 rfl dX6_anchorOf_185 ?_
          refine g_iconst C 2 (by decide) dX6_anchorOf_186 ?_
          refine g_isub C dX6_anchorOf_187 ?_
          refine g_Vi C [.int (y - 2)] (1 + 7 + 2 * x.toNatClampNeg) 0 (by omega) hAx.1 rfl (c_X0_thing l D kc N adr cell (1 + 7 + 2 * x.toNatClampNeg) (d0.2.2.2.2.2.2.2.1 x.toNatClampNeg) (d0.2.2.2.2.2.2.2.2.1 x.toNatClampNeg) (d0.2.2.2.2.2.2.2.2.2 x.toNatClampNeg) (y - 2) hAx (by omega)) (cwV 1 C.2.2.2.2.1 gX6_anchorOf_X0_thing rfl rfl rfl (by decide +kernel) ⟨Nat.le_of_ble_eq_true rfl, Nat.le_of_ble_eq_true rfl⟩) rfl rfl (Nat.le_of_ble_eq_true rfl) (Nat.zero_le _) (Nat.zero_le _) dX6_anchorOf_188 (fun v9 cell9 q9 => ?_)
          obtain ⟨rfl, rfl⟩ := q9
          refine g_Si C [.int (atF 5 (d0.2.2.2.2.2.2.2.2.2 x.toNatClampNeg) (y - 2))] (c_X6_orNotFound l D kc N adr cell (atF 5 (d0.2.2.2.2.2.2.2.2.2 x.toNatClampNeg) (y - 2))) (va_cwS 1 C.2.2.2.2.1 gX6_anchorOf_X6_orNotFound rfl rfl rfl (by decide +kernel) ⟨Nat.le_of_ble_eq_true rfl, Nat.le_of_ble_eq_true rfl⟩) rfl rfl (Nat.le_of_ble_eq_true rfl) (Nat.zero_le _) (Nat.zero_le _) dX6_anchorOf_191 (fun v10 cell10 q10 => ?_)
          obtain ⟨rfl, rfl⟩ := q10
          refine g_iret C hr rfl hlk dX6_anchorOf_194 ?_
          have hAm : x.toNatClampNeg < σ.2.1 := by omega
          have hA6 := hEq.2.2.2.2.2 _ hAm
          have eb : bpF d0.1 d0.2.2.2.1 d0.2.2.2.2.2.2.1 (d0.2.2.2.2.2.2.2.2.2 x.toNatClampNeg) (d0.2.2.2.2.2.2.2.1 x.toNatClampNeg) (-1) = aB σ x.toNatClampNeg (-1) := eB hEq hAm (-1)
          have eb2 : bpF d0.1 d0.2.2.2.1 d0.2.2.2.2.2.2.1 (d0.2.2.2.2.2.2.2.2.2 x.toNatClampNeg) (d0.2.2.2.2.2.2.2.1 x.toNatClampNeg) (aB σ x.toNatClampNeg (-1)) = aB σ x.toNatClampNeg (aB σ x.toNatClampNeg (-1)) := eB hEq hAm _
          have es : ∀ y : Int32, scr d0.1 d0.2.2.2.1 d0.2.2.2.2.2.2.1 (d0.2.2.2.2.2.2.2.2.2 x.toNatClampNeg) y = aS σ x.toNatClampNeg y := eS hEq hAm
          have eth : atF 5 (d0.2.2.2.2.2.2.2.2.2 x.toNatClampNeg) (y - 2) = atF 5 (σ.2.2.2.2.2.2.2.2.2 x.toNatClampNeg) (y - 2) := atF_cong hA6.2.2 _
          exact ⟨by unfold anchorOfR; rw [if_neg (fun h => h ⟨by unfold InA; omega, by omega⟩), if_neg c27_0, if_neg c27_1, if_neg (by rw [c27_4]; decide), if_neg (by rw [c27_4]; decide), if_neg (by rw [c27_4]; decide), if_neg (by rw [c27_4]; decide), if_neg (by rw [c27_4]; decide), if_neg (by rw [c27_4]; decide), eth]; rfl, rfl⟩
        have c27n4 := i_ne c27_4
        by_cases c27_5 : y = 5
        · have c27' := i_eq c27_5
          refine g_tableIn C 184 (by rw [c27_5]; decide) (by rw [c27_5]; decide) (by rw [c27_5] <;> rfl) (by decide) dX6_anchorOf_27 ?_
          refine g_aload_n C 0 rfl dX6_anchorOf_184 ?_
          refine g_iload_n C 3 rfl dX6_anchorOf_185 ?_
          refine g_iconst C 2 (by decide) dX6_anchorOf_186 ?_
          refine g_isub C dX6_anchorOf_187 ?_
          refine g_Vi C [.int (y - 2)] (1 + 7 + 2 * x.toNatClampNeg) 0 (by omega) hAx.1 rfl (c_X0_thing l D kc N adr cell (1 + 7 + 2 * x.toNatClampNeg) (d0.2.2.2.2.2.2.2.1 x.toNatClampNeg) (d0.2.2.2.2.2.2.2.2.1 x.toNatClampNeg) (d0.2.2.2.2.2.2.2.2.2 x.toNatClampNeg) (y - 2) hAx (by omega)) (cwV 1 C.2.2.2.2.1 gX6_anchorOf_X0_thing rfl rfl rfl (by decide +kernel) ⟨Nat.le_of_ble_eq_true rfl, Nat.le_of_ble_eq_true rfl⟩) rfl rfl (Nat.le_of_ble_eq_true rfl) (Nat.zero_le _) (Nat.zero_le _) dX6_anchorOf_188 (fun v11 cell11 q11 => ?_)
          obtain ⟨rfl, rfl⟩ := q11
          refine g_Si C [.int (atF 5 (d0.2.2.2.2.2.2.2.2.2 x.toNatClampNeg) (y - 2))] (c_X6_orNotFound l D kc N adr cell (atF 5 (d0.2.2.2.2.2.2.2.2.2 x.toNatClampNeg) (y - 2))) (va_cwS 1 C.2.2.2.2.1 gX6_anchorOf_X6_orNotFound rfl rfl rfl (by decide +kernel) ⟨Nat.le_of_ble_eq_true rfl, Nat.le_of_ble_eq_true rfl⟩) rfl rfl (Nat.le_of_ble_eq_true rfl) (Nat.zero_le _) (Nat.zero_le _) dX6_anchorOf_191 (fun v12 cell12 q12 => ?_)
          obtain ⟨rfl, rfl⟩ := q12
          refine g_iret C hr rfl hlk dX6_anchorOf_194 ?_
          have hAm : x.toNatClampNeg < σ.2.1 := by omega
          have hA6 := hEq.2.2.2.2.2 _ hAm
          have eb : bpF d0.1 d0.2.2.2.1 d0.2.2.2.2.2.2.1 (d0.2.2.2.2.2.2.2.2.2 x.toNatClampNeg) (d0.2.2.2.2.2.2.2.1 x.toNatClampNeg) (-1) = aB σ x.toNatClampNeg (-1) := eB hEq hAm (-1)
          have eb2 : bpF d0.1 d0.2.2.2.1 d0.2.2.2.2.2.2.1 (d0.2.2.2.2.2.2.2.2.2 x.toNatClampNeg) (d0.2.2.2.2.2.2.2.1 x.toNatClampNeg) (aB σ x.toNatClampNeg (-1)) = aB σ x.toNatClampNeg (aB σ x.toNatClampNeg (-1)) := eB hEq hAm _
          have es : ∀ y : Int32, scr d0.1 d0.2.2.2.1 d0.2.2.2.2.2.2.1 (d0.2.2.2.2.2.2.2.2.2 x.toNatClampNeg) y = aS σ x.toNatClampNeg y := eS hEq hAm
          have eth : atF 5 (d0.2.2.2.2.2.2.2.2.2 x.toNatClampNeg) (y - 2) = atF 5 (σ.2.2.2.2.2.2.2.2.2 x.toNatClampNeg) (y - 2) := atF_cong hA6.2.2 _
          exact ⟨by unfold anchorOfR; rw [if_neg (fun h => h ⟨by unfold InA; omega, by omega⟩), if_neg c27_0, if_neg c27_1, if_neg (by rw [c27_5]; decide), if_neg (by rw [c27_5]; decide), if_neg (by rw [c27_5]; decide), if_neg (by rw [c27_5]; decide), if_neg (by rw [c27_5]; decide), if_neg (by rw [c27_5]; decide), eth]; rfl, rfl⟩
        have c27n5 := i_ne c27_5
        by_cases c27_6 : y = 6
        · have c27' := i_eq c27_6
          refine g_tableIn C 184 (by rw [c27_6]; decide) (by rw [c27_6]; decide) (by rw [c27_6] <;> rfl) (by decide) dX6_anchorOf_27 ?_
          refine g_aload_n C 0 rfl dX6_anchorOf_184 ?_
          refine g_iload_n C 3 rfl dX6_anchorOf_185 ?_
          refine g_iconst C 2 (by decide) dX6_anchorOf_186 ?_
          refine g_isub C dX6_anchorOf_187 ?_
          refine g_Vi C [.int (y - 2)] (1 + 7 + 2 * x.toNatClampNeg) 0 (by omega) hAx.1 rfl (c_X0_thing l D kc N adr cell (1 + 7 + 2 * x.toNatClampNeg) (d0.2.2.2.2.2.2.2.1 x.toNatClampNeg) (d0.2.2.2.2.2.2.2.2.1 x.toNatClampNeg) (d0.2.2.2.2.2.2.2.2.2 x.toNatClampNeg) (y - 2) hAx (by omega)) (cwV 1 C.2.2.2.2.1 gX6_anchorOf_X0_thing rfl rfl rfl (by decide +kernel) ⟨Nat.le_of_ble_eq_true rfl, Nat.le_of_ble_eq_true rfl⟩) rfl rfl (Nat.le_of_ble_eq_true rfl) (Nat.zero_le _) (Nat.zero_le _) dX6_anchorOf_188 (fun v13 cell13 q13 => ?_)
          obtain ⟨rfl, rfl⟩ := q13
          refine g_Si C [.int (atF 5 (d0.2.2.2.2.2.2.2.2.2 x.toNatClampNeg) (y - 2))] (c_X6_orNotFound l D kc N adr cell (atF 5 (d0.2.2.2.2.2.2.2.2.2 x.toNatClampNeg) (y - 2))) (va_cwS 1 C.2.2.2.2.1 gX6_anchorOf_X6_orNotFound rfl rfl rfl (by decide +kernel) ⟨Nat.le_of_ble_eq_true rfl, Nat.le_of_ble_eq_true rfl⟩) rfl rfl (Nat.le_of_ble_eq_true rfl) (Nat.zero_le _) (Nat.zero_le _) dX6_anchorOf_191 (fun v14 cell14 q14 => ?_)
          obtain ⟨rfl, rfl⟩ := q14
          refine g_iret C hr rfl hlk dX6_anchorOf_194 ?_
          have hAm : x.toNatClampNeg < σ.2.1 := by omega
          have hA6 := hEq.2.2.2.2.2 _ hAm
          have eb : bpF d0.1 d0.2.2.2.1 d0.2.2.2.2.2.2.1 (d0.2.2.2.2.2.2.2.2.2 x.toNatClampNeg) (d0.2.2.2.2.2.2.2.1 x.toNatClampNeg) (-1) = aB σ x.toNatClampNeg (-1) := eB hEq hAm (-1)
          have eb2 : bpF d0.1 d0.2.2.2.1 d0.2.2.2.2.2.2.1 (d0.2.2.2.2.2.2.2.2.2 x.toNatClampNeg) (d0.2.2.2.2.2.2.2.1 x.toNatClampNeg) (aB σ x.toNatClampNeg (-1)) = aB σ x.toNatClampNeg (aB σ x.toNatClampNeg (-1)) := eB hEq hAm _
          have es : ∀ y : Int32, scr d0.1 d0.2.2.2.1 d0.2.2.2.2.2.2.1 (d0.2.2.2.2.2.2.2.2.2 x.toNatClampNeg) y = aS σ x.toNatClampNeg y := eS hEq hAm
          have eth : atF 5 (d0.2.2.2.2.2.2.2.2.2 x.toNatClampNeg) (y - 2) = atF 5 (σ.2.2.2.2.2.2.2.2.2 x.toNatClampNeg) (y - 2) := atF_cong hA6.2.2 _
          exact ⟨by unfold anchorOfR; rw [if_neg (fun h => h ⟨by unfold InA; omega, by omega⟩), if_neg c27_0, if_neg c27_1, if_neg (by rw [c27_6]; decide), if_neg (by rw [c27_6]; decide), if_neg (by rw [c27_6]; decide), if_neg (by rw [c27_6]; decide), if_neg (by rw [c27_6]; decide), if_neg (by rw [c27_6]; decide), eth]; rfl, rfl⟩
        have c27n6 := i_ne c27_6
        by_cases c27_7 : y = 7
        · have c27' := i_eq c27_7
          refine g_tableIn C 105 (by rw [c27_7]; decide) (by rw [c27_7]; decide) (by rw [c27_7] <;> rfl) (by decide) dX6_anchorOf_27 ?_
          refine g_aload_n C 1 rfl dX6_anchorOf_105 ?_
          refine g_get C 0 6 0 (by omega) x0 rfl in6 (by decide) f10 (fun _ h9 => h9) rfl dX6_anchorOf_106 ?_
          refine g_aload_n C 0 rfl dX6_anchorOf_109 ?_
          refine g_Vi C [.ref (adr (1 + 7 + 2 * x.toNatClampNeg))] 1 5 (by omega) hS.1 rfl (c_X5_standingOf l D kc N adr cell 1 d0.1 d0.2.1 d0.2.2.1 d0.2.2.2.1 d0.2.2.2.2.1 d0.2.2.2.2.2.1 d0.2.2.2.2.2.2.1 d0.2.2.2.2.2.2.2.1 d0.2.2.2.2.2.2.2.2.1 d0.2.2.2.2.2.2.2.2.2 (1 + 7 + 2 * x.toNatClampNeg) (d0.2.2.2.2.2.2.2.1 x.toNatClampNeg) (d0.2.2.2.2.2.2.2.2.1 x.toNatClampNeg) (d0.2.2.2.2.2.2.2.2.2 x.toNatClampNeg)  hS (by omega) hAx (by omega)) (cwV 1 C.2.2.2.2.1 gX6_anchorOf_X5_standingOf rfl rfl rfl (by decide +kernel) ⟨Nat.le_of_ble_eq_true rfl, Nat.le_of_ble_eq_true rfl⟩) rfl rfl (Nat.le_of_ble_eq_true rfl) (Nat.zero_le _) (Nat.zero_le _) dX6_anchorOf_110 (fun v15 cell15 q15 => ?_)
          obtain ⟨rfl, rfl⟩ := q15
          refine g_iret C hr rfl hlk dX6_anchorOf_113 ?_
          have hAm : x.toNatClampNeg < σ.2.1 := by omega
          have hA6 := hEq.2.2.2.2.2 _ hAm
          have eb : bpF d0.1 d0.2.2.2.1 d0.2.2.2.2.2.2.1 (d0.2.2.2.2.2.2.2.2.2 x.toNatClampNeg) (d0.2.2.2.2.2.2.2.1 x.toNatClampNeg) (-1) = aB σ x.toNatClampNeg (-1) := eB hEq hAm (-1)
          have eb2 : bpF d0.1 d0.2.2.2.1 d0.2.2.2.2.2.2.1 (d0.2.2.2.2.2.2.2.2.2 x.toNatClampNeg) (d0.2.2.2.2.2.2.2.1 x.toNatClampNeg) (aB σ x.toNatClampNeg (-1)) = aB σ x.toNatClampNeg (aB σ x.toNatClampNeg (-1)) := eB hEq hAm _
          have es : ∀ y : Int32, scr d0.1 d0.2.2.2.1 d0.2.2.2.2.2.2.1 (d0.2.2.2.2.2.2.2.2.2 x.toNatClampNeg) y = aS σ x.toNatClampNeg y := eS hEq hAm
          exact ⟨by unfold anchorOfR; rw [if_neg (fun h => h ⟨by unfold InA; omega, by omega⟩), if_neg c27_0, if_neg c27_1, if_pos c27_7]; exact (eT hEq hAm).symm, rfl⟩
        have c27n7 := i_ne c27_7
        by_cases c27_8 : y = 8
        · have c27' := i_eq c27_8
          refine g_tableIn C 114 (by rw [c27_8]; decide) (by rw [c27_8]; decide) (by rw [c27_8] <;> rfl) (by decide) dX6_anchorOf_27 ?_
          refine g_aload_n C 1 rfl dX6_anchorOf_114 ?_
          refine g_get C 0 6 0 (by omega) x0 rfl in6 (by decide) f10 (fun _ h9 => h9) rfl dX6_anchorOf_115 ?_
          refine g_aload_n C 0 rfl dX6_anchorOf_118 ?_
          refine g_Vi C [.ref (adr (1 + 7 + 2 * x.toNatClampNeg))] 1 5 (by omega) hS.1 rfl (c_X5_bestPlace l D kc N adr cell 1 d0.1 d0.2.1 d0.2.2.1 d0.2.2.2.1 d0.2.2.2.2.1 d0.2.2.2.2.2.1 d0.2.2.2.2.2.2.1 d0.2.2.2.2.2.2.2.1 d0.2.2.2.2.2.2.2.2.1 d0.2.2.2.2.2.2.2.2.2 (1 + 7 + 2 * x.toNatClampNeg) (d0.2.2.2.2.2.2.2.1 x.toNatClampNeg) (d0.2.2.2.2.2.2.2.2.1 x.toNatClampNeg) (d0.2.2.2.2.2.2.2.2.2 x.toNatClampNeg)  hS (by omega) hAx (by omega)) (cwV 1 C.2.2.2.2.1 gX6_anchorOf_X5_bestPlace rfl rfl rfl (by decide +kernel) ⟨Nat.le_of_ble_eq_true rfl, Nat.le_of_ble_eq_true rfl⟩) rfl rfl (Nat.le_of_ble_eq_true rfl) (Nat.zero_le _) (Nat.zero_le _) dX6_anchorOf_119 (fun v16 cell16 q16 => ?_)
          obtain ⟨rfl, rfl⟩ := q16
          refine g_Si C [.int (bpF d0.1 d0.2.2.2.1 d0.2.2.2.2.2.2.1 (d0.2.2.2.2.2.2.2.2.2 x.toNatClampNeg) (d0.2.2.2.2.2.2.2.1 x.toNatClampNeg) (-1))] (c_X6_orNotFound l D kc N adr cell (bpF d0.1 d0.2.2.2.1 d0.2.2.2.2.2.2.1 (d0.2.2.2.2.2.2.2.2.2 x.toNatClampNeg) (d0.2.2.2.2.2.2.2.1 x.toNatClampNeg) (-1))) (va_cwS 1 C.2.2.2.2.1 gX6_anchorOf_X6_orNotFound rfl rfl rfl (by decide +kernel) ⟨Nat.le_of_ble_eq_true rfl, Nat.le_of_ble_eq_true rfl⟩) rfl rfl (Nat.le_of_ble_eq_true rfl) (Nat.zero_le _) (Nat.zero_le _) dX6_anchorOf_122 (fun v17 cell17 q17 => ?_)
          obtain ⟨rfl, rfl⟩ := q17
          refine g_iret C hr rfl hlk dX6_anchorOf_125 ?_
          have hAm : x.toNatClampNeg < σ.2.1 := by omega
          have hA6 := hEq.2.2.2.2.2 _ hAm
          have eb : bpF d0.1 d0.2.2.2.1 d0.2.2.2.2.2.2.1 (d0.2.2.2.2.2.2.2.2.2 x.toNatClampNeg) (d0.2.2.2.2.2.2.2.1 x.toNatClampNeg) (-1) = aB σ x.toNatClampNeg (-1) := eB hEq hAm (-1)
          have eb2 : bpF d0.1 d0.2.2.2.1 d0.2.2.2.2.2.2.1 (d0.2.2.2.2.2.2.2.2.2 x.toNatClampNeg) (d0.2.2.2.2.2.2.2.1 x.toNatClampNeg) (aB σ x.toNatClampNeg (-1)) = aB σ x.toNatClampNeg (aB σ x.toNatClampNeg (-1)) := eB hEq hAm _
          have es : ∀ y : Int32, scr d0.1 d0.2.2.2.1 d0.2.2.2.2.2.2.1 (d0.2.2.2.2.2.2.2.2.2 x.toNatClampNeg) y = aS σ x.toNatClampNeg y := eS hEq hAm
          exact ⟨by unfold anchorOfR; rw [if_neg (fun h => h ⟨by unfold InA; omega, by omega⟩), if_neg c27_0, if_neg c27_1, if_neg c27_7, if_pos c27_8]; rw [eb]; rfl, rfl⟩
        have c27n8 := i_ne c27_8
        by_cases c27_9 : y = 9
        · have c27' := i_eq c27_9
          refine g_tableIn C 126 (by rw [c27_9]; decide) (by rw [c27_9]; decide) (by rw [c27_9] <;> rfl) (by decide) dX6_anchorOf_27 ?_
          refine g_aload_n C 1 rfl dX6_anchorOf_126 ?_
          refine g_aload_n C 0 rfl dX6_anchorOf_127 ?_
          refine g_aload_n C 1 rfl dX6_anchorOf_128 ?_
          refine g_get C 0 6 0 (by omega) x0 rfl in6 (by decide) f10 (fun _ h9 => h9) rfl dX6_anchorOf_129 ?_
          refine g_aload_n C 0 rfl dX6_anchorOf_132 ?_
          refine g_Vi C [.ref (adr (1 + 7 + 2 * x.toNatClampNeg))] 1 5 (by omega) hS.1 rfl (c_X5_bestPlace l D kc N adr cell 1 d0.1 d0.2.1 d0.2.2.1 d0.2.2.2.1 d0.2.2.2.2.1 d0.2.2.2.2.2.1 d0.2.2.2.2.2.2.1 d0.2.2.2.2.2.2.2.1 d0.2.2.2.2.2.2.2.2.1 d0.2.2.2.2.2.2.2.2.2 (1 + 7 + 2 * x.toNatClampNeg) (d0.2.2.2.2.2.2.2.1 x.toNatClampNeg) (d0.2.2.2.2.2.2.2.2.1 x.toNatClampNeg) (d0.2.2.2.2.2.2.2.2.2 x.toNatClampNeg)  hS (by omega) hAx (by omega)) (cwV 1 C.2.2.2.2.1 gX6_anchorOf_X5_bestPlace rfl rfl rfl (by decide +kernel) ⟨Nat.le_of_ble_eq_true rfl, Nat.le_of_ble_eq_true rfl⟩) rfl rfl (Nat.le_of_ble_eq_true rfl) (Nat.zero_le _) (Nat.zero_le _) dX6_anchorOf_133 (fun v18 cell18 q18 => ?_)
          obtain ⟨rfl, rfl⟩ := q18
          refine g_Vi C [.ref (adr (1 + 7 + 2 * x.toNatClampNeg)), .int (bpF d0.1 d0.2.2.2.1 d0.2.2.2.2.2.2.1 (d0.2.2.2.2.2.2.2.2.2 x.toNatClampNeg) (d0.2.2.2.2.2.2.2.1 x.toNatClampNeg) (-1))] 0 6 (by omega) x0 rfl (c_X6_scoreOrNotFound l D kc N adr cell d0 (1 + 7 + 2 * x.toNatClampNeg) (d0.2.2.2.2.2.2.2.1 x.toNatClampNeg) (d0.2.2.2.2.2.2.2.2.1 x.toNatClampNeg) (d0.2.2.2.2.2.2.2.2.2 x.toNatClampNeg) (bpF d0.1 d0.2.2.2.1 d0.2.2.2.2.2.2.1 (d0.2.2.2.2.2.2.2.2.2 x.toNatClampNeg) (d0.2.2.2.2.2.2.2.1 x.toNatClampNeg) (-1)) x0 hS hAx (by omega) (by omega)) (cwV 2 C.2.2.2.2.1 gX6_anchorOf_X6_scoreOrNotFound rfl rfl rfl (by decide +kernel) ⟨Nat.le_of_ble_eq_true rfl, Nat.le_of_ble_eq_true rfl⟩) rfl rfl (Nat.le_of_ble_eq_true rfl) (Nat.zero_le _) (Nat.zero_le _) dX6_anchorOf_136 (fun v19 cell19 q19 => ?_)
          obtain ⟨rfl, rfl⟩ := q19
          refine g_iret C hr rfl hlk dX6_anchorOf_139 ?_
          have hAm : x.toNatClampNeg < σ.2.1 := by omega
          have hA6 := hEq.2.2.2.2.2 _ hAm
          have eb : bpF d0.1 d0.2.2.2.1 d0.2.2.2.2.2.2.1 (d0.2.2.2.2.2.2.2.2.2 x.toNatClampNeg) (d0.2.2.2.2.2.2.2.1 x.toNatClampNeg) (-1) = aB σ x.toNatClampNeg (-1) := eB hEq hAm (-1)
          have eb2 : bpF d0.1 d0.2.2.2.1 d0.2.2.2.2.2.2.1 (d0.2.2.2.2.2.2.2.2.2 x.toNatClampNeg) (d0.2.2.2.2.2.2.2.1 x.toNatClampNeg) (aB σ x.toNatClampNeg (-1)) = aB σ x.toNatClampNeg (aB σ x.toNatClampNeg (-1)) := eB hEq hAm _
          have es : ∀ y : Int32, scr d0.1 d0.2.2.2.1 d0.2.2.2.2.2.2.1 (d0.2.2.2.2.2.2.2.2.2 x.toNatClampNeg) y = aS σ x.toNatClampNeg y := eS hEq hAm
          exact ⟨by unfold anchorOfR; rw [if_neg (fun h => h ⟨by unfold InA; omega, by omega⟩), if_neg c27_0, if_neg c27_1, if_neg c27_7, if_neg c27_8, if_pos c27_9]; rw [eb, es]; rfl, rfl⟩
        have c27n9 := i_ne c27_9
        by_cases c27_10 : y = 10
        · have c27' := i_eq c27_10
          refine g_tableIn C 140 (by rw [c27_10]; decide) (by rw [c27_10]; decide) (by rw [c27_10] <;> rfl) (by decide) dX6_anchorOf_27 ?_
          refine g_aload_n C 1 rfl dX6_anchorOf_140 ?_
          refine g_get C 0 6 0 (by omega) x0 rfl in6 (by decide) f10 (fun _ h9 => h9) rfl dX6_anchorOf_141 ?_
          refine g_aload_n C 0 rfl dX6_anchorOf_144 ?_
          refine g_Vi C [.ref (adr (1 + 7 + 2 * x.toNatClampNeg))] 1 5 (by omega) hS.1 rfl (c_X5_nextBestPlace l D kc N adr cell 1 d0.1 d0.2.1 d0.2.2.1 d0.2.2.2.1 d0.2.2.2.2.1 d0.2.2.2.2.2.1 d0.2.2.2.2.2.2.1 d0.2.2.2.2.2.2.2.1 d0.2.2.2.2.2.2.2.2.1 d0.2.2.2.2.2.2.2.2.2 (1 + 7 + 2 * x.toNatClampNeg) (d0.2.2.2.2.2.2.2.1 x.toNatClampNeg) (d0.2.2.2.2.2.2.2.2.1 x.toNatClampNeg) (d0.2.2.2.2.2.2.2.2.2 x.toNatClampNeg)  hS (by omega) hAx (by omega)) (cwV 1 C.2.2.2.2.1 gX6_anchorOf_X5_nextBestPlace rfl rfl rfl (by decide +kernel) ⟨Nat.le_of_ble_eq_true rfl, Nat.le_of_ble_eq_true rfl⟩) rfl rfl (Nat.le_of_ble_eq_true rfl) (Nat.zero_le _) (Nat.zero_le _) dX6_anchorOf_145 (fun v20 cell20 q20 => ?_)
          obtain ⟨rfl, rfl⟩ := q20
          refine g_Si C [.int (bpF d0.1 d0.2.2.2.1 d0.2.2.2.2.2.2.1 (d0.2.2.2.2.2.2.2.2.2 x.toNatClampNeg) (d0.2.2.2.2.2.2.2.1 x.toNatClampNeg) (bpF d0.1 d0.2.2.2.1 d0.2.2.2.2.2.2.1 (d0.2.2.2.2.2.2.2.2.2 x.toNatClampNeg) (d0.2.2.2.2.2.2.2.1 x.toNatClampNeg) (-1)))] (c_X6_orNotFound l D kc N adr cell (bpF d0.1 d0.2.2.2.1 d0.2.2.2.2.2.2.1 (d0.2.2.2.2.2.2.2.2.2 x.toNatClampNeg) (d0.2.2.2.2.2.2.2.1 x.toNatClampNeg) (bpF d0.1 d0.2.2.2.1 d0.2.2.2.2.2.2.1 (d0.2.2.2.2.2.2.2.2.2 x.toNatClampNeg) (d0.2.2.2.2.2.2.2.1 x.toNatClampNeg) (-1)))) (va_cwS 1 C.2.2.2.2.1 gX6_anchorOf_X6_orNotFound rfl rfl rfl (by decide +kernel) ⟨Nat.le_of_ble_eq_true rfl, Nat.le_of_ble_eq_true rfl⟩) rfl rfl (Nat.le_of_ble_eq_true rfl) (Nat.zero_le _) (Nat.zero_le _) dX6_anchorOf_148 (fun v21 cell21 q21 => ?_)
          obtain ⟨rfl, rfl⟩ := q21
          refine g_iret C hr rfl hlk dX6_anchorOf_151 ?_
          have hAm : x.toNatClampNeg < σ.2.1 := by omega
          have hA6 := hEq.2.2.2.2.2 _ hAm
          have eb : bpF d0.1 d0.2.2.2.1 d0.2.2.2.2.2.2.1 (d0.2.2.2.2.2.2.2.2.2 x.toNatClampNeg) (d0.2.2.2.2.2.2.2.1 x.toNatClampNeg) (-1) = aB σ x.toNatClampNeg (-1) := eB hEq hAm (-1)
          have eb2 : bpF d0.1 d0.2.2.2.1 d0.2.2.2.2.2.2.1 (d0.2.2.2.2.2.2.2.2.2 x.toNatClampNeg) (d0.2.2.2.2.2.2.2.1 x.toNatClampNeg) (aB σ x.toNatClampNeg (-1)) = aB σ x.toNatClampNeg (aB σ x.toNatClampNeg (-1)) := eB hEq hAm _
          have es : ∀ y : Int32, scr d0.1 d0.2.2.2.1 d0.2.2.2.2.2.2.1 (d0.2.2.2.2.2.2.2.2.2 x.toNatClampNeg) y = aS σ x.toNatClampNeg y := eS hEq hAm
          exact ⟨by unfold anchorOfR; rw [if_neg (fun h => h ⟨by unfold InA; omega, by omega⟩), if_neg c27_0, if_neg c27_1, if_neg c27_7, if_neg c27_8, if_neg c27_9, if_pos c27_10]; rw [eb, eb2]; rfl, rfl⟩
        have c27n10 := i_ne c27_10
        by_cases c27_11 : y = 11
        · have c27' := i_eq c27_11
          refine g_tableIn C 152 (by rw [c27_11]; decide) (by rw [c27_11]; decide) (by rw [c27_11] <;> rfl) (by decide) dX6_anchorOf_27 ?_
          refine g_aload_n C 1 rfl dX6_anchorOf_152 ?_
          refine g_aload_n C 0 rfl dX6_anchorOf_153 ?_
          refine g_aload_n C 1 rfl dX6_anchorOf_154 ?_
          refine g_get C 0 6 0 (by omega) x0 rfl in6 (by decide) f10 (fun _ h9 => h9) rfl dX6_anchorOf_155 ?_
          refine g_aload_n C 0 rfl dX6_anchorOf_158 ?_
          refine g_Vi C [.ref (adr (1 + 7 + 2 * x.toNatClampNeg))] 1 5 (by omega) hS.1 rfl (c_X5_nextBestPlace l D kc N adr cell 1 d0.1 d0.2.1 d0.2.2.1 d0.2.2.2.1 d0.2.2.2.2.1 d0.2.2.2.2.2.1 d0.2.2.2.2.2.2.1 d0.2.2.2.2.2.2.2.1 d0.2.2.2.2.2.2.2.2.1 d0.2.2.2.2.2.2.2.2.2 (1 + 7 + 2 * x.toNatClampNeg) (d0.2.2.2.2.2.2.2.1 x.toNatClampNeg) (d0.2.2.2.2.2.2.2.2.1 x.toNatClampNeg) (d0.2.2.2.2.2.2.2.2.2 x.toNatClampNeg)  hS (by omega) hAx (by omega)) (cwV 1 C.2.2.2.2.1 gX6_anchorOf_X5_nextBestPlace rfl rfl rfl (by decide +kernel) ⟨Nat.le_of_ble_eq_true rfl, Nat.le_of_ble_eq_true rfl⟩) rfl rfl (Nat.le_of_ble_eq_true rfl) (Nat.zero_le _) (Nat.zero_le _) dX6_anchorOf_159 (fun v22 cell22 q22 => ?_)
          obtain ⟨rfl, rfl⟩ := q22
          refine g_Vi C [.ref (adr (1 + 7 + 2 * x.toNatClampNeg)), .int (bpF d0.1 d0.2.2.2.1 d0.2.2.2.2.2.2.1 (d0.2.2.2.2.2.2.2.2.2 x.toNatClampNeg) (d0.2.2.2.2.2.2.2.1 x.toNatClampNeg) (bpF d0.1 d0.2.2.2.1 d0.2.2.2.2.2.2.1 (d0.2.2.2.2.2.2.2.2.2 x.toNatClampNeg) (d0.2.2.2.2.2.2.2.1 x.toNatClampNeg) (-1)))] 0 6 (by omega) x0 rfl (c_X6_scoreOrNotFound l D kc N adr cell d0 (1 + 7 + 2 * x.toNatClampNeg) (d0.2.2.2.2.2.2.2.1 x.toNatClampNeg) (d0.2.2.2.2.2.2.2.2.1 x.toNatClampNeg) (d0.2.2.2.2.2.2.2.2.2 x.toNatClampNeg) (bpF d0.1 d0.2.2.2.1 d0.2.2.2.2.2.2.1 (d0.2.2.2.2.2.2.2.2.2 x.toNatClampNeg) (d0.2.2.2.2.2.2.2.1 x.toNatClampNeg) (bpF d0.1 d0.2.2.2.1 d0.2.2.2.2.2.2.1 (d0.2.2.2.2.2.2.2.2.2 x.toNatClampNeg) (d0.2.2.2.2.2.2.2.1 x.toNatClampNeg) (-1))) x0 hS hAx (by omega) (by omega)) (cwV 2 C.2.2.2.2.1 gX6_anchorOf_X6_scoreOrNotFound rfl rfl rfl (by decide +kernel) ⟨Nat.le_of_ble_eq_true rfl, Nat.le_of_ble_eq_true rfl⟩) rfl rfl (Nat.le_of_ble_eq_true rfl) (Nat.zero_le _) (Nat.zero_le _) dX6_anchorOf_162 (fun v23 cell23 q23 => ?_)
          obtain ⟨rfl, rfl⟩ := q23
          refine g_iret C hr rfl hlk dX6_anchorOf_165 ?_
          have hAm : x.toNatClampNeg < σ.2.1 := by omega
          have hA6 := hEq.2.2.2.2.2 _ hAm
          have eb : bpF d0.1 d0.2.2.2.1 d0.2.2.2.2.2.2.1 (d0.2.2.2.2.2.2.2.2.2 x.toNatClampNeg) (d0.2.2.2.2.2.2.2.1 x.toNatClampNeg) (-1) = aB σ x.toNatClampNeg (-1) := eB hEq hAm (-1)
          have eb2 : bpF d0.1 d0.2.2.2.1 d0.2.2.2.2.2.2.1 (d0.2.2.2.2.2.2.2.2.2 x.toNatClampNeg) (d0.2.2.2.2.2.2.2.1 x.toNatClampNeg) (aB σ x.toNatClampNeg (-1)) = aB σ x.toNatClampNeg (aB σ x.toNatClampNeg (-1)) := eB hEq hAm _
          have es : ∀ y : Int32, scr d0.1 d0.2.2.2.1 d0.2.2.2.2.2.2.1 (d0.2.2.2.2.2.2.2.2.2 x.toNatClampNeg) y = aS σ x.toNatClampNeg y := eS hEq hAm
          exact ⟨by unfold anchorOfR; rw [if_neg (fun h => h ⟨by unfold InA; omega, by omega⟩), if_neg c27_0, if_neg c27_1, if_neg c27_7, if_neg c27_8, if_neg c27_9, if_neg c27_10, if_pos c27_11]; rw [eb, eb2, es]; rfl, rfl⟩
        have c27n11 := i_ne c27_11
        by_cases c27_12 : y = 12
        · have c27' := i_eq c27_12
          refine g_tableIn C 166 (by rw [c27_12]; decide) (by rw [c27_12]; decide) (by rw [c27_12] <;> rfl) (by decide) dX6_anchorOf_27 ?_
          refine g_aload_n C 1 rfl dX6_anchorOf_166 ?_
          refine g_get C 0 6 0 (by omega) x0 rfl in6 (by decide) f10 (fun _ h9 => h9) rfl dX6_anchorOf_167 ?_
          refine g_aload_n C 0 rfl dX6_anchorOf_170 ?_
          refine g_iconst C 3 (by decide) dX6_anchorOf_171 ?_
          refine g_Vi C [.ref (adr (1 + 7 + 2 * x.toNatClampNeg)), .int 3] 1 5 (by omega) hS.1 rfl (c_X5_isOfKind l D kc N adr cell 1 d0.1 d0.2.1 d0.2.2.1 d0.2.2.2.1 d0.2.2.2.2.1 d0.2.2.2.2.2.1 d0.2.2.2.2.2.2.1 d0.2.2.2.2.2.2.2.1 d0.2.2.2.2.2.2.2.2.1 d0.2.2.2.2.2.2.2.2.2 (1 + 7 + 2 * x.toNatClampNeg) (d0.2.2.2.2.2.2.2.1 x.toNatClampNeg) (d0.2.2.2.2.2.2.2.2.1 x.toNatClampNeg) (d0.2.2.2.2.2.2.2.2.2 x.toNatClampNeg) 3 hS (by omega) hAx (by omega)) (cwV 2 C.2.2.2.2.1 gX6_anchorOf_X5_isOfKind rfl rfl rfl (by decide +kernel) ⟨Nat.le_of_ble_eq_true rfl, Nat.le_of_ble_eq_true rfl⟩) rfl rfl (Nat.le_of_ble_eq_true rfl) (Nat.zero_le _) (Nat.zero_le _) dX6_anchorOf_172 (fun v24 cell24 q24 => ?_)
          obtain ⟨rfl, rfl⟩ := q24
          refine g_if_eq C 182 (by decide) dX6_anchorOf_175 (fun c175 => ?_) (fun c175 => ?_)
          · -- taken at 175
            have c175' := bI_bf c175
            refine g_iconst C 0 (by decide) dX6_anchorOf_182 ?_
            refine g_iret C hr rfl hlk dX6_anchorOf_183 ?_
            have hAm : x.toNatClampNeg < σ.2.1 := by omega
            have hA6 := hEq.2.2.2.2.2 _ hAm
            have eb : bpF d0.1 d0.2.2.2.1 d0.2.2.2.2.2.2.1 (d0.2.2.2.2.2.2.2.2.2 x.toNatClampNeg) (d0.2.2.2.2.2.2.2.1 x.toNatClampNeg) (-1) = aB σ x.toNatClampNeg (-1) := eB hEq hAm (-1)
            have eb2 : bpF d0.1 d0.2.2.2.1 d0.2.2.2.2.2.2.1 (d0.2.2.2.2.2.2.2.2.2 x.toNatClampNeg) (d0.2.2.2.2.2.2.2.1 x.toNatClampNeg) (aB σ x.toNatClampNeg (-1)) = aB σ x.toNatClampNeg (aB σ x.toNatClampNeg (-1)) := eB hEq hAm _
            have es : ∀ y : Int32, scr d0.1 d0.2.2.2.1 d0.2.2.2.2.2.2.1 (d0.2.2.2.2.2.2.2.2.2 x.toNatClampNeg) y = aS σ x.toNatClampNeg y := eS hEq hAm
            have ek : kindF d0.1 d0.2.2.2.1 d0.2.2.2.2.2.2.1 (d0.2.2.2.2.2.2.2.2.2 x.toNatClampNeg) (d0.2.2.2.2.2.2.2.1 x.toNatClampNeg) (d0.2.2.2.2.2.2.2.2.1 x.toNatClampNeg) 3 = aK σ x.toNatClampNeg 3 := eK hEq hAm 3
            rw [ek] at c175'
            exact ⟨by unfold anchorOfR; rw [if_neg (fun h => h ⟨by unfold InA; omega, by omega⟩), if_neg c27_0, if_neg c27_1, if_neg c27_7, if_neg c27_8, if_neg c27_9, if_neg c27_10, if_neg c27_11, if_pos c27_12]; rw [c175']; rfl, rfl⟩
          · -- not taken at 175
            have c175' := bI_bt c175
            refine g_iconst C 1 (by decide) dX6_anchorOf_178 ?_
            refine g_goto C 183 (by decide) dX6_anchorOf_179 ?_
            refine g_iret C hr rfl hlk dX6_anchorOf_183 ?_
            have hAm : x.toNatClampNeg < σ.2.1 := by omega
            have hA6 := hEq.2.2.2.2.2 _ hAm
            have eb : bpF d0.1 d0.2.2.2.1 d0.2.2.2.2.2.2.1 (d0.2.2.2.2.2.2.2.2.2 x.toNatClampNeg) (d0.2.2.2.2.2.2.2.1 x.toNatClampNeg) (-1) = aB σ x.toNatClampNeg (-1) := eB hEq hAm (-1)
            have eb2 : bpF d0.1 d0.2.2.2.1 d0.2.2.2.2.2.2.1 (d0.2.2.2.2.2.2.2.2.2 x.toNatClampNeg) (d0.2.2.2.2.2.2.2.1 x.toNatClampNeg) (aB σ x.toNatClampNeg (-1)) = aB σ x.toNatClampNeg (aB σ x.toNatClampNeg (-1)) := eB hEq hAm _
            have es : ∀ y : Int32, scr d0.1 d0.2.2.2.1 d0.2.2.2.2.2.2.1 (d0.2.2.2.2.2.2.2.2.2 x.toNatClampNeg) y = aS σ x.toNatClampNeg y := eS hEq hAm
            have ek : kindF d0.1 d0.2.2.2.1 d0.2.2.2.2.2.2.1 (d0.2.2.2.2.2.2.2.2.2 x.toNatClampNeg) (d0.2.2.2.2.2.2.2.1 x.toNatClampNeg) (d0.2.2.2.2.2.2.2.2.1 x.toNatClampNeg) 3 = aK σ x.toNatClampNeg 3 := eK hEq hAm 3
            rw [ek] at c175'
            exact ⟨by unfold anchorOfR; rw [if_neg (fun h => h ⟨by unfold InA; omega, by omega⟩), if_neg c27_0, if_neg c27_1, if_neg c27_7, if_neg c27_8, if_neg c27_9, if_neg c27_10, if_neg c27_11, if_pos c27_12]; rw [c175']; rfl, rfl⟩
        have c27n12 := i_ne c27_12
        refine g_tableOut C 184 (by have hl0 : (0 : Int32).toInt = 0 := rfl; have hl1 : (1 : Int32).toInt = 1 := rfl; have hl2 : (2 : Int32).toInt = 2 := rfl; have hl3 : (3 : Int32).toInt = 3 := rfl; have hl4 : (4 : Int32).toInt = 4 := rfl; have hl5 : (5 : Int32).toInt = 5 := rfl; have hl6 : (6 : Int32).toInt = 6 := rfl; have hl7 : (7 : Int32).toInt = 7 := rfl; have hl8 : (8 : Int32).toInt = 8 := rfl; have hl9 : (9 : Int32).toInt = 9 := rfl; have hl10 : (10 : Int32).toInt = 10 := rfl; have hl11 : (11 : Int32).toInt = 11 := rfl; have hl12 : (12 : Int32).toInt = 12 := rfl; omega) (by decide) dX6_anchorOf_27 ?_
        refine g_aload_n C 0 rfl dX6_anchorOf_184 ?_
        refine g_iload_n C 3 rfl dX6_anchorOf_185 ?_
        refine g_iconst C 2 (by decide) dX6_anchorOf_186 ?_
        refine g_isub C dX6_anchorOf_187 ?_
        refine g_Vi C [.int (y - 2)] (1 + 7 + 2 * x.toNatClampNeg) 0 (by omega) hAx.1 rfl (c_X0_thing l D kc N adr cell (1 + 7 + 2 * x.toNatClampNeg) (d0.2.2.2.2.2.2.2.1 x.toNatClampNeg) (d0.2.2.2.2.2.2.2.2.1 x.toNatClampNeg) (d0.2.2.2.2.2.2.2.2.2 x.toNatClampNeg) (y - 2) hAx (by omega)) (cwV 1 C.2.2.2.2.1 gX6_anchorOf_X0_thing rfl rfl rfl (by decide +kernel) ⟨Nat.le_of_ble_eq_true rfl, Nat.le_of_ble_eq_true rfl⟩) rfl rfl (Nat.le_of_ble_eq_true rfl) (Nat.zero_le _) (Nat.zero_le _) dX6_anchorOf_188 (fun v25 cell25 q25 => ?_)
        obtain ⟨rfl, rfl⟩ := q25
        refine g_Si C [.int (atF 5 (d0.2.2.2.2.2.2.2.2.2 x.toNatClampNeg) (y - 2))] (c_X6_orNotFound l D kc N adr cell (atF 5 (d0.2.2.2.2.2.2.2.2.2 x.toNatClampNeg) (y - 2))) (va_cwS 1 C.2.2.2.2.1 gX6_anchorOf_X6_orNotFound rfl rfl rfl (by decide +kernel) ⟨Nat.le_of_ble_eq_true rfl, Nat.le_of_ble_eq_true rfl⟩) rfl rfl (Nat.le_of_ble_eq_true rfl) (Nat.zero_le _) (Nat.zero_le _) dX6_anchorOf_191 (fun v26 cell26 q26 => ?_)
        obtain ⟨rfl, rfl⟩ := q26
        refine g_iret C hr rfl hlk dX6_anchorOf_194 ?_
        have hAm : x.toNatClampNeg < σ.2.1 := by omega
        have hA6 := hEq.2.2.2.2.2 _ hAm
        have eb : bpF d0.1 d0.2.2.2.1 d0.2.2.2.2.2.2.1 (d0.2.2.2.2.2.2.2.2.2 x.toNatClampNeg) (d0.2.2.2.2.2.2.2.1 x.toNatClampNeg) (-1) = aB σ x.toNatClampNeg (-1) := eB hEq hAm (-1)
        have eb2 : bpF d0.1 d0.2.2.2.1 d0.2.2.2.2.2.2.1 (d0.2.2.2.2.2.2.2.2.2 x.toNatClampNeg) (d0.2.2.2.2.2.2.2.1 x.toNatClampNeg) (aB σ x.toNatClampNeg (-1)) = aB σ x.toNatClampNeg (aB σ x.toNatClampNeg (-1)) := eB hEq hAm _
        have es : ∀ y : Int32, scr d0.1 d0.2.2.2.1 d0.2.2.2.2.2.2.1 (d0.2.2.2.2.2.2.2.2.2 x.toNatClampNeg) y = aS σ x.toNatClampNeg y := eS hEq hAm
        have eth : atF 5 (d0.2.2.2.2.2.2.2.2.2 x.toNatClampNeg) (y - 2) = atF 5 (σ.2.2.2.2.2.2.2.2.2 x.toNatClampNeg) (y - 2) := atF_cong hA6.2.2 _
        exact ⟨by unfold anchorOfR; rw [if_neg (fun h => h ⟨by unfold InA; omega, by omega⟩), if_neg c27_0, if_neg c27_1, if_neg c27_7, if_neg c27_8, if_neg c27_9, if_neg c27_10, if_neg c27_11, if_neg c27_12, eth]; rfl, rfl⟩
      · -- not taken at 20
        have c20' := i_nle c20
        refine g_ldc C (-1000001) k60 dX6_anchorOf_23 ?_
        refine g_iret C hr rfl hlk dX6_anchorOf_25 ?_
        exact ⟨by unfold anchorOfR; exact if_pos (fun h => by have := h.2; omega), rfl⟩
  refine g_eqst (st1 := ([.null] : List Value)) (by rw [if_neg hx]; rfl) ?_
  refine g_astore_nN C [(3, .null), (0, .ref (adr 0)), (1, .int x), (2, .int y)] (by decide) rfl dX6_anchorOf_8 ?_
  refine g_aload_nN C 0 rfl dX6_anchorOf_9 ?_
  refine g_ifnullN C 23 (by decide) dX6_anchorOf_10 ?_
  refine g_ldc C (-1000001) k60 dX6_anchorOf_23 ?_
  refine g_iret C hr rfl hlk dX6_anchorOf_25 ?_
  exact ⟨by unfold anchorOfR; exact if_pos (fun h => hx (by have := h.1; unfold InA at this; omega)), rfl⟩
set_option maxRecDepth 100000 in
set_option maxHeartbeats 4000000 in
theorem c_X6_count (l : Launch) (D : va_G) (kc : Nat → ClassId) (N : Nat) (adr : Nat → Nat) (cell : Nat → va_E) (σ : SD) (hn : Nat) (hi : Nat → SD) (L : Nat) (ch : Nat → Int32) (x : Int32) (hX : XAt cell adr kc σ hn hi L ch) (hG : Good σ) (hN : 125 ≤ N) : MI l yX6_count wsX6_count ({ frames := 3, cells := 0, slots := 0, locals := 65 }) D kc N adr cell [.ref (adr 0), .int x] (fun (w0 : Int32) (cell1 : Nat → va_E) => countR σ hn L x = w0 ∧ cell = cell1) := by
  refine met_i (cc := cX6_count) (maxL := 2) (ret := (some .int)) (by decide) rfl (Nat.le_of_ble_eq_true rfl) (lv := [(0, .ref (adr 0)), (1, .int x)]) rfl ?_
  intro Pg Ev Sv Mi args below Me Cd Ar C hr hlk hnm
  have in5 : ∀ w ∈ u_ws RX5 TX5 5, w ∈ wsX6_count := by decide +kernel
  have in6 : ∀ w ∈ u_ws RX6 TX6 6, w ∈ wsX6_count := by decide +kernel
  have f10 := C.2.2.2.2.1 (.fieldLink RX6 10 "WordAnchors" "now" "LWordAnchors$State;") (by decide +kernel)
  have f47 := C.2.2.2.2.1 (.fieldLink RX6 47 "WordAnchors$State" "row" "LWordAnchors$Row;") (by decide +kernel)
  have f22 := C.2.2.2.2.1 (.fieldLink RX6 22 "WordAnchors" "history" "LWordAnchors$History;") (by decide +kernel)
  have f29 := C.2.2.2.2.1 (.fieldLink RX6 29 "WordAnchors" "text" "LWordAnchors$EditText;") (by decide +kernel)
  have k60 := C.2.2.2.2.1 (.constant RX6 60 (-1000001)) (by decide +kernel)
  have hX0 := hX
  obtain ⟨x0, ⟨d0, hS, hEq⟩, ⟨dT, hST⟩, ⟨od, dh, hHI, hHE⟩, ⟨sx, nx, sg, nu, hTX⟩, ⟨bz, Sf, Mf, hBL⟩, ⟨ap, av, af, hAN⟩, hch⟩ := hX
  have en := hEq.1
  have em := hEq.2.1
  have hgn := hG.1
  have hgm := hG.2.1
  have hn40 : d0.1 ≤ 40 := hS.2.1.2.2.2.2
  have hm6 : d0.2.1 ≤ 6 := hS.2.2.2.2.2
  have hL60 : L ≤ 60 := hTX.2.2.2
  have hod : od < 4 := hHI.2.2.2.1
  have hh4 : hn ≤ 4 := hHI.2.2.2.2
  have litm1000001 : ((-1000001) : Int32).toInt = -1000001 := rfl
  have litm1 : ((-1) : Int32).toInt = -1 := rfl
  have lit0 : (0 : Int32).toInt = 0 := rfl
  have lit1 : (1 : Int32).toInt = 1 := rfl
  have lit20 : (20 : Int32).toInt = 20 := rfl
  have tn_d0_1 : (nI d0.1).toInt = ((d0.1 : Nat) : Int) := nI_toInt (by omega)
  have tn_d0_2_1 : (nI d0.2.1).toInt = ((d0.2.1 : Nat) : Int) := nI_toInt (by omega)
  have tn_L : (nI L).toInt = ((L : Nat) : Int) := nI_toInt (by omega)
  have tn_hn : (nI hn).toInt = ((hn : Nat) : Int) := nI_toInt (by omega)
  refine g_iload_n C 1 rfl dX6_count_0 ?_
  by_cases c1_0 : x = 0
  · have c1' := i_eq c1_0
    refine g_tableIn C 116 (by rw [c1_0]; decide) (by rw [c1_0]; decide) (by rw [c1_0] <;> rfl) (by decide) dX6_count_1 ?_
    refine g_aload_n C 0 rfl dX6_count_116 ?_
    refine g_get C 0 6 0 (by omega) x0 rfl in6 (by decide) f10 (fun _ h9 => h9) rfl dX6_count_117 ?_
    refine g_get C 1 5 0 (by omega) hS.1 rfl in5 (by decide) f47 (fun _ h9 => h9) rfl dX6_count_120 ?_
    refine g_Vi C [] (1 + 1) 4 (by omega) hS.2.1.1 rfl (c_X4_size l D kc N adr cell (1 + 1) d0.2.2.2.1 d0.2.2.2.2.1 d0.2.2.2.2.2.1 d0.1  hS.2.1 (by omega)) (cwV 0 C.2.2.2.2.1 gX6_count_X4_size rfl rfl rfl (by decide +kernel) ⟨Nat.le_of_ble_eq_true rfl, Nat.le_of_ble_eq_true rfl⟩) rfl rfl (Nat.le_of_ble_eq_true rfl) (Nat.zero_le _) (Nat.zero_le _) dX6_count_123 (fun v1 cell1 q1 => ?_)
    obtain ⟨rfl, rfl⟩ := q1
    refine g_iret C hr rfl hlk dX6_count_126 ?_
    exact ⟨by unfold countR; rw [if_pos c1_0]; rw [en], rfl⟩
  have c1n0 := i_ne c1_0
  by_cases c1_1 : x = 1
  · have c1' := i_eq c1_1
    refine g_tableIn C 127 (by rw [c1_1]; decide) (by rw [c1_1]; decide) (by rw [c1_1] <;> rfl) (by decide) dX6_count_1 ?_
    refine g_aload_n C 0 rfl dX6_count_127 ?_
    refine g_get C 0 6 0 (by omega) x0 rfl in6 (by decide) f10 (fun _ h9 => h9) rfl dX6_count_128 ?_
    refine g_Vi C [] 1 5 (by omega) hS.1 rfl (c_X5_anchorCount l D kc N adr cell 1 d0.1 d0.2.1 d0.2.2.1 d0.2.2.2.1 d0.2.2.2.2.1 d0.2.2.2.2.2.1 d0.2.2.2.2.2.2.1 d0.2.2.2.2.2.2.2.1 d0.2.2.2.2.2.2.2.2.1 d0.2.2.2.2.2.2.2.2.2  hS (by omega)) (cwV 0 C.2.2.2.2.1 gX6_count_X5_anchorCount rfl rfl rfl (by decide +kernel) ⟨Nat.le_of_ble_eq_true rfl, Nat.le_of_ble_eq_true rfl⟩) rfl rfl (Nat.le_of_ble_eq_true rfl) (Nat.zero_le _) (Nat.zero_le _) dX6_count_131 (fun v2 cell2 q2 => ?_)
    obtain ⟨rfl, rfl⟩ := q2
    refine g_iret C hr rfl hlk dX6_count_134 ?_
    exact ⟨by unfold countR; rw [if_neg c1_0, if_pos c1_1]; rw [em], rfl⟩
  have c1n1 := i_ne c1_1
  by_cases c1_2 : x = 2
  · have c1' := i_eq c1_2
    refine g_tableIn C 135 (by rw [c1_2]; decide) (by rw [c1_2]; decide) (by rw [c1_2] <;> rfl) (by decide) dX6_count_1 ?_
    refine g_aload_n C 0 rfl dX6_count_135 ?_
    refine g_get C 0 6 0 (by omega) x0 rfl in6 (by decide) f10 (fun _ h9 => h9) rfl dX6_count_136 ?_
    refine g_get C 1 5 0 (by omega) hS.1 rfl in5 (by decide) f47 (fun _ h9 => h9) rfl dX6_count_139 ?_
    refine g_Vi C [] (1 + 1) 4 (by omega) hS.2.1.1 rfl (c_X4_unlikeWords l D kc N adr cell (1 + 1) d0.2.2.2.1 d0.2.2.2.2.1 d0.2.2.2.2.2.1 d0.1  hS.2.1 (by omega)) (cwV 0 C.2.2.2.2.1 gX6_count_X4_unlikeWords rfl rfl rfl (by decide +kernel) ⟨Nat.le_of_ble_eq_true rfl, Nat.le_of_ble_eq_true rfl⟩) rfl rfl (Nat.le_of_ble_eq_true rfl) (Nat.zero_le _) (Nat.zero_le _) dX6_count_142 (fun v3 cell3 q3 => ?_)
    obtain ⟨rfl, rfl⟩ := q3
    refine g_iret C hr rfl hlk dX6_count_145 ?_
    exact ⟨by unfold countR; rw [if_neg c1_0, if_neg c1_1, if_pos c1_2]; rw [en]; exact congrArg nI (cnt_cong (fun i hi1 => by show (!seenF σ.2.2.2.1 (σ.2.2.2.1 i) i) = (!seenF d0.2.2.2.1 (d0.2.2.2.1 i) i); rw [hEq.2.2.2.1 i hi1, seen_cong (fun j hj => hEq.2.2.2.1 j (by omega))])), rfl⟩
  have c1n2 := i_ne c1_2
  by_cases c1_3 : x = 3
  · have c1' := i_eq c1_3
    refine g_tableIn C 146 (by rw [c1_3]; decide) (by rw [c1_3]; decide) (by rw [c1_3] <;> rfl) (by decide) dX6_count_1 ?_
    refine g_aload_n C 0 rfl dX6_count_146 ?_
    refine g_get C 0 6 0 (by omega) x0 rfl in6 (by decide) f10 (fun _ h9 => h9) rfl dX6_count_147 ?_
    refine g_Vi C [] 1 5 (by omega) hS.1 rfl (c_X5_edits l D kc N adr cell 1 d0.1 d0.2.1 d0.2.2.1 d0.2.2.2.1 d0.2.2.2.2.1 d0.2.2.2.2.2.1 d0.2.2.2.2.2.2.1 d0.2.2.2.2.2.2.2.1 d0.2.2.2.2.2.2.2.2.1 d0.2.2.2.2.2.2.2.2.2  hS (by omega)) (cwV 0 C.2.2.2.2.1 gX6_count_X5_edits rfl rfl rfl (by decide +kernel) ⟨Nat.le_of_ble_eq_true rfl, Nat.le_of_ble_eq_true rfl⟩) rfl rfl (Nat.le_of_ble_eq_true rfl) (Nat.zero_le _) (Nat.zero_le _) dX6_count_150 (fun v4 cell4 q4 => ?_)
    obtain ⟨rfl, rfl⟩ := q4
    refine g_iret C hr rfl hlk dX6_count_153 ?_
    exact ⟨by unfold countR; rw [if_neg c1_0, if_neg c1_1, if_neg c1_2, if_pos c1_3]; exact hEq.2.2.1.symm, rfl⟩
  have c1n3 := i_ne c1_3
  by_cases c1_4 : x = 4
  · have c1' := i_eq c1_4
    refine g_tableIn C 154 (by rw [c1_4]; decide) (by rw [c1_4]; decide) (by rw [c1_4] <;> rfl) (by decide) dX6_count_1 ?_
    refine g_aload_n C 0 rfl dX6_count_154 ?_
    refine g_get C 0 6 2 (by omega) x0 rfl in6 (by decide) f22 (fun _ h9 => h9) rfl dX6_count_155 ?_
    refine g_Vi C [] 39 3 (by omega) hHI.1 rfl (c_X3_size l D kc N adr cell 39 od hn dh hHI (by omega)) (cwV 0 C.2.2.2.2.1 gX6_count_X3_size rfl rfl rfl (by decide +kernel) ⟨Nat.le_of_ble_eq_true rfl, Nat.le_of_ble_eq_true rfl⟩) rfl rfl (Nat.le_of_ble_eq_true rfl) (Nat.zero_le _) (Nat.zero_le _) dX6_count_158 (fun v5 cell5 q5 => ?_)
    obtain ⟨rfl, rfl⟩ := q5
    refine g_iret C hr rfl hlk dX6_count_161 ?_
    exact ⟨by unfold countR; rw [if_neg c1_0, if_neg c1_1, if_neg c1_2, if_neg c1_3, if_pos c1_4], rfl⟩
  have c1n4 := i_ne c1_4
  by_cases c1_5 : x = 5
  · have c1' := i_eq c1_5
    refine g_tableIn C 162 (by rw [c1_5]; decide) (by rw [c1_5]; decide) (by rw [c1_5] <;> rfl) (by decide) dX6_count_1 ?_
    refine g_aload_n C 0 rfl dX6_count_162 ?_
    refine g_get C 0 6 3 (by omega) x0 rfl in6 (by decide) f29 (fun _ h9 => h9) rfl dX6_count_163 ?_
    refine g_Vi C [] 117 2 (by omega) hTX.1 rfl (c_X2_length l D kc N adr cell 117 L sx nx sg ch nu hTX (by omega)) (cwV 0 C.2.2.2.2.1 gX6_count_X2_length rfl rfl rfl (by decide +kernel) ⟨Nat.le_of_ble_eq_true rfl, Nat.le_of_ble_eq_true rfl⟩) rfl rfl (Nat.le_of_ble_eq_true rfl) (Nat.zero_le _) (Nat.zero_le _) dX6_count_166 (fun v6 cell6 q6 => ?_)
    obtain ⟨rfl, rfl⟩ := q6
    refine g_iret C hr rfl hlk dX6_count_169 ?_
    exact ⟨by unfold countR; rw [if_neg c1_0, if_neg c1_1, if_neg c1_2, if_neg c1_3, if_neg c1_4, if_pos c1_5], rfl⟩
  have c1n5 := i_ne c1_5
  by_cases c1_6 : x = 6
  · have c1' := i_eq c1_6
    refine g_tableIn C 182 (by rw [c1_6]; decide) (by rw [c1_6]; decide) (by rw [c1_6] <;> rfl) (by decide) dX6_count_1 ?_
    refine g_ldc C (-1000001) k60 dX6_count_182 ?_
    refine g_iret C hr rfl hlk dX6_count_184 ?_
    exact ⟨by unfold countR; rw [if_neg c1_0, if_neg c1_1, if_neg c1_2, if_neg c1_3, if_neg c1_4, if_neg c1_5]; exact if_neg (by rw [c1_6]; decide), rfl⟩
  have c1n6 := i_ne c1_6
  by_cases c1_7 : x = 7
  · have c1' := i_eq c1_7
    refine g_tableIn C 182 (by rw [c1_7]; decide) (by rw [c1_7]; decide) (by rw [c1_7] <;> rfl) (by decide) dX6_count_1 ?_
    refine g_ldc C (-1000001) k60 dX6_count_182 ?_
    refine g_iret C hr rfl hlk dX6_count_184 ?_
    exact ⟨by unfold countR; rw [if_neg c1_0, if_neg c1_1, if_neg c1_2, if_neg c1_3, if_neg c1_4, if_neg c1_5]; exact if_neg (by rw [c1_7]; decide), rfl⟩
  have c1n7 := i_ne c1_7
  by_cases c1_8 : x = 8
  · have c1' := i_eq c1_8
    refine g_tableIn C 182 (by rw [c1_8]; decide) (by rw [c1_8]; decide) (by rw [c1_8] <;> rfl) (by decide) dX6_count_1 ?_
    refine g_ldc C (-1000001) k60 dX6_count_182 ?_
    refine g_iret C hr rfl hlk dX6_count_184 ?_
    exact ⟨by unfold countR; rw [if_neg c1_0, if_neg c1_1, if_neg c1_2, if_neg c1_3, if_neg c1_4, if_neg c1_5]; exact if_neg (by rw [c1_8]; decide), rfl⟩
  have c1n8 := i_ne c1_8
  by_cases c1_9 : x = 9
  · have c1' := i_eq c1_9
    refine g_tableIn C 182 (by rw [c1_9]; decide) (by rw [c1_9]; decide) (by rw [c1_9] <;> rfl) (by decide) dX6_count_1 ?_
    refine g_ldc C (-1000001) k60 dX6_count_182 ?_
    refine g_iret C hr rfl hlk dX6_count_184 ?_
    exact ⟨by unfold countR; rw [if_neg c1_0, if_neg c1_1, if_neg c1_2, if_neg c1_3, if_neg c1_4, if_neg c1_5]; exact if_neg (by rw [c1_9]; decide), rfl⟩
  have c1n9 := i_ne c1_9
  by_cases c1_10 : x = 10
  · have c1' := i_eq c1_10
    refine g_tableIn C 182 (by rw [c1_10]; decide) (by rw [c1_10]; decide) (by rw [c1_10] <;> rfl) (by decide) dX6_count_1 ?_
    refine g_ldc C (-1000001) k60 dX6_count_182 ?_
    refine g_iret C hr rfl hlk dX6_count_184 ?_
    exact ⟨by unfold countR; rw [if_neg c1_0, if_neg c1_1, if_neg c1_2, if_neg c1_3, if_neg c1_4, if_neg c1_5]; exact if_neg (by rw [c1_10]; decide), rfl⟩
  have c1n10 := i_ne c1_10
  by_cases c1_11 : x = 11
  · have c1' := i_eq c1_11
    refine g_tableIn C 182 (by rw [c1_11]; decide) (by rw [c1_11]; decide) (by rw [c1_11] <;> rfl) (by decide) dX6_count_1 ?_
    refine g_ldc C (-1000001) k60 dX6_count_182 ?_
    refine g_iret C hr rfl hlk dX6_count_184 ?_
    exact ⟨by unfold countR; rw [if_neg c1_0, if_neg c1_1, if_neg c1_2, if_neg c1_3, if_neg c1_4, if_neg c1_5]; exact if_neg (by rw [c1_11]; decide), rfl⟩
  have c1n11 := i_ne c1_11
  by_cases c1_12 : x = 12
  · have c1' := i_eq c1_12
    refine g_tableIn C 182 (by rw [c1_12]; decide) (by rw [c1_12]; decide) (by rw [c1_12] <;> rfl) (by decide) dX6_count_1 ?_
    refine g_ldc C (-1000001) k60 dX6_count_182 ?_
    refine g_iret C hr rfl hlk dX6_count_184 ?_
    exact ⟨by unfold countR; rw [if_neg c1_0, if_neg c1_1, if_neg c1_2, if_neg c1_3, if_neg c1_4, if_neg c1_5]; exact if_neg (by rw [c1_12]; decide), rfl⟩
  have c1n12 := i_ne c1_12
  by_cases c1_13 : x = 13
  · have c1' := i_eq c1_13
    refine g_tableIn C 182 (by rw [c1_13]; decide) (by rw [c1_13]; decide) (by rw [c1_13] <;> rfl) (by decide) dX6_count_1 ?_
    refine g_ldc C (-1000001) k60 dX6_count_182 ?_
    refine g_iret C hr rfl hlk dX6_count_184 ?_
    exact ⟨by unfold countR; rw [if_neg c1_0, if_neg c1_1, if_neg c1_2, if_neg c1_3, if_neg c1_4, if_neg c1_5]; exact if_neg (by rw [c1_13]; decide), rfl⟩
  have c1n13 := i_ne c1_13
  by_cases c1_14 : x = 14
  · have c1' := i_eq c1_14
    refine g_tableIn C 182 (by rw [c1_14]; decide) (by rw [c1_14]; decide) (by rw [c1_14] <;> rfl) (by decide) dX6_count_1 ?_
    refine g_ldc C (-1000001) k60 dX6_count_182 ?_
    refine g_iret C hr rfl hlk dX6_count_184 ?_
    exact ⟨by unfold countR; rw [if_neg c1_0, if_neg c1_1, if_neg c1_2, if_neg c1_3, if_neg c1_4, if_neg c1_5]; exact if_neg (by rw [c1_14]; decide), rfl⟩
  have c1n14 := i_ne c1_14
  by_cases c1_15 : x = 15
  · have c1' := i_eq c1_15
    refine g_tableIn C 182 (by rw [c1_15]; decide) (by rw [c1_15]; decide) (by rw [c1_15] <;> rfl) (by decide) dX6_count_1 ?_
    refine g_ldc C (-1000001) k60 dX6_count_182 ?_
    refine g_iret C hr rfl hlk dX6_count_184 ?_
    exact ⟨by unfold countR; rw [if_neg c1_0, if_neg c1_1, if_neg c1_2, if_neg c1_3, if_neg c1_4, if_neg c1_5]; exact if_neg (by rw [c1_15]; decide), rfl⟩
  have c1n15 := i_ne c1_15
  by_cases c1_16 : x = 16
  · have c1' := i_eq c1_16
    refine g_tableIn C 182 (by rw [c1_16]; decide) (by rw [c1_16]; decide) (by rw [c1_16] <;> rfl) (by decide) dX6_count_1 ?_
    refine g_ldc C (-1000001) k60 dX6_count_182 ?_
    refine g_iret C hr rfl hlk dX6_count_184 ?_
    exact ⟨by unfold countR; rw [if_neg c1_0, if_neg c1_1, if_neg c1_2, if_neg c1_3, if_neg c1_4, if_neg c1_5]; exact if_neg (by rw [c1_16]; decide), rfl⟩
  have c1n16 := i_ne c1_16
  by_cases c1_17 : x = 17
  · have c1' := i_eq c1_17
    refine g_tableIn C 182 (by rw [c1_17]; decide) (by rw [c1_17]; decide) (by rw [c1_17] <;> rfl) (by decide) dX6_count_1 ?_
    refine g_ldc C (-1000001) k60 dX6_count_182 ?_
    refine g_iret C hr rfl hlk dX6_count_184 ?_
    exact ⟨by unfold countR; rw [if_neg c1_0, if_neg c1_1, if_neg c1_2, if_neg c1_3, if_neg c1_4, if_neg c1_5]; exact if_neg (by rw [c1_17]; decide), rfl⟩
  have c1n17 := i_ne c1_17
  by_cases c1_18 : x = 18
  · have c1' := i_eq c1_18
    refine g_tableIn C 182 (by rw [c1_18]; decide) (by rw [c1_18]; decide) (by rw [c1_18] <;> rfl) (by decide) dX6_count_1 ?_
    refine g_ldc C (-1000001) k60 dX6_count_182 ?_
    refine g_iret C hr rfl hlk dX6_count_184 ?_
    exact ⟨by unfold countR; rw [if_neg c1_0, if_neg c1_1, if_neg c1_2, if_neg c1_3, if_neg c1_4, if_neg c1_5]; exact if_neg (by rw [c1_18]; decide), rfl⟩
  have c1n18 := i_ne c1_18
  by_cases c1_19 : x = 19
  · have c1' := i_eq c1_19
    refine g_tableIn C 182 (by rw [c1_19]; decide) (by rw [c1_19]; decide) (by rw [c1_19] <;> rfl) (by decide) dX6_count_1 ?_
    refine g_ldc C (-1000001) k60 dX6_count_182 ?_
    refine g_iret C hr rfl hlk dX6_count_184 ?_
    exact ⟨by unfold countR; rw [if_neg c1_0, if_neg c1_1, if_neg c1_2, if_neg c1_3, if_neg c1_4, if_neg c1_5]; exact if_neg (by rw [c1_19]; decide), rfl⟩
  have c1n19 := i_ne c1_19
  by_cases c1_20 : x = 20
  · have c1' := i_eq c1_20
    refine g_tableIn C 170 (by rw [c1_20]; decide) (by rw [c1_20]; decide) (by rw [c1_20] <;> rfl) (by decide) dX6_count_1 ?_
    refine g_aload_n C 0 rfl dX6_count_170 ?_
    refine g_get C 0 6 0 (by omega) x0 rfl in6 (by decide) f10 (fun _ h9 => h9) rfl dX6_count_171 ?_
    refine g_iload_n C 1 rfl dX6_count_174 ?_
    refine g_bipush C 20 (by decide) dX6_count_175 ?_
    refine g_isub C dX6_count_177 ?_
    refine g_Vi C [.int (x - 20)] 1 5 (by omega) hS.1 rfl (c_X5_setting l D kc N adr cell 1 d0.1 d0.2.1 d0.2.2.1 d0.2.2.2.1 d0.2.2.2.2.1 d0.2.2.2.2.2.1 d0.2.2.2.2.2.2.1 d0.2.2.2.2.2.2.2.1 d0.2.2.2.2.2.2.2.2.1 d0.2.2.2.2.2.2.2.2.2 (x - 20) hS (by omega)) (cwV 1 C.2.2.2.2.1 gX6_count_X5_setting rfl rfl rfl (by decide +kernel) ⟨Nat.le_of_ble_eq_true rfl, Nat.le_of_ble_eq_true rfl⟩) rfl rfl (Nat.le_of_ble_eq_true rfl) (Nat.zero_le _) (Nat.zero_le _) dX6_count_178 (fun v7 cell7 q7 => ?_)
    obtain ⟨rfl, rfl⟩ := q7
    refine g_iret C hr rfl hlk dX6_count_181 ?_
    have hxk : x - 20 = nI 0 := by rw [c1_20]; rfl
    exact ⟨by unfold countR; rw [if_neg c1_0, if_neg c1_1, if_neg c1_2, if_neg c1_3, if_neg c1_4, if_neg c1_5, if_pos (by rw [c1_20]; decide), hxk, setF_nI (by omega), nI_clamp (by omega)]; exact (hEq.2.2.2.2.1 0 (by omega)).symm, rfl⟩
  have c1n20 := i_ne c1_20
  by_cases c1_21 : x = 21
  · have c1' := i_eq c1_21
    refine g_tableIn C 170 (by rw [c1_21]; decide) (by rw [c1_21]; decide) (by rw [c1_21] <;> rfl) (by decide) dX6_count_1 ?_
    refine g_aload_n C 0 rfl dX6_count_170 ?_
    refine g_get C 0 6 0 (by omega) x0 rfl in6 (by decide) f10 (fun _ h9 => h9) rfl dX6_count_171 ?_
    refine g_iload_n C 1 rfl dX6_count_174 ?_
    refine g_bipush C 20 (by decide) dX6_count_175 ?_
    refine g_isub C dX6_count_177 ?_
    refine g_Vi C [.int (x - 20)] 1 5 (by omega) hS.1 rfl (c_X5_setting l D kc N adr cell 1 d0.1 d0.2.1 d0.2.2.1 d0.2.2.2.1 d0.2.2.2.2.1 d0.2.2.2.2.2.1 d0.2.2.2.2.2.2.1 d0.2.2.2.2.2.2.2.1 d0.2.2.2.2.2.2.2.2.1 d0.2.2.2.2.2.2.2.2.2 (x - 20) hS (by omega)) (cwV 1 C.2.2.2.2.1 gX6_count_X5_setting rfl rfl rfl (by decide +kernel) ⟨Nat.le_of_ble_eq_true rfl, Nat.le_of_ble_eq_true rfl⟩) rfl rfl (Nat.le_of_ble_eq_true rfl) (Nat.zero_le _) (Nat.zero_le _) dX6_count_178 (fun v8 cell8 q8 => ?_)
    obtain ⟨rfl, rfl⟩ := q8
    refine g_iret C hr rfl hlk dX6_count_181 ?_
    have hxk : x - 20 = nI 1 := by rw [c1_21]; rfl
    exact ⟨by unfold countR; rw [if_neg c1_0, if_neg c1_1, if_neg c1_2, if_neg c1_3, if_neg c1_4, if_neg c1_5, if_pos (by rw [c1_21]; decide), hxk, setF_nI (by omega), nI_clamp (by omega)]; exact (hEq.2.2.2.2.1 1 (by omega)).symm, rfl⟩
  have c1n21 := i_ne c1_21
  by_cases c1_22 : x = 22
  · have c1' := i_eq c1_22
    refine g_tableIn C 170 (by rw [c1_22]; decide) (by rw [c1_22]; decide) (by rw [c1_22] <;> rfl) (by decide) dX6_count_1 ?_
    refine g_aload_n C 0 rfl dX6_count_170 ?_
    refine g_get C 0 6 0 (by omega) x0 rfl in6 (by decide) f10 (fun _ h9 => h9) rfl dX6_count_171 ?_
    refine g_iload_n C 1 rfl dX6_count_174 ?_
    refine g_bipush C 20 (by decide) dX6_count_175 ?_
    refine g_isub C dX6_count_177 ?_
    refine g_Vi C [.int (x - 20)] 1 5 (by omega) hS.1 rfl (c_X5_setting l D kc N adr cell 1 d0.1 d0.2.1 d0.2.2.1 d0.2.2.2.1 d0.2.2.2.2.1 d0.2.2.2.2.2.1 d0.2.2.2.2.2.2.1 d0.2.2.2.2.2.2.2.1 d0.2.2.2.2.2.2.2.2.1 d0.2.2.2.2.2.2.2.2.2 (x - 20) hS (by omega)) (cwV 1 C.2.2.2.2.1 gX6_count_X5_setting rfl rfl rfl (by decide +kernel) ⟨Nat.le_of_ble_eq_true rfl, Nat.le_of_ble_eq_true rfl⟩) rfl rfl (Nat.le_of_ble_eq_true rfl) (Nat.zero_le _) (Nat.zero_le _) dX6_count_178 (fun v9 cell9 q9 => ?_)
    obtain ⟨rfl, rfl⟩ := q9
    refine g_iret C hr rfl hlk dX6_count_181 ?_
    have hxk : x - 20 = nI 2 := by rw [c1_22]; rfl
    exact ⟨by unfold countR; rw [if_neg c1_0, if_neg c1_1, if_neg c1_2, if_neg c1_3, if_neg c1_4, if_neg c1_5, if_pos (by rw [c1_22]; decide), hxk, setF_nI (by omega), nI_clamp (by omega)]; exact (hEq.2.2.2.2.1 2 (by omega)).symm, rfl⟩
  have c1n22 := i_ne c1_22
  by_cases c1_23 : x = 23
  · have c1' := i_eq c1_23
    refine g_tableIn C 170 (by rw [c1_23]; decide) (by rw [c1_23]; decide) (by rw [c1_23] <;> rfl) (by decide) dX6_count_1 ?_
    refine g_aload_n C 0 rfl dX6_count_170 ?_
    refine g_get C 0 6 0 (by omega) x0 rfl in6 (by decide) f10 (fun _ h9 => h9) rfl dX6_count_171 ?_
    refine g_iload_n C 1 rfl dX6_count_174 ?_
    refine g_bipush C 20 (by decide) dX6_count_175 ?_
    refine g_isub C dX6_count_177 ?_
    refine g_Vi C [.int (x - 20)] 1 5 (by omega) hS.1 rfl (c_X5_setting l D kc N adr cell 1 d0.1 d0.2.1 d0.2.2.1 d0.2.2.2.1 d0.2.2.2.2.1 d0.2.2.2.2.2.1 d0.2.2.2.2.2.2.1 d0.2.2.2.2.2.2.2.1 d0.2.2.2.2.2.2.2.2.1 d0.2.2.2.2.2.2.2.2.2 (x - 20) hS (by omega)) (cwV 1 C.2.2.2.2.1 gX6_count_X5_setting rfl rfl rfl (by decide +kernel) ⟨Nat.le_of_ble_eq_true rfl, Nat.le_of_ble_eq_true rfl⟩) rfl rfl (Nat.le_of_ble_eq_true rfl) (Nat.zero_le _) (Nat.zero_le _) dX6_count_178 (fun v10 cell10 q10 => ?_)
    obtain ⟨rfl, rfl⟩ := q10
    refine g_iret C hr rfl hlk dX6_count_181 ?_
    have hxk : x - 20 = nI 3 := by rw [c1_23]; rfl
    exact ⟨by unfold countR; rw [if_neg c1_0, if_neg c1_1, if_neg c1_2, if_neg c1_3, if_neg c1_4, if_neg c1_5, if_pos (by rw [c1_23]; decide), hxk, setF_nI (by omega), nI_clamp (by omega)]; exact (hEq.2.2.2.2.1 3 (by omega)).symm, rfl⟩
  have c1n23 := i_ne c1_23
  by_cases c1_24 : x = 24
  · have c1' := i_eq c1_24
    refine g_tableIn C 170 (by rw [c1_24]; decide) (by rw [c1_24]; decide) (by rw [c1_24] <;> rfl) (by decide) dX6_count_1 ?_
    refine g_aload_n C 0 rfl dX6_count_170 ?_
    refine g_get C 0 6 0 (by omega) x0 rfl in6 (by decide) f10 (fun _ h9 => h9) rfl dX6_count_171 ?_
    refine g_iload_n C 1 rfl dX6_count_174 ?_
    refine g_bipush C 20 (by decide) dX6_count_175 ?_
    refine g_isub C dX6_count_177 ?_
    refine g_Vi C [.int (x - 20)] 1 5 (by omega) hS.1 rfl (c_X5_setting l D kc N adr cell 1 d0.1 d0.2.1 d0.2.2.1 d0.2.2.2.1 d0.2.2.2.2.1 d0.2.2.2.2.2.1 d0.2.2.2.2.2.2.1 d0.2.2.2.2.2.2.2.1 d0.2.2.2.2.2.2.2.2.1 d0.2.2.2.2.2.2.2.2.2 (x - 20) hS (by omega)) (cwV 1 C.2.2.2.2.1 gX6_count_X5_setting rfl rfl rfl (by decide +kernel) ⟨Nat.le_of_ble_eq_true rfl, Nat.le_of_ble_eq_true rfl⟩) rfl rfl (Nat.le_of_ble_eq_true rfl) (Nat.zero_le _) (Nat.zero_le _) dX6_count_178 (fun v11 cell11 q11 => ?_)
    obtain ⟨rfl, rfl⟩ := q11
    refine g_iret C hr rfl hlk dX6_count_181 ?_
    have hxk : x - 20 = nI 4 := by rw [c1_24]; rfl
    exact ⟨by unfold countR; rw [if_neg c1_0, if_neg c1_1, if_neg c1_2, if_neg c1_3, if_neg c1_4, if_neg c1_5, if_pos (by rw [c1_24]; decide), hxk, setF_nI (by omega), nI_clamp (by omega)]; exact (hEq.2.2.2.2.1 4 (by omega)).symm, rfl⟩
  have c1n24 := i_ne c1_24
  refine g_tableOut C 182 (by have hl0 : (0 : Int32).toInt = 0 := rfl; have hl1 : (1 : Int32).toInt = 1 := rfl; have hl2 : (2 : Int32).toInt = 2 := rfl; have hl3 : (3 : Int32).toInt = 3 := rfl; have hl4 : (4 : Int32).toInt = 4 := rfl; have hl5 : (5 : Int32).toInt = 5 := rfl; have hl6 : (6 : Int32).toInt = 6 := rfl; have hl7 : (7 : Int32).toInt = 7 := rfl; have hl8 : (8 : Int32).toInt = 8 := rfl; have hl9 : (9 : Int32).toInt = 9 := rfl; have hl10 : (10 : Int32).toInt = 10 := rfl; have hl11 : (11 : Int32).toInt = 11 := rfl; have hl12 : (12 : Int32).toInt = 12 := rfl; have hl13 : (13 : Int32).toInt = 13 := rfl; have hl14 : (14 : Int32).toInt = 14 := rfl; have hl15 : (15 : Int32).toInt = 15 := rfl; have hl16 : (16 : Int32).toInt = 16 := rfl; have hl17 : (17 : Int32).toInt = 17 := rfl; have hl18 : (18 : Int32).toInt = 18 := rfl; have hl19 : (19 : Int32).toInt = 19 := rfl; have hl20 : (20 : Int32).toInt = 20 := rfl; have hl21 : (21 : Int32).toInt = 21 := rfl; have hl22 : (22 : Int32).toInt = 22 := rfl; have hl23 : (23 : Int32).toInt = 23 := rfl; have hl24 : (24 : Int32).toInt = 24 := rfl; omega) (by decide) dX6_count_1 ?_
  refine g_ldc C (-1000001) k60 dX6_count_182 ?_
  refine g_iret C hr rfl hlk dX6_count_184 ?_
  exact ⟨by unfold countR; rw [if_neg c1_0, if_neg c1_1, if_neg c1_2, if_neg c1_3, if_neg c1_4, if_neg c1_5]; exact if_neg (fun h => by have q20 := c1n20; have r20 : (20 : Int32).toInt = 20 := rfl; have q21 := c1n21; have r21 : (21 : Int32).toInt = 21 := rfl; have q22 := c1n22; have r22 : (22 : Int32).toInt = 22 := rfl; have q23 := c1n23; have r23 : (23 : Int32).toInt = 23 := rfl; have q24 := c1n24; have r24 : (24 : Int32).toInt = 24 := rfl; omega), rfl⟩
set_option maxRecDepth 100000 in
set_option maxHeartbeats 4000000 in
theorem c_X6_undo (l : Launch) (D : va_G) (kc : Nat → ClassId) (N : Nat) (adr : Nat → Nat) (cell : Nat → va_E) (σ : SD) (hn : Nat) (hi : Nat → SD) (L : Nat) (ch : Nat → Int32)  (hX : XAt cell adr kc σ hn hi L ch) (hG : Good σ) (hN : 125 ≤ N) : MI l yX6_undo wsX6_undo ({ frames := 3, cells := 0, slots := 0, locals := 67 }) D kc N adr cell [.ref (adr 0)] (fun (w0 : Int32) (cell1 : Nat → va_E) => undoR hn = w0 ∧ XAt cell1 adr kc (undoS σ hn hi) (hn - 1) hi L ch) := by
  refine met_i (cc := cX6_undo) (maxL := 2) (ret := (some .int)) (by decide) rfl (Nat.le_of_ble_eq_true rfl) (lv := [(0, .ref (adr 0))]) rfl ?_
  intro Pg Ev Sv Mi args below Me Cd Ar C hr hlk hnm
  have in6 : ∀ w ∈ u_ws RX6 TX6 6, w ∈ wsX6_undo := by decide +kernel
  have f22 := C.2.2.2.2.1 (.fieldLink RX6 22 "WordAnchors" "history" "LWordAnchors$History;") (by decide +kernel)
  have k124 := C.2.2.2.2.1 (.constant RX6 124 (-1000002)) (by decide +kernel)
  have f10 := C.2.2.2.2.1 (.fieldLink RX6 10 "WordAnchors" "now" "LWordAnchors$State;") (by decide +kernel)
  have hX0 := hX
  obtain ⟨x0, ⟨d0, hS, hEq⟩, ⟨dT, hST⟩, ⟨od, dh, hHI, hHE⟩, ⟨sx, nx, sg, nu, hTX⟩, ⟨bz, Sf, Mf, hBL⟩, ⟨ap, av, af, hAN⟩, hch⟩ := hX
  have en := hEq.1
  have em := hEq.2.1
  have hgn := hG.1
  have hgm := hG.2.1
  have hn40 : d0.1 ≤ 40 := hS.2.1.2.2.2.2
  have hm6 : d0.2.1 ≤ 6 := hS.2.2.2.2.2
  have hL60 : L ≤ 60 := hTX.2.2.2
  have hod : od < 4 := hHI.2.2.2.1
  have hh4 : hn ≤ 4 := hHI.2.2.2.2
  have litm1000002 : ((-1000002) : Int32).toInt = -1000002 := rfl
  have litm1 : ((-1) : Int32).toInt = -1 := rfl
  have lit0 : (0 : Int32).toInt = 0 := rfl
  have lit1 : (1 : Int32).toInt = 1 := rfl
  have tn_d0_1 : (nI d0.1).toInt = ((d0.1 : Nat) : Int) := nI_toInt (by omega)
  have tn_d0_2_1 : (nI d0.2.1).toInt = ((d0.2.1 : Nat) : Int) := nI_toInt (by omega)
  have tn_L : (nI L).toInt = ((L : Nat) : Int) := nI_toInt (by omega)
  have tn_hn : (nI hn).toInt = ((hn : Nat) : Int) := nI_toInt (by omega)
  refine g_aload_n C 0 rfl dX6_undo_0 ?_
  refine g_get C 0 6 2 (by omega) x0 rfl in6 (by decide) f22 (fun _ h9 => h9) rfl dX6_undo_1 ?_
  refine g_Vq C [] 39 3 (by omega) hHI.1 rfl (c_X3_latest l D kc N adr cell 39 od hn dh hHI (by omega)) (cwV 0 C.2.2.2.2.1 gX6_undo_X3_latest rfl rfl rfl (by decide +kernel) ⟨Nat.le_of_ble_eq_true rfl, Nat.le_of_ble_eq_true rfl⟩) rfl rfl (Nat.le_of_ble_eq_true rfl) (Nat.zero_le _) (Nat.zero_le _) dX6_undo_4 (fun v1 cell1 q1 => ?_)
  obtain ⟨rfl, rfl⟩ := q1
  by_cases hz0 : hn = 0
  · refine g_eqst (st1 := ([.null] : List Value)) (by rw [if_pos hz0]; rfl) ?_
    refine g_astore_nN C [(1, .null), (0, .ref (adr 0))] (by decide) rfl dX6_undo_7 ?_
    refine g_aload_nN C 0 rfl dX6_undo_8 ?_
    refine g_ifnonnullN C dX6_undo_9 ?_
    refine g_ldc C (-1000002) k124 dX6_undo_12 ?_
    refine g_iret C hr rfl hlk dX6_undo_14 ?_
    exact ⟨if_pos hz0, by rw [show undoS σ hn hi = σ from if_pos hz0, show hn - 1 = hn by omega]; exact hX0⟩
  refine g_eqst (st1 := ([.ref (adr (39 + 2 + 19 * ((od + (hn - 1)) % 4)))] : List Value)) (by rw [if_neg hz0]; rfl) ?_
  refine g_astore_n C [(1, .ref (adr (39 + 2 + 19 * ((od + (hn - 1)) % 4)))), (0, .ref (adr 0))] (by decide) rfl dX6_undo_7 ?_
  refine g_aload_n C 0 rfl dX6_undo_8 ?_
  refine g_ifnonnull C 15 (by decide) dX6_undo_9 ?_
  have hnu : StAt cell adr kc (39 + 2 + 19 * ((od + (hn - 1)) % 4)) (dh ((od + (hn - 1)) % 4)) := hHI.2.2.1 ((od + (hn - 1)) % 4) (by omega)
  refine g_aload_n C 1 rfl dX6_undo_15 ?_
  refine g_get C 0 6 0 (by omega) x0 rfl in6 (by decide) f10 (fun _ h9 => h9) rfl dX6_undo_16 ?_
  refine g_aload_n C 0 rfl dX6_undo_19 ?_
  refine g_Vv C [.ref (adr (39 + 2 + 19 * ((od + (hn - 1)) % 4)))] 1 5 (by omega) hS.1 rfl (c_X5_copyFrom l D kc N adr cell 1 d0.1 d0.2.1 d0.2.2.1 d0.2.2.2.1 d0.2.2.2.2.1 d0.2.2.2.2.2.1 d0.2.2.2.2.2.2.1 d0.2.2.2.2.2.2.2.1 d0.2.2.2.2.2.2.2.2.1 d0.2.2.2.2.2.2.2.2.2 (39 + 2 + 19 * ((od + (hn - 1)) % 4)) (dh ((od + (hn - 1)) % 4)).1 (dh ((od + (hn - 1)) % 4)).2.1 (dh ((od + (hn - 1)) % 4)).2.2.1 (dh ((od + (hn - 1)) % 4)).2.2.2.1 (dh ((od + (hn - 1)) % 4)).2.2.2.2.1 (dh ((od + (hn - 1)) % 4)).2.2.2.2.2.1 (dh ((od + (hn - 1)) % 4)).2.2.2.2.2.2.1 (dh ((od + (hn - 1)) % 4)).2.2.2.2.2.2.2.1 (dh ((od + (hn - 1)) % 4)).2.2.2.2.2.2.2.2.1 (dh ((od + (hn - 1)) % 4)).2.2.2.2.2.2.2.2.2 hS (by omega) hnu (by omega) (by omega)) (cwV 1 C.2.2.2.2.1 gX6_undo_X5_copyFrom rfl rfl rfl (by decide +kernel) ⟨Nat.le_of_ble_eq_true rfl, Nat.le_of_ble_eq_true rfl⟩) rfl rfl (Nat.le_of_ble_eq_true rfl) (Nat.zero_le _) (Nat.zero_le _) dX6_undo_20 (fun cell2 q2 => ?_)
  obtain ⟨hS_5, gf_3⟩ := q2
  obtain ⟨d_4, hS_6, hE_7⟩ : ∃ d9 : SD, StAt cell2 adr kc 1 d9 ∧ Eqv d9 (hi (hn - 1)) := ⟨_, hS_5, Eqv.tr (cp_eqv (d2 := dh ((od + (hn - 1)) % 4)) hnu.2.1.2.2.2.2 hnu.2.2.2.2.2) (hHE (hn - 1) (by omega))⟩
  have h_8 : cell2 0 = .inr (6, [.ref (adr 1), .ref (adr 20), .ref (adr 39), .ref (adr 117), .ref (adr 120), .ref (adr 123)]) := (gf_3 0 (by omega)).trans x0
  have h_9 : StAt cell2 adr kc 20 dT := StAt.frame hST (fun j h1 h2 => gf_3 j (by omega))
  have h_10 : HiAt cell2 adr kc 39 od hn dh := HiAt.frame hHI (fun j h1 h2 => gf_3 j (by omega))
  have h_11 : TxAt cell2 adr kc 117 L sx (nI nx) sg ch nu := TxAt.frame hTX (fun j h1 h2 => gf_3 j (by omega))
  have h_12 : BlAt cell2 adr kc 120 bz Sf Mf := BlAt.frame hBL (fun j h1 h2 => gf_3 j (by omega))
  have h_13 : AncAt cell2 adr kc 123 ap av af := AncAt.frame hAN (fun j h1 h2 => gf_3 j (by omega))
  refine g_aload_n C 1 rfl dX6_undo_23 ?_
  refine g_get C 0 6 2 (by omega) h_8 rfl in6 (by decide) f22 (fun _ h9 => h9) rfl dX6_undo_24 ?_
  refine g_Vv C [] 39 3 (by omega) h_10.1 rfl (c_X3_forgetLatest l D kc N adr cell2 39 od hn dh h_10 (by omega)) (cwV 0 C.2.2.2.2.1 gX6_undo_X3_forgetLatest rfl rfl rfl (by decide +kernel) ⟨Nat.le_of_ble_eq_true rfl, Nat.le_of_ble_eq_true rfl⟩) rfl rfl (Nat.le_of_ble_eq_true rfl) (Nat.zero_le _) (Nat.zero_le _) dX6_undo_27 (fun cell14 q14 => ?_)
  obtain ⟨hHI_15, gf_16⟩ := q14
  have h_17 : cell14 0 = .inr (6, [.ref (adr 1), .ref (adr 20), .ref (adr 39), .ref (adr 117), .ref (adr 120), .ref (adr 123)]) := (gf_16 0 (by omega)).trans h_8
  have h_18 : StAt cell14 adr kc 1 d_4 := StAt.frame hS_6 (fun j h1 h2 => gf_16 j (by omega))
  have h_19 : StAt cell14 adr kc 20 dT := StAt.frame h_9 (fun j h1 h2 => gf_16 j (by omega))
  have h_20 : TxAt cell14 adr kc 117 L sx (nI nx) sg ch nu := TxAt.frame h_11 (fun j h1 h2 => gf_16 j (by omega))
  have h_21 : BlAt cell14 adr kc 120 bz Sf Mf := BlAt.frame h_12 (fun j h1 h2 => gf_16 j (by omega))
  have h_22 : AncAt cell14 adr kc 123 ap av af := AncAt.frame h_13 (fun j h1 h2 => gf_16 j (by omega))
  refine g_aload_n C 1 rfl dX6_undo_30 ?_
  refine g_get C 0 6 2 (by omega) h_17 rfl in6 (by decide) f22 (fun _ h9 => h9) rfl dX6_undo_31 ?_
  refine g_Vi C [] 39 3 (by omega) hHI_15.1 rfl (c_X3_size l D kc N adr cell14 39 od (hn - 1) dh hHI_15 (by omega)) (cwV 0 C.2.2.2.2.1 gX6_undo_X3_size rfl rfl rfl (by decide +kernel) ⟨Nat.le_of_ble_eq_true rfl, Nat.le_of_ble_eq_true rfl⟩) rfl rfl (Nat.le_of_ble_eq_true rfl) (Nat.zero_le _) (Nat.zero_le _) dX6_undo_34 (fun v23 cell23 q23 => ?_)
  obtain ⟨rfl, rfl⟩ := q23
  refine g_iret C hr rfl hlk dX6_undo_37 ?_
  refine ⟨if_neg hz0, ?_⟩
  rw [show undoS σ hn hi = hi (hn - 1) from if_neg hz0]
  exact ⟨h_17, ⟨_, h_18, hE_7⟩, ⟨_, h_19⟩, ⟨_, _, hHI_15, fun i hi1 => hHE i (by omega)⟩, ⟨_, _, _, _, h_20⟩, ⟨_, _, _, h_21⟩, ⟨_, _, _, h_22⟩, hch⟩
