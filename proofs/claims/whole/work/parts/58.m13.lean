set_option maxRecDepth 100000 in
set_option maxHeartbeats 4000000 in
theorem c_X7_put (l : Launch) (D : va_G) (kc : Nat → ClassId) (N : Nat) (adr : Nat → Nat) (cell : Nat → va_E) (σ : SD) (hn : Nat) (hi : Nat → SD) (L : Nat) (ch : Nat → Int32) (x w : Int32) (hM : MAt cell adr kc σ hn hi L ch) (hG : Good σ) (hN : 9 ≤ N) (hgh : ∀ i, i < hn → Good (hi i)) : MI l yX7_put wsX7_put ({ frames := 3, cells := 0, slots := 0, locals := 71 }) D kc N adr cell [.ref (adr 0), .int x, .int w] (fun (v : Int32) (cell1 : Nat → va_E) => putR σ x w = v ∧ MNx cell1 adr kc σ hn hi (putO σ x w) L ch) := by
  refine met_i (cc := cX7_put) (maxL := 3) (ret := (some .int)) (by decide) rfl (Nat.le_of_ble_eq_true rfl) (lv := [(0, .ref (adr 0)), (1, .int x), (2, .int w)]) rfl ?_
  intro Pg Ev Sv Mi args below Me Cd Ar C hr hlk hnm
  have hM0 := hM
  obtain ⟨S, Wa, Bg, As, tx, at', re, nu, mo, sh, hB, hS, hH, htx, hh4, hL60⟩ := hM
  have hB0 := hB
  obtain ⟨m0, m1, m2, m3, m4, m5, m6, m7, m8⟩ := hB
  have hg1 := hG.1
  have hg2 := hG.2.1
  have e0 := hS.1
  have e1 := hS.2.1
  have litm1 : ((-1) : Int32).toInt = -1 := rfl
  have lit0 : (0 : Int32).toInt = 0 := rfl
  have lit1 : (1 : Int32).toInt = 1 := rfl
  have tn___1 : (nI σ.1).toInt = ((σ.1 : Nat) : Int) := nI_toInt (by omega)
  have tn___2_1 : (nI σ.2.1).toInt = ((σ.2.1 : Nat) : Int) := nI_toInt (by omega)
  have tn_hn : (nI hn).toInt = ((hn : Nat) : Int) := nI_toInt (by omega)
  have tn_L : (nI L).toInt = ((L : Nat) : Int) := nI_toInt (by omega)
  refine g_aload_n C 0 rfl dX7_put_0 ?_
  refine g_Vv C [] 0 7 (by omega) m0 rfl (c_X7_keeps l D kc N adr cell S Wa Bg As tx (nI hn) (nI L) at' re nu mo sh ⟨m0, m1, m2, m3, m4, m5, m6, m7, m8⟩ (by omega)) (cwV 0 C.2.2.2.2.1 gX7_put_X7_keeps rfl rfl rfl (by decide +kernel) ⟨Nat.le_of_ble_eq_true rfl, Nat.le_of_ble_eq_true rfl⟩) rfl rfl (Nat.le_of_ble_eq_true rfl) (Nat.zero_le _) (Nat.zero_le _) dX7_put_1 (fun cell1 q1 => ?_)
  obtain ⟨h_2, h_3, h_4, h_5, h_6, h_7, h_8, h_9, h_10⟩ := q1
  have hBg : MS (fill S Bg 90) σ := ms_cong hS hg1 hg2 (fun j hj => fill_in hj)
  refine g_aload_n C 0 rfl dX7_put_4 ?_
  refine g_aload_n C 0 rfl dX7_put_5 ?_
  refine g_iload_n C 1 rfl dX7_put_6 ?_
  refine g_iload_n C 2 rfl dX7_put_7 ?_
  refine g_Vi C [.int x, .int w] 0 7 (by omega) h_2 rfl (c_X7_puts l D kc N adr cell1 S Wa (fill S Bg 90) As tx (nI hn) (nI L) at' re nu mo sh σ x w ⟨h_2, h_3, h_4, h_5, h_6, h_7, h_8, h_9, h_10⟩ (by omega) hS hG) (cwV 2 C.2.2.2.2.1 gX7_put_X7_puts rfl rfl rfl (by decide +kernel) ⟨Nat.le_of_ble_eq_true rfl, Nat.le_of_ble_eq_true rfl⟩) rfl rfl (Nat.le_of_ble_eq_true rfl) (Nat.zero_le _) (Nat.zero_le _) dX7_put_8 (fun v11 cell11 q11 => ?_)
  obtain ⟨rfl, S1, ⟨h_12, h_13, h_14, h_15, h_16, h_17, h_18, h_19, h_20⟩, hS1⟩ := q11
  refine g_Vi C [.int (putR σ x w)] 0 7 (by omega) h_12 rfl (c_X7_acted l D kc N adr cell11 S1 Wa (fill S Bg 90) As tx (nI hn) (nI L) at' re nu mo sh (putR σ x w) hn ⟨h_12, h_13, h_14, h_15, h_16, h_17, h_18, h_19, h_20⟩ (by omega) rfl hh4) (cwV 1 C.2.2.2.2.1 gX7_put_X7_acted rfl rfl rfl (by decide +kernel) ⟨Nat.le_of_ble_eq_true rfl, Nat.le_of_ble_eq_true rfl⟩) rfl rfl (Nat.le_of_ble_eq_true rfl) (Nat.zero_le _) (Nat.zero_le _) dX7_put_11 (fun v21 cell21 q21 => ?_)
  obtain ⟨rfl, Wa1, ⟨h_22, h_23, h_24, h_25, h_26, h_27, h_28, h_29, h_30⟩, hw1, hw2⟩ := q21
  refine g_iret C hr rfl hlk dX7_put_14 ?_
  exact ⟨rfl, mat_act ⟨h_22, h_23, h_24, h_25, h_26, h_27, h_28, h_29, h_30⟩ hS1 (put_sg hG) hBg hG hgh hH hw1 hw2 htx hh4 hL60⟩
set_option maxRecDepth 100000 in
set_option maxHeartbeats 4000000 in
theorem c_X7_take (l : Launch) (D : va_G) (kc : Nat → ClassId) (N : Nat) (adr : Nat → Nat) (cell : Nat → va_E) (σ : SD) (hn : Nat) (hi : Nat → SD) (L : Nat) (ch : Nat → Int32) (x : Int32) (hM : MAt cell adr kc σ hn hi L ch) (hG : Good σ) (hN : 9 ≤ N) (hgh : ∀ i, i < hn → Good (hi i)) : MI l yX7_take wsX7_take ({ frames := 3, cells := 0, slots := 0, locals := 71 }) D kc N adr cell [.ref (adr 0), .int x] (fun (v : Int32) (cell1 : Nat → va_E) => takeR σ x = v ∧ MNx cell1 adr kc σ hn hi (takeO σ x) L ch) := by
  refine met_i (cc := cX7_take) (maxL := 2) (ret := (some .int)) (by decide) rfl (Nat.le_of_ble_eq_true rfl) (lv := [(0, .ref (adr 0)), (1, .int x)]) rfl ?_
  intro Pg Ev Sv Mi args below Me Cd Ar C hr hlk hnm
  have hM0 := hM
  obtain ⟨S, Wa, Bg, As, tx, at', re, nu, mo, sh, hB, hS, hH, htx, hh4, hL60⟩ := hM
  have hB0 := hB
  obtain ⟨m0, m1, m2, m3, m4, m5, m6, m7, m8⟩ := hB
  have hg1 := hG.1
  have hg2 := hG.2.1
  have e0 := hS.1
  have e1 := hS.2.1
  have litm1 : ((-1) : Int32).toInt = -1 := rfl
  have lit0 : (0 : Int32).toInt = 0 := rfl
  have lit1 : (1 : Int32).toInt = 1 := rfl
  have tn___1 : (nI σ.1).toInt = ((σ.1 : Nat) : Int) := nI_toInt (by omega)
  have tn___2_1 : (nI σ.2.1).toInt = ((σ.2.1 : Nat) : Int) := nI_toInt (by omega)
  have tn_hn : (nI hn).toInt = ((hn : Nat) : Int) := nI_toInt (by omega)
  have tn_L : (nI L).toInt = ((L : Nat) : Int) := nI_toInt (by omega)
  refine g_aload_n C 0 rfl dX7_take_0 ?_
  refine g_Vv C [] 0 7 (by omega) m0 rfl (c_X7_keeps l D kc N adr cell S Wa Bg As tx (nI hn) (nI L) at' re nu mo sh ⟨m0, m1, m2, m3, m4, m5, m6, m7, m8⟩ (by omega)) (cwV 0 C.2.2.2.2.1 gX7_take_X7_keeps rfl rfl rfl (by decide +kernel) ⟨Nat.le_of_ble_eq_true rfl, Nat.le_of_ble_eq_true rfl⟩) rfl rfl (Nat.le_of_ble_eq_true rfl) (Nat.zero_le _) (Nat.zero_le _) dX7_take_1 (fun cell1 q1 => ?_)
  obtain ⟨h_2, h_3, h_4, h_5, h_6, h_7, h_8, h_9, h_10⟩ := q1
  have hBg : MS (fill S Bg 90) σ := ms_cong hS hg1 hg2 (fun j hj => fill_in hj)
  refine g_aload_n C 0 rfl dX7_take_4 ?_
  refine g_aload_n C 0 rfl dX7_take_5 ?_
  refine g_iload_n C 1 rfl dX7_take_6 ?_
  refine g_Vi C [.int x] 0 7 (by omega) h_2 rfl (c_X7_takes l D kc N adr cell1 S Wa (fill S Bg 90) As tx (nI hn) (nI L) at' re nu mo sh σ x ⟨h_2, h_3, h_4, h_5, h_6, h_7, h_8, h_9, h_10⟩ (by omega) hS hG) (cwV 1 C.2.2.2.2.1 gX7_take_X7_takes rfl rfl rfl (by decide +kernel) ⟨Nat.le_of_ble_eq_true rfl, Nat.le_of_ble_eq_true rfl⟩) rfl rfl (Nat.le_of_ble_eq_true rfl) (Nat.zero_le _) (Nat.zero_le _) dX7_take_7 (fun v11 cell11 q11 => ?_)
  obtain ⟨rfl, S1, ⟨h_12, h_13, h_14, h_15, h_16, h_17, h_18, h_19, h_20⟩, hS1⟩ := q11
  refine g_Vi C [.int (takeR σ x)] 0 7 (by omega) h_12 rfl (c_X7_acted l D kc N adr cell11 S1 Wa (fill S Bg 90) As tx (nI hn) (nI L) at' re nu mo sh (takeR σ x) hn ⟨h_12, h_13, h_14, h_15, h_16, h_17, h_18, h_19, h_20⟩ (by omega) rfl hh4) (cwV 1 C.2.2.2.2.1 gX7_take_X7_acted rfl rfl rfl (by decide +kernel) ⟨Nat.le_of_ble_eq_true rfl, Nat.le_of_ble_eq_true rfl⟩) rfl rfl (Nat.le_of_ble_eq_true rfl) (Nat.zero_le _) (Nat.zero_le _) dX7_take_10 (fun v21 cell21 q21 => ?_)
  obtain ⟨rfl, Wa1, ⟨h_22, h_23, h_24, h_25, h_26, h_27, h_28, h_29, h_30⟩, hw1, hw2⟩ := q21
  refine g_iret C hr rfl hlk dX7_take_13 ?_
  exact ⟨rfl, mat_act ⟨h_22, h_23, h_24, h_25, h_26, h_27, h_28, h_29, h_30⟩ hS1 (take_sg hG) hBg hG hgh hH hw1 hw2 htx hh4 hL60⟩
set_option maxRecDepth 100000 in
set_option maxHeartbeats 4000000 in
theorem c_X7_change (l : Launch) (D : va_G) (kc : Nat → ClassId) (N : Nat) (adr : Nat → Nat) (cell : Nat → va_E) (σ : SD) (hn : Nat) (hi : Nat → SD) (L : Nat) (ch : Nat → Int32) (x w : Int32) (hM : MAt cell adr kc σ hn hi L ch) (hG : Good σ) (hN : 9 ≤ N) (hgh : ∀ i, i < hn → Good (hi i)) : MI l yX7_change wsX7_change ({ frames := 3, cells := 0, slots := 0, locals := 71 }) D kc N adr cell [.ref (adr 0), .int x, .int w] (fun (v : Int32) (cell1 : Nat → va_E) => changeR σ x w = v ∧ MNx cell1 adr kc σ hn hi (changeO σ x w) L ch) := by
  refine met_i (cc := cX7_change) (maxL := 3) (ret := (some .int)) (by decide) rfl (Nat.le_of_ble_eq_true rfl) (lv := [(0, .ref (adr 0)), (1, .int x), (2, .int w)]) rfl ?_
  intro Pg Ev Sv Mi args below Me Cd Ar C hr hlk hnm
  have hM0 := hM
  obtain ⟨S, Wa, Bg, As, tx, at', re, nu, mo, sh, hB, hS, hH, htx, hh4, hL60⟩ := hM
  have hB0 := hB
  obtain ⟨m0, m1, m2, m3, m4, m5, m6, m7, m8⟩ := hB
  have hg1 := hG.1
  have hg2 := hG.2.1
  have e0 := hS.1
  have e1 := hS.2.1
  have litm1 : ((-1) : Int32).toInt = -1 := rfl
  have lit0 : (0 : Int32).toInt = 0 := rfl
  have lit1 : (1 : Int32).toInt = 1 := rfl
  have tn___1 : (nI σ.1).toInt = ((σ.1 : Nat) : Int) := nI_toInt (by omega)
  have tn___2_1 : (nI σ.2.1).toInt = ((σ.2.1 : Nat) : Int) := nI_toInt (by omega)
  have tn_hn : (nI hn).toInt = ((hn : Nat) : Int) := nI_toInt (by omega)
  have tn_L : (nI L).toInt = ((L : Nat) : Int) := nI_toInt (by omega)
  refine g_aload_n C 0 rfl dX7_change_0 ?_
  refine g_Vv C [] 0 7 (by omega) m0 rfl (c_X7_keeps l D kc N adr cell S Wa Bg As tx (nI hn) (nI L) at' re nu mo sh ⟨m0, m1, m2, m3, m4, m5, m6, m7, m8⟩ (by omega)) (cwV 0 C.2.2.2.2.1 gX7_change_X7_keeps rfl rfl rfl (by decide +kernel) ⟨Nat.le_of_ble_eq_true rfl, Nat.le_of_ble_eq_true rfl⟩) rfl rfl (Nat.le_of_ble_eq_true rfl) (Nat.zero_le _) (Nat.zero_le _) dX7_change_1 (fun cell1 q1 => ?_)
  obtain ⟨h_2, h_3, h_4, h_5, h_6, h_7, h_8, h_9, h_10⟩ := q1
  have hBg : MS (fill S Bg 90) σ := ms_cong hS hg1 hg2 (fun j hj => fill_in hj)
  refine g_aload_n C 0 rfl dX7_change_4 ?_
  refine g_aload_n C 0 rfl dX7_change_5 ?_
  refine g_iload_n C 1 rfl dX7_change_6 ?_
  refine g_iload_n C 2 rfl dX7_change_7 ?_
  refine g_Vi C [.int x, .int w] 0 7 (by omega) h_2 rfl (c_X7_changes l D kc N adr cell1 S Wa (fill S Bg 90) As tx (nI hn) (nI L) at' re nu mo sh σ x w ⟨h_2, h_3, h_4, h_5, h_6, h_7, h_8, h_9, h_10⟩ (by omega) hS hG) (cwV 2 C.2.2.2.2.1 gX7_change_X7_changes rfl rfl rfl (by decide +kernel) ⟨Nat.le_of_ble_eq_true rfl, Nat.le_of_ble_eq_true rfl⟩) rfl rfl (Nat.le_of_ble_eq_true rfl) (Nat.zero_le _) (Nat.zero_le _) dX7_change_8 (fun v11 cell11 q11 => ?_)
  obtain ⟨rfl, S1, ⟨h_12, h_13, h_14, h_15, h_16, h_17, h_18, h_19, h_20⟩, hS1⟩ := q11
  refine g_Vi C [.int (changeR σ x w)] 0 7 (by omega) h_12 rfl (c_X7_acted l D kc N adr cell11 S1 Wa (fill S Bg 90) As tx (nI hn) (nI L) at' re nu mo sh (changeR σ x w) hn ⟨h_12, h_13, h_14, h_15, h_16, h_17, h_18, h_19, h_20⟩ (by omega) rfl hh4) (cwV 1 C.2.2.2.2.1 gX7_change_X7_acted rfl rfl rfl (by decide +kernel) ⟨Nat.le_of_ble_eq_true rfl, Nat.le_of_ble_eq_true rfl⟩) rfl rfl (Nat.le_of_ble_eq_true rfl) (Nat.zero_le _) (Nat.zero_le _) dX7_change_11 (fun v21 cell21 q21 => ?_)
  obtain ⟨rfl, Wa1, ⟨h_22, h_23, h_24, h_25, h_26, h_27, h_28, h_29, h_30⟩, hw1, hw2⟩ := q21
  refine g_iret C hr rfl hlk dX7_change_14 ?_
  exact ⟨rfl, mat_act ⟨h_22, h_23, h_24, h_25, h_26, h_27, h_28, h_29, h_30⟩ hS1 (change_sg hG) hBg hG hgh hH hw1 hw2 htx hh4 hL60⟩
set_option maxRecDepth 100000 in
set_option maxHeartbeats 4000000 in
theorem c_X7_move (l : Launch) (D : va_G) (kc : Nat → ClassId) (N : Nat) (adr : Nat → Nat) (cell : Nat → va_E) (σ : SD) (hn : Nat) (hi : Nat → SD) (L : Nat) (ch : Nat → Int32) (f k t : Int32) (hM : MAt cell adr kc σ hn hi L ch) (hG : Good σ) (hN : 9 ≤ N) (hgh : ∀ i, i < hn → Good (hi i)) : MI l yX7_move wsX7_move ({ frames := 3, cells := 0, slots := 0, locals := 72 }) D kc N adr cell [.ref (adr 0), .int f, .int k, .int t] (fun (v : Int32) (cell1 : Nat → va_E) => moveR σ f k t = v ∧ MNx cell1 adr kc σ hn hi (moveO σ f k t) L ch) := by
  refine met_i (cc := cX7_move) (maxL := 4) (ret := (some .int)) (by decide) rfl (Nat.le_of_ble_eq_true rfl) (lv := [(0, .ref (adr 0)), (1, .int f), (2, .int k), (3, .int t)]) rfl ?_
  intro Pg Ev Sv Mi args below Me Cd Ar C hr hlk hnm
  have hM0 := hM
  obtain ⟨S, Wa, Bg, As, tx, at', re, nu, mo, sh, hB, hS, hH, htx, hh4, hL60⟩ := hM
  have hB0 := hB
  obtain ⟨m0, m1, m2, m3, m4, m5, m6, m7, m8⟩ := hB
  have hg1 := hG.1
  have hg2 := hG.2.1
  have e0 := hS.1
  have e1 := hS.2.1
  have litm1 : ((-1) : Int32).toInt = -1 := rfl
  have lit0 : (0 : Int32).toInt = 0 := rfl
  have lit1 : (1 : Int32).toInt = 1 := rfl
  have tn___1 : (nI σ.1).toInt = ((σ.1 : Nat) : Int) := nI_toInt (by omega)
  have tn___2_1 : (nI σ.2.1).toInt = ((σ.2.1 : Nat) : Int) := nI_toInt (by omega)
  have tn_hn : (nI hn).toInt = ((hn : Nat) : Int) := nI_toInt (by omega)
  have tn_L : (nI L).toInt = ((L : Nat) : Int) := nI_toInt (by omega)
  refine g_aload_n C 0 rfl dX7_move_0 ?_
  refine g_Vv C [] 0 7 (by omega) m0 rfl (c_X7_keeps l D kc N adr cell S Wa Bg As tx (nI hn) (nI L) at' re nu mo sh ⟨m0, m1, m2, m3, m4, m5, m6, m7, m8⟩ (by omega)) (cwV 0 C.2.2.2.2.1 gX7_move_X7_keeps rfl rfl rfl (by decide +kernel) ⟨Nat.le_of_ble_eq_true rfl, Nat.le_of_ble_eq_true rfl⟩) rfl rfl (Nat.le_of_ble_eq_true rfl) (Nat.zero_le _) (Nat.zero_le _) dX7_move_1 (fun cell1 q1 => ?_)
  obtain ⟨h_2, h_3, h_4, h_5, h_6, h_7, h_8, h_9, h_10⟩ := q1
  have hBg : MS (fill S Bg 90) σ := ms_cong hS hg1 hg2 (fun j hj => fill_in hj)
  refine g_aload_n C 0 rfl dX7_move_4 ?_
  refine g_aload_n C 0 rfl dX7_move_5 ?_
  refine g_iload_n C 1 rfl dX7_move_6 ?_
  refine g_iload_n C 2 rfl dX7_move_7 ?_
  refine g_iload_n C 3 rfl dX7_move_8 ?_
  refine g_Vi C [.int f, .int k, .int t] 0 7 (by omega) h_2 rfl (c_X7_moves l D kc N adr cell1 S Wa (fill S Bg 90) As tx (nI hn) (nI L) at' re nu mo sh σ f k t ⟨h_2, h_3, h_4, h_5, h_6, h_7, h_8, h_9, h_10⟩ (by omega) hS hG) (cwV 3 C.2.2.2.2.1 gX7_move_X7_moves rfl rfl rfl (by decide +kernel) ⟨Nat.le_of_ble_eq_true rfl, Nat.le_of_ble_eq_true rfl⟩) rfl rfl (Nat.le_of_ble_eq_true rfl) (Nat.zero_le _) (Nat.zero_le _) dX7_move_9 (fun v11 cell11 q11 => ?_)
  obtain ⟨rfl, S1, mo1, ⟨h_12, h_13, h_14, h_15, h_16, h_17, h_18, h_19, h_20⟩, hS1⟩ := q11
  refine g_Vi C [.int (moveR σ f k t)] 0 7 (by omega) h_12 rfl (c_X7_acted l D kc N adr cell11 S1 Wa (fill S Bg 90) As tx (nI hn) (nI L) at' re nu mo1 sh (moveR σ f k t) hn ⟨h_12, h_13, h_14, h_15, h_16, h_17, h_18, h_19, h_20⟩ (by omega) rfl hh4) (cwV 1 C.2.2.2.2.1 gX7_move_X7_acted rfl rfl rfl (by decide +kernel) ⟨Nat.le_of_ble_eq_true rfl, Nat.le_of_ble_eq_true rfl⟩) rfl rfl (Nat.le_of_ble_eq_true rfl) (Nat.zero_le _) (Nat.zero_le _) dX7_move_12 (fun v21 cell21 q21 => ?_)
  obtain ⟨rfl, Wa1, ⟨h_22, h_23, h_24, h_25, h_26, h_27, h_28, h_29, h_30⟩, hw1, hw2⟩ := q21
  refine g_iret C hr rfl hlk dX7_move_15 ?_
  exact ⟨rfl, mat_act ⟨h_22, h_23, h_24, h_25, h_26, h_27, h_28, h_29, h_30⟩ hS1 (move_sg hG) hBg hG hgh hH hw1 hw2 htx hh4 hL60⟩
