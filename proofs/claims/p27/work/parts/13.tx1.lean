set_option maxRecDepth 100000 in
set_option maxHeartbeats 4000000 in
theorem c_X2_length (l : Launch) (D : va_G) (kc : Nat → ClassId) (N : Nat) (adr : Nat → Nat) (cell : Nat → va_E) (t L : Nat) (sx : Int32) (q : Nat) (sg : Int32) (ch nu : Nat → Int32)  (hT : TxAt cell adr kc t L sx (nI q) sg ch nu) (hN : t + 3 ≤ N) : MI l yX2_length wsX2_length ({ frames := 0, cells := 0, slots := 0, locals := 0 }) D kc N adr cell [.ref (adr t)] (fun (w : Int32) (cell1 : Nat → va_E) => nI L = w ∧ cell = cell1) := by
  refine met_i (cc := cX2_length) (maxL := 1) (ret := (some .int)) (by decide) rfl (Nat.le_of_ble_eq_true rfl) (lv := [(0, .ref (adr t))]) rfl ?_
  intro Pg Ev Sv Mi args below Me Cd Ar C hr hlk hnm
  have in2 : ∀ w ∈ u_ws RX2 TX2 6, w ∈ wsX2_length := by decide +kernel
  have f19 := C.2.2.2.2.1 (.fieldLink RX2 19 "WordAnchors$EditText" "length" "I") (by decide +kernel)
  obtain ⟨t0, t1, t2, hL⟩ := hT
  have litm1 : ((-1) : Int32).toInt = -1 := rfl
  have lit0 : (0 : Int32).toInt = 0 := rfl
  have lit1 : (1 : Int32).toInt = 1 := rfl
  have tn_L : (nI L).toInt = ((L : Nat) : Int) := nI_toInt (by omega)
  refine g_aload_n C 0 rfl dX2_length_0 ?_
  refine g_get C t 2 2 (by omega) t0 rfl in2 (by decide) f19 (fun _ h9 => h9) rfl dX2_length_1 ?_
  refine g_iret C hr rfl hlk dX2_length_4 ?_
  exact ⟨by first | rfl | exact bI_1 (by omega) | exact bI_0 (by omega) | exact if_pos (by omega) | exact if_neg (by omega), rfl⟩
