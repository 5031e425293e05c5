set_option maxRecDepth 100000 in
set_option maxHeartbeats 4000000 in
theorem c_X2_length (l : Launch) (D : va_G) (kc : Nat → ClassId) (N : Nat) (adr : Nat → Nat) (cell : Nat → va_E) (t L : Nat) (sx : Int32) (q : Nat) (sg : Int32) (ch nu : Nat → Int32)  (hT : TxAt cell adr kc t L sx (nI q) sg ch nu) (hN : t + 3 ≤ N) : MI l yX2_length wsX2_length ({ frames := 0, cells := 0, slots := 0, locals := 0 }) D kc N adr cell [.ref (adr t)] (fun (w : Int32) (cell1 : Nat → va_E) => nI L = w ∧ cell = cell1) := by
  refine met_i (cc := cX2_length) (maxL := 1) (ret := (some .int)) (by decide) rfl (Nat.le_of_ble_eq_true rfl) (lv := [(0, .ref (adr t))]) rfl ?_
  intro Pg Ev Sv Mi args below Me Cd Ar C hr hlk hnm
  have in2 : ∀ w ∈ u_ws RX2 TX2 6, w ∈ wsX2_length := by decide +kernel
  have f19 := C.2.2.2.2.1 (.fieldLink RX2 19 "WordAnchors$EditText" "length" "I") (by decide +kernel)
  obtain ⟨t0, t1, t2, hL⟩ := hT
  have litm1 : ((-1) : Int32).toInt = -1 := rfl
  have lit0 : (0 : Int32).toInt = 0 := rfl
  have lit1 : (1 : Int32).toInt = 1 := rfl
  have tn_L : (nI L).toInt = ((L : Nat) : Int) := nI_toInt (by omega)
  refine g_aload_n C 0 rfl dX2_length_0 ?_
  refine g_get C t 2 2 (by omega) t0 rfl in2 (by decide) f19 (fun _ h9 => h9) rfl dX2_length_1 ?_
  refine g_iret C hr rfl hlk dX2_length_4 ?_
  exact ⟨by first | rfl | exact bI_1 (by omega) | exact bI_0 (by omega) | exact if_pos (by omega) | exact if_neg (by omega), rfl⟩
set_option maxRecDepth 100000 in
set_option maxHeartbeats 4000000 in
theorem c_X2_isFull (l : Launch) (D : va_G) (kc : Nat → ClassId) (N : Nat) (adr : Nat → Nat) (cell : Nat → va_E) (t L : Nat) (sx : Int32) (q : Nat) (sg : Int32) (ch nu : Nat → Int32)  (hT : TxAt cell adr kc t L sx (nI q) sg ch nu) (hN : t + 3 ≤ N) : MI l yX2_isFull wsX2_isFull ({ frames := 0, cells := 0, slots := 0, locals := 0 }) D kc N adr cell [.ref (adr t)] (fun (w : Int32) (cell1 : Nat → va_E) => bI (decide (60 ≤ L)) = w ∧ cell = cell1) := by
  refine met_i (cc := cX2_isFull) (maxL := 1) (ret := (some .boolean)) (by decide) rfl (Nat.le_of_ble_eq_true rfl) (lv := [(0, .ref (adr t))]) rfl ?_
  intro Pg Ev Sv Mi args below Me Cd Ar C hr hlk hnm
  have in2 : ∀ w ∈ u_ws RX2 TX2 6, w ∈ wsX2_isFull := by decide +kernel
  have f19 := C.2.2.2.2.1 (.fieldLink RX2 19 "WordAnchors$EditText" "length" "I") (by decide +kernel)
  have f9 := C.2.2.2.2.1 (.fieldLink RX2 9 "WordAnchors$EditText" "characters" "[C") (by decide +kernel)
  obtain ⟨t0, t1, t2, hL⟩ := hT
  have litm1 : ((-1) : Int32).toInt = -1 := rfl
  have lit0 : (0 : Int32).toInt = 0 := rfl
  have lit1 : (1 : Int32).toInt = 1 := rfl
  have lit60 : (60 : Int32).toInt = 60 := rfl
  have tn_L : (nI L).toInt = ((L : Nat) : Int) := nI_toInt (by omega)
  refine g_aload_n C 0 rfl dX2_isFull_0 ?_
  refine g_get C t 2 2 (by omega) t0 rfl in2 (by decide) f19 (fun _ h9 => h9) rfl dX2_isFull_1 ?_
  refine g_aload_n C 0 rfl dX2_isFull_4 ?_
  refine g_get C t 2 0 (by omega) t0 rfl in2 (by decide) f9 (fun _ h9 => h9) rfl dX2_isFull_5 ?_
  refine g_alen C (t + 1) 1 (by omega) t1 rfl 60 rfl dX2_isFull_8 ?_
  refine g_icmp_lt C 16 (by decide) dX2_isFull_9 (fun c9 => ?_) (fun c9 => ?_)
  · -- taken at 9
    have c9' := i_lt c9
    refine g_iconst C 0 (by decide) dX2_isFull_16 ?_
    refine g_iret C hr rfl hlk dX2_isFull_17 ?_
    exact ⟨by first | rfl | exact bI_1 (by omega) | exact bI_0 (by omega) | exact if_pos (by omega) | exact if_neg (by omega), rfl⟩
  · -- not taken at 9
    have c9' := i_nlt c9
    refine g_iconst C 1 (by decide) dX2_isFull_12 ?_
    refine g_goto C 17 (by decide) dX2_isFull_13 ?_
    refine g_iret C hr rfl hlk dX2_isFull_17 ?_
    exact ⟨by first | rfl | exact bI_1 (by omega) | exact bI_0 (by omega) | exact if_pos (by omega) | exact if_neg (by omega), rfl⟩
set_option maxRecDepth 100000 in
set_option maxHeartbeats 4000000 in
theorem c_X2_hasMore (l : Launch) (D : va_G) (kc : Nat → ClassId) (N : Nat) (adr : Nat → Nat) (cell : Nat → va_E) (t L : Nat) (sx : Int32) (q : Nat) (sg : Int32) (ch nu : Nat → Int32)  (hT : TxAt cell adr kc t L sx (nI q) sg ch nu) (hN : t + 3 ≤ N) (hq : q < 100) : MI l yX2_hasMore wsX2_hasMore ({ frames := 0, cells := 0, slots := 0, locals := 0 }) D kc N adr cell [.ref (adr t)] (fun (w : Int32) (cell1 : Nat → va_E) => bI (decide (q < L)) = w ∧ cell = cell1) := by
  refine met_i (cc := cX2_hasMore) (maxL := 1) (ret := (some .boolean)) (by decide) rfl (Nat.le_of_ble_eq_true rfl) (lv := [(0, .ref (adr t))]) rfl ?_
  intro Pg Ev Sv Mi args below Me Cd Ar C hr hlk hnm
  have in2 : ∀ w ∈ u_ws RX2 TX2 6, w ∈ wsX2_hasMore := by decide +kernel
  have f23 := C.2.2.2.2.1 (.fieldLink RX2 23 "WordAnchors$EditText" "next" "I") (by decide +kernel)
  have f19 := C.2.2.2.2.1 (.fieldLink RX2 19 "WordAnchors$EditText" "length" "I") (by decide +kernel)
  obtain ⟨t0, t1, t2, hL⟩ := hT
  have litm1 : ((-1) : Int32).toInt = -1 := rfl
  have lit0 : (0 : Int32).toInt = 0 := rfl
  have lit1 : (1 : Int32).toInt = 1 := rfl
  have tn_L : (nI L).toInt = ((L : Nat) : Int) := nI_toInt (by omega)
  have tn_q : (nI q).toInt = ((q : Nat) : Int) := nI_toInt (by omega)
  refine g_aload_n C 0 rfl dX2_hasMore_0 ?_
  refine g_get C t 2 4 (by omega) t0 rfl in2 (by decide) f23 (fun _ h9 => h9) rfl dX2_hasMore_1 ?_
  refine g_aload_n C 0 rfl dX2_hasMore_4 ?_
  refine g_get C t 2 2 (by omega) t0 rfl in2 (by decide) f19 (fun _ h9 => h9) rfl dX2_hasMore_5 ?_
  refine g_icmp_ge C 15 (by decide) dX2_hasMore_8 (fun c8 => ?_) (fun c8 => ?_)
  · -- taken at 8
    have c8' := i_le c8
    refine g_iconst C 0 (by decide) dX2_hasMore_15 ?_
    refine g_iret C hr rfl hlk dX2_hasMore_16 ?_
    exact ⟨by first | rfl | exact bI_1 (by omega) | exact bI_0 (by omega) | exact if_pos (by omega) | exact if_neg (by omega), rfl⟩
  · -- not taken at 8
    have c8' := i_nle c8
    refine g_iconst C 1 (by decide) dX2_hasMore_11 ?_
    refine g_goto C 16 (by decide) dX2_hasMore_12 ?_
    refine g_iret C hr rfl hlk dX2_hasMore_16 ?_
    exact ⟨by first | rfl | exact bI_1 (by omega) | exact bI_0 (by omega) | exact if_pos (by omega) | exact if_neg (by omega), rfl⟩
set_option maxRecDepth 100000 in
set_option maxHeartbeats 4000000 in
theorem c_X2_editStart (l : Launch) (D : va_G) (kc : Nat → ClassId) (N : Nat) (adr : Nat → Nat) (cell : Nat → va_E) (t L : Nat) (sx : Int32) (q : Nat) (sg : Int32) (ch nu : Nat → Int32)  (hT : TxAt cell adr kc t L sx (nI q) sg ch nu) (hN : t + 3 ≤ N) : MI l yX2_editStart wsX2_editStart ({ frames := 0, cells := 0, slots := 0, locals := 0 }) D kc N adr cell [.ref (adr t)] (fun (w : Int32) (cell1 : Nat → va_E) => sx = w ∧ cell = cell1) := by
  refine met_i (cc := cX2_editStart) (maxL := 1) (ret := (some .int)) (by decide) rfl (Nat.le_of_ble_eq_true rfl) (lv := [(0, .ref (adr t))]) rfl ?_
  intro Pg Ev Sv Mi args below Me Cd Ar C hr hlk hnm
  have in2 : ∀ w ∈ u_ws RX2 TX2 6, w ∈ wsX2_editStart := by decide +kernel
  have f26 := C.2.2.2.2.1 (.fieldLink RX2 26 "WordAnchors$EditText" "start" "I") (by decide +kernel)
  obtain ⟨t0, t1, t2, hL⟩ := hT
  have litm1 : ((-1) : Int32).toInt = -1 := rfl
  have lit0 : (0 : Int32).toInt = 0 := rfl
  have lit1 : (1 : Int32).toInt = 1 := rfl
  have tn_L : (nI L).toInt = ((L : Nat) : Int) := nI_toInt (by omega)
  refine g_aload_n C 0 rfl dX2_editStart_0 ?_
  refine g_get C t 2 3 (by omega) t0 rfl in2 (by decide) f26 (fun _ h9 => h9) rfl dX2_editStart_1 ?_
  refine g_iret C hr rfl hlk dX2_editStart_4 ?_
  exact ⟨by first | rfl | exact bI_1 (by omega) | exact bI_0 (by omega) | exact if_pos (by omega) | exact if_neg (by omega), rfl⟩
set_option maxRecDepth 100000 in
set_option maxHeartbeats 4000000 in
theorem c_X2_sign (l : Launch) (D : va_G) (kc : Nat → ClassId) (N : Nat) (adr : Nat → Nat) (cell : Nat → va_E) (t L : Nat) (sx : Int32) (q : Nat) (sg : Int32) (ch nu : Nat → Int32)  (hT : TxAt cell adr kc t L sx (nI q) sg ch nu) (hN : t + 3 ≤ N) (hsg : isC sg) : MI l yX2_sign wsX2_sign ({ frames := 0, cells := 0, slots := 0, locals := 0 }) D kc N adr cell [.ref (adr t)] (fun (w : Int32) (cell1 : Nat → va_E) => sg = w ∧ cell = cell1) := by
  refine met_i (cc := cX2_sign) (maxL := 1) (ret := (some .char)) (by decide) rfl (Nat.le_of_ble_eq_true rfl) (lv := [(0, .ref (adr t))]) rfl ?_
  intro Pg Ev Sv Mi args below Me Cd Ar C hr hlk hnm
  have in2 : ∀ w ∈ u_ws RX2 TX2 6, w ∈ wsX2_sign := by decide +kernel
  have f29 := C.2.2.2.2.1 (.fieldLink RX2 29 "WordAnchors$EditText" "sign" "C") (by decide +kernel)
  obtain ⟨t0, t1, t2, hL⟩ := hT
  have litm1 : ((-1) : Int32).toInt = -1 := rfl
  have lit0 : (0 : Int32).toInt = 0 := rfl
  have lit1 : (1 : Int32).toInt = 1 := rfl
  have tn_L : (nI L).toInt = ((L : Nat) : Int) := nI_toInt (by omega)
  refine g_aload_n C 0 rfl dX2_sign_0 ?_
  refine g_get C t 2 5 (by omega) t0 rfl in2 (by decide) f29 (fun _ h9 => h9) rfl dX2_sign_1 ?_
  refine g_iret C hr (isC_n hsg) hlk dX2_sign_4 ?_
  exact ⟨by first | rfl | exact bI_1 (by omega) | exact bI_0 (by omega) | exact if_pos (by omega) | exact if_neg (by omega), rfl⟩
set_option maxRecDepth 100000 in
set_option maxHeartbeats 4000000 in
theorem c_X2_number (l : Launch) (D : va_G) (kc : Nat → ClassId) (N : Nat) (adr : Nat → Nat) (cell : Nat → va_E) (t L : Nat) (sx : Int32) (q : Nat) (sg : Int32) (ch nu : Nat → Int32) (x : Int32) (hT : TxAt cell adr kc t L sx (nI q) sg ch nu) (hN : t + 3 ≤ N) : MI l yX2_number wsX2_number ({ frames := 0, cells := 0, slots := 0, locals := 0 }) D kc N adr cell [.ref (adr t), .int x] (fun (w : Int32) (cell1 : Nat → va_E) => (if 0 ≤ x.toInt ∧ x.toInt < 3 then nu x.toNatClampNeg else 0) = w ∧ cell = cell1) := by
  refine met_i (cc := cX2_number) (maxL := 2) (ret := (some .int)) (by decide) rfl (Nat.le_of_ble_eq_true rfl) (lv := [(0, .ref (adr t)), (1, .int x)]) rfl ?_
  intro Pg Ev Sv Mi args below Me Cd Ar C hr hlk hnm
  have in2 : ∀ w ∈ u_ws RX2 TX2 6, w ∈ wsX2_number := by decide +kernel
  have f15 := C.2.2.2.2.1 (.fieldLink RX2 15 "WordAnchors$EditText" "numbers" "[I") (by decide +kernel)
  obtain ⟨t0, t1, t2, hL⟩ := hT
  have litm1 : ((-1) : Int32).toInt = -1 := rfl
  have lit0 : (0 : Int32).toInt = 0 := rfl
  have lit1 : (1 : Int32).toInt = 1 := rfl
  have lit3 : (3 : Int32).toInt = 3 := rfl
  have tn_L : (nI L).toInt = ((L : Nat) : Int) := nI_toInt (by omega)
  refine g_iload_n C 1 rfl dX2_number_0 ?_
  refine g_if_lt C 22 (by decide) dX2_number_1 (fun c1 => ?_) (fun c1 => ?_)
  · -- taken at 1
    have c1' := i_lt c1
    refine g_iconst C 0 (by decide) dX2_number_22 ?_
    refine g_iret C hr rfl hlk dX2_number_23 ?_
    exact ⟨by first | rfl | exact bI_1 (by omega) | exact bI_0 (by omega) | exact if_pos (by omega) | exact if_neg (by omega), rfl⟩
  · -- not taken at 1
    have c1' := i_nlt c1
    refine g_iload_n C 1 rfl dX2_number_4 ?_
    refine g_aload_n C 0 rfl dX2_number_5 ?_
    refine g_get C t 2 1 (by omega) t0 rfl in2 (by decide) f15 (fun _ h9 => h9) rfl dX2_number_6 ?_
    refine g_alen C (t + 2) 0 (by omega) t2 rfl 3 rfl dX2_number_9 ?_
    refine g_icmp_ge C 22 (by decide) dX2_number_10 (fun c10 => ?_) (fun c10 => ?_)
    · -- taken at 10
      have c10' := i_le c10
      refine g_iconst C 0 (by decide) dX2_number_22 ?_
      refine g_iret C hr rfl hlk dX2_number_23 ?_
      exact ⟨by first | rfl | exact bI_1 (by omega) | exact bI_0 (by omega) | exact if_pos (by omega) | exact if_neg (by omega), rfl⟩
    · -- not taken at 10
      have c10' := i_nle c10
      refine g_aload_n C 0 rfl dX2_number_13 ?_
      refine g_get C t 2 1 (by omega) t0 rfl in2 (by decide) f15 (fun _ h9 => h9) rfl dX2_number_14 ?_
      refine g_iload_n C 1 rfl dX2_number_17 ?_
      refine g_iald C (t + 2) (by omega) t2 (vp_in_iff.mpr (by omega)) dX2_number_18 ?_
      refine g_goto C 23 (by decide) dX2_number_19 ?_
      refine g_iret C hr rfl hlk dX2_number_23 ?_
      exact ⟨by first | rfl | exact bI_1 (by omega) | exact bI_0 (by omega) | exact if_pos (by omega) | exact if_neg (by omega), rfl⟩
set_option maxRecDepth 100000 in
set_option maxHeartbeats 4000000 in
theorem c_X2_nextCharacter (l : Launch) (D : va_G) (kc : Nat → ClassId) (N : Nat) (adr : Nat → Nat) (cell : Nat → va_E) (t L : Nat) (sx : Int32) (q : Nat) (sg : Int32) (ch nu : Nat → Int32)  (hT : TxAt cell adr kc t L sx (nI q) sg ch nu) (hN : t + 3 ≤ N) (hch : ∀ j : Nat, j < L → isC (ch j)) (hq : q < 100) : MI l yX2_nextCharacter wsX2_nextCharacter ({ frames := 0, cells := 0, slots := 0, locals := 0 }) D kc N adr cell [.ref (adr t)] (fun (w : Int32) (cell1 : Nat → va_E) => chF L ch q = w ∧ cell = cell1) := by
  refine met_i (cc := cX2_nextCharacter) (maxL := 1) (ret := (some .char)) (by decide) rfl (Nat.le_of_ble_eq_true rfl) (lv := [(0, .ref (adr t))]) rfl ?_
  intro Pg Ev Sv Mi args below Me Cd Ar C hr hlk hnm
  have in2 : ∀ w ∈ u_ws RX2 TX2 6, w ∈ wsX2_nextCharacter := by decide +kernel
  have f23 := C.2.2.2.2.1 (.fieldLink RX2 23 "WordAnchors$EditText" "next" "I") (by decide +kernel)
  have f19 := C.2.2.2.2.1 (.fieldLink RX2 19 "WordAnchors$EditText" "length" "I") (by decide +kernel)
  have f9 := C.2.2.2.2.1 (.fieldLink RX2 9 "WordAnchors$EditText" "characters" "[C") (by decide +kernel)
  obtain ⟨t0, t1, t2, hL⟩ := hT
  have litm1 : ((-1) : Int32).toInt = -1 := rfl
  have lit0 : (0 : Int32).toInt = 0 := rfl
  have lit1 : (1 : Int32).toInt = 1 := rfl
  have lit60 : (60 : Int32).toInt = 60 := rfl
  have tn_L : (nI L).toInt = ((L : Nat) : Int) := nI_toInt (by omega)
  have tn_q : (nI q).toInt = ((q : Nat) : Int) := nI_toInt (by omega)
  refine g_aload_n C 0 rfl dX2_nextCharacter_0 ?_
  refine g_get C t 2 4 (by omega) t0 rfl in2 (by decide) f23 (fun _ h9 => h9) rfl dX2_nextCharacter_1 ?_
  refine g_if_lt C 42 (by decide) dX2_nextCharacter_4 (fun c4 => ?_) (fun c4 => ?_)
  · -- taken at 4
    have c4' := i_lt c4
    refine g_iconst C 0 (by decide) dX2_nextCharacter_42 ?_
    refine g_iret C hr rfl hlk dX2_nextCharacter_43 ?_
    exact ⟨by first | exact if_pos (by omega) | exact if_neg (by omega), rfl⟩
  · -- not taken at 4
    have c4' := i_nlt c4
    refine g_aload_n C 0 rfl dX2_nextCharacter_7 ?_
    refine g_get C t 2 4 (by omega) t0 rfl in2 (by decide) f23 (fun _ h9 => h9) rfl dX2_nextCharacter_8 ?_
    refine g_aload_n C 0 rfl dX2_nextCharacter_11 ?_
    refine g_get C t 2 2 (by omega) t0 rfl in2 (by decide) f19 (fun _ h9 => h9) rfl dX2_nextCharacter_12 ?_
    refine g_icmp_ge C 42 (by decide) dX2_nextCharacter_15 (fun c15 => ?_) (fun c15 => ?_)
    · -- taken at 15
      have c15' := i_le c15
      refine g_iconst C 0 (by decide) dX2_nextCharacter_42 ?_
      refine g_iret C hr rfl hlk dX2_nextCharacter_43 ?_
      exact ⟨by first | exact if_pos (by omega) | exact if_neg (by omega), rfl⟩
    · -- not taken at 15
      have c15' := i_nle c15
      refine g_aload_n C 0 rfl dX2_nextCharacter_18 ?_
      refine g_get C t 2 4 (by omega) t0 rfl in2 (by decide) f23 (fun _ h9 => h9) rfl dX2_nextCharacter_19 ?_
      refine g_aload_n C 0 rfl dX2_nextCharacter_22 ?_
      refine g_get C t 2 0 (by omega) t0 rfl in2 (by decide) f9 (fun _ h9 => h9) rfl dX2_nextCharacter_23 ?_
      refine g_alen C (t + 1) 1 (by omega) t1 rfl 60 rfl dX2_nextCharacter_26 ?_
      refine g_icmp_ge C 42 (by decide) dX2_nextCharacter_27 (fun c27 => ?_) (fun c27 => ?_)
      · -- taken at 27
        have c27' := i_le c27
        exfalso; omega
      · -- not taken at 27
        have c27' := i_nle c27
        refine g_aload_n C 0 rfl dX2_nextCharacter_30 ?_
        refine g_get C t 2 0 (by omega) t0 rfl in2 (by decide) f9 (fun _ h9 => h9) rfl dX2_nextCharacter_31 ?_
        refine g_aload_n C 0 rfl dX2_nextCharacter_34 ?_
        refine g_get C t 2 4 (by omega) t0 rfl in2 (by decide) f23 (fun _ h9 => h9) rfl dX2_nextCharacter_35 ?_
        refine g_cald C (t + 1) (by omega) t1 (vp_in_nI (by omega) (by omega)) dX2_nextCharacter_38 ?_
        refine g_eqst (show ([.int (ch (nI q).toNatClampNeg)] : List Value) = ([.int (ch q)] : List Value) from by rw [nI_clamp (by omega)]) ?_
        refine g_goto C 43 (by decide) dX2_nextCharacter_39 ?_
        refine g_iret C hr (isC_n (hch q (by omega))) hlk dX2_nextCharacter_43 ?_
        exact ⟨by first | exact if_pos (by omega) | exact if_neg (by omega), rfl⟩
set_option maxRecDepth 100000 in
set_option maxHeartbeats 4000000 in
theorem c_X2_isDigit (l : Launch) (D : va_G) (kc : Nat → ClassId) (N : Nat) (adr : Nat → Nat) (cell : Nat → va_E) (x : Int32)  : MI l yX2_isDigit wsX2_isDigit ({ frames := 0, cells := 0, slots := 0, locals := 0 }) D kc N adr cell [.int x] (fun (w : Int32) (cell1 : Nat → va_E) => bI (decide (isD x)) = w ∧ cell = cell1) := by
  refine met_i (cc := cX2_isDigit) (maxL := 1) (ret := (some .boolean)) (by decide) rfl (Nat.le_of_ble_eq_true rfl) (lv := [(0, .int x)]) rfl ?_
  intro Pg Ev Sv Mi args below Me Cd Ar C hr hlk hnm
  have litm1 : ((-1) : Int32).toInt = -1 := rfl
  have lit0 : (0 : Int32).toInt = 0 := rfl
  have lit1 : (1 : Int32).toInt = 1 := rfl
  have lit48 : (48 : Int32).toInt = 48 := rfl
  have lit57 : (57 : Int32).toInt = 57 := rfl
  refine g_iload_n C 0 rfl dX2_isDigit_0 ?_
  refine g_bipush C 48 (by decide) dX2_isDigit_1 ?_
  refine g_icmp_lt C 16 (by decide) dX2_isDigit_3 (fun c3 => ?_) (fun c3 => ?_)
  · -- taken at 3
    have c3' := i_lt c3
    refine g_iconst C 0 (by decide) dX2_isDigit_16 ?_
    refine g_iret C hr rfl hlk dX2_isDigit_17 ?_
    exact ⟨by first | rfl | exact bI_1 (by omega) | exact bI_0 (by omega) | exact if_pos (by omega) | exact if_neg (by omega), rfl⟩
  · -- not taken at 3
    have c3' := i_nlt c3
    refine g_iload_n C 0 rfl dX2_isDigit_6 ?_
    refine g_bipush C 57 (by decide) dX2_isDigit_7 ?_
    refine g_icmp_gt C 16 (by decide) dX2_isDigit_9 (fun c9 => ?_) (fun c9 => ?_)
    · -- taken at 9
      have c9' := i_lt c9
      refine g_iconst C 0 (by decide) dX2_isDigit_16 ?_
      refine g_iret C hr rfl hlk dX2_isDigit_17 ?_
      exact ⟨by first | rfl | exact bI_1 (by omega) | exact bI_0 (by omega) | exact if_pos (by omega) | exact if_neg (by omega), rfl⟩
    · -- not taken at 9
      have c9' := i_nlt c9
      refine g_iconst C 1 (by decide) dX2_isDigit_12 ?_
      refine g_goto C 17 (by decide) dX2_isDigit_13 ?_
      refine g_iret C hr rfl hlk dX2_isDigit_17 ?_
      exact ⟨by first | rfl | exact bI_1 (by omega) | exact bI_0 (by omega) | exact if_pos (by omega) | exact if_neg (by omega), rfl⟩
set_option maxRecDepth 100000 in
set_option maxHeartbeats 4000000 in
theorem c_X2_numbersBehind (l : Launch) (D : va_G) (kc : Nat → ClassId) (N : Nat) (adr : Nat → Nat) (cell : Nat → va_E) (x : Int32)  : MI l yX2_numbersBehind wsX2_numbersBehind ({ frames := 0, cells := 0, slots := 0, locals := 0 }) D kc N adr cell [.int x] (fun (w : Int32) (cell1 : Nat → va_E) => nI (dueN x) = w ∧ cell = cell1) := by
  refine met_i (cc := cX2_numbersBehind) (maxL := 1) (ret := (some .int)) (by decide) rfl (Nat.le_of_ble_eq_true rfl) (lv := [(0, .int x)]) rfl ?_
  intro Pg Ev Sv Mi args below Me Cd Ar C hr hlk hnm
  have litm1 : ((-1) : Int32).toInt = -1 := rfl
  have lit0 : (0 : Int32).toInt = 0 := rfl
  have lit1 : (1 : Int32).toInt = 1 := rfl
  have lit2 : (2 : Int32).toInt = 2 := rfl
  have lit3 : (3 : Int32).toInt = 3 := rfl
  refine g_iload_n C 0 rfl dX2_numbersBehind_0 ?_
  by_cases c1_43 : x = 43
  · have c1' := i_eq c1_43
    refine g_lookup C 46 (by decide) (by rw [c1_43] <;> rfl) (by decide) dX2_numbersBehind_1 ?_
    refine g_iconst C 2 (by decide) dX2_numbersBehind_46 ?_
    refine g_iret C hr rfl hlk dX2_numbersBehind_47 ?_
    exact ⟨by unfold dueN; rw [if_pos c1_43]; rfl, rfl⟩
  have c1n43 := i_ne c1_43
  by_cases c1_45 : x = 45
  · have c1' := i_eq c1_45
    refine g_lookup C 44 (by decide) (by rw [c1_45] <;> rfl) (by decide) dX2_numbersBehind_1 ?_
    refine g_iconst C 1 (by decide) dX2_numbersBehind_44 ?_
    refine g_iret C hr rfl hlk dX2_numbersBehind_45 ?_
    exact ⟨by unfold dueN; rw [if_neg c1_43, if_pos c1_45]; rfl, rfl⟩
  have c1n45 := i_ne c1_45
  by_cases c1_61 : x = 61
  · have c1' := i_eq c1_61
    refine g_lookup C 46 (by decide) (by rw [c1_61] <;> rfl) (by decide) dX2_numbersBehind_1 ?_
    refine g_iconst C 2 (by decide) dX2_numbersBehind_46 ?_
    refine g_iret C hr rfl hlk dX2_numbersBehind_47 ?_
    exact ⟨by unfold dueN; rw [if_neg c1_43, if_neg c1_45, if_pos c1_61]; rfl, rfl⟩
  have c1n61 := i_ne c1_61
  by_cases c1_62 : x = 62
  · have c1' := i_eq c1_62
    refine g_lookup C 48 (by decide) (by rw [c1_62] <;> rfl) (by decide) dX2_numbersBehind_1 ?_
    refine g_iconst C 3 (by decide) dX2_numbersBehind_48 ?_
    refine g_iret C hr rfl hlk dX2_numbersBehind_49 ?_
    exact ⟨by unfold dueN; rw [if_neg c1_43, if_neg c1_45, if_neg c1_61, if_pos c1_62]; rfl, rfl⟩
  have c1n62 := i_ne c1_62
  refine g_lookup C 50 (by decide) (by show Op.lookupswitch.offset [(43, 45), (45, 43), (61, 45), (62, 47)] 49 _ = 49; rw [lv_osw c1_43 (by decide)]; rw [lv_osw c1_45 (by decide)]; rw [lv_osw c1_61 (by decide)]; rw [lv_osw c1_62 (by decide)]; rfl) (by decide) dX2_numbersBehind_1 ?_
  refine g_iconst C 0 (by decide) dX2_numbersBehind_50 ?_
  refine g_iret C hr rfl hlk dX2_numbersBehind_51 ?_
  exact ⟨by unfold dueN; rw [if_neg c1_43, if_neg c1_45, if_neg c1_61, if_neg c1_62]; rfl, rfl⟩
set_option maxRecDepth 100000 in
set_option maxHeartbeats 4000000 in
theorem c_X2_empty (l : Launch) (D : va_G) (kc : Nat → ClassId) (N : Nat) (adr : Nat → Nat) (cell : Nat → va_E) (t L : Nat) (sx : Int32) (q : Nat) (sg : Int32) (ch nu : Nat → Int32)  (hT : TxAt cell adr kc t L sx (nI q) sg ch nu) (hN : t + 3 ≤ N) : MV l yX2_empty wsX2_empty ({ frames := 0, cells := 0, slots := 0, locals := 0 }) D kc N adr cell [.ref (adr t)] (fun (cell1 : Nat → va_E) => TxAt cell1 adr kc t 0 sx (nI q) sg ch nu ∧ ∀ j : Nat, (j < t ∨ t + 3 ≤ j) → cell1 j = cell j) := by
  refine met_v (cc := cX2_empty) (maxL := 1) (ret := none) (by decide) rfl (Nat.le_of_ble_eq_true rfl) (lv := [(0, .ref (adr t))]) rfl ?_
  intro Pg Ev Sv Mi args below Me Cd Ar C hr hlk hnm
  have in2 : ∀ w ∈ u_ws RX2 TX2 6, w ∈ wsX2_empty := by decide +kernel
  have f19 := C.2.2.2.2.1 (.fieldLink RX2 19 "WordAnchors$EditText" "length" "I") (by decide +kernel)
  obtain ⟨t0, t1, t2, hL⟩ := hT
  have litm1 : ((-1) : Int32).toInt = -1 := rfl
  have lit0 : (0 : Int32).toInt = 0 := rfl
  have lit1 : (1 : Int32).toInt = 1 := rfl
  have tn_L : (nI L).toInt = ((L : Nat) : Int) := nI_toInt (by omega)
  refine g_aload_n C 0 rfl dX2_empty_0 ?_
  refine g_iconst C 0 (by decide) dX2_empty_1 ?_
  refine g_put C t 2 2 (by omega) t0 rfl in2 tyX2 tyX2_ok nmX2 (by decide) f19 (fun _ h9 => h9) rfl (ty := .int) (by decide +kernel) rfl rfl (Nat.le_of_ble_eq_true rfl) dX2_empty_2 ?_
  refine g_cell (fun cell1 ec1 => ?_)
  have h_2 : cell1 t = .inr (2, [.ref (adr (t + 1)), .ref (adr (t + 2)), .int 0, .int sx, .int (nI q), .int sg]) := by rw [ec1]; exact va_up_self _ _ _
  have h_3 : cell1 (t + 1) = .inl (kc 1, 60, .inl ch) := by rw [ec1, va_up_ne _ _ (by omega)]; exact t1
  have h_4 : cell1 (t + 2) = .inl (kc 0, 3, .inl nu) := by rw [ec1, va_up_ne _ _ (by omega)]; exact t2
  have fr_5 : ∀ j : Nat, (j < t ∨ t + 3 ≤ j) → cell1 j = cell j := fun j hj => by rw [ec1, va_up_ne _ _ (by omega)]
  refine g_vret C hr hlk dX2_empty_5 ?_
  exact ⟨⟨h_2, h_3, h_4, by omega⟩, fr_5⟩
set_option maxRecDepth 100000 in
set_option maxHeartbeats 4000000 in
theorem c_X2_rewind (l : Launch) (D : va_G) (kc : Nat → ClassId) (N : Nat) (adr : Nat → Nat) (cell : Nat → va_E) (t L : Nat) (sx : Int32) (q : Nat) (sg : Int32) (ch nu : Nat → Int32)  (hT : TxAt cell adr kc t L sx (nI q) sg ch nu) (hN : t + 3 ≤ N) : MV l yX2_rewind wsX2_rewind ({ frames := 0, cells := 0, slots := 0, locals := 0 }) D kc N adr cell [.ref (adr t)] (fun (cell1 : Nat → va_E) => TxAt cell1 adr kc t L sx (nI 0) sg ch nu ∧ ∀ j : Nat, (j < t ∨ t + 3 ≤ j) → cell1 j = cell j) := by
  refine met_v (cc := cX2_rewind) (maxL := 1) (ret := none) (by decide) rfl (Nat.le_of_ble_eq_true rfl) (lv := [(0, .ref (adr t))]) rfl ?_
  intro Pg Ev Sv Mi args below Me Cd Ar C hr hlk hnm
  have in2 : ∀ w ∈ u_ws RX2 TX2 6, w ∈ wsX2_rewind := by decide +kernel
  have f23 := C.2.2.2.2.1 (.fieldLink RX2 23 "WordAnchors$EditText" "next" "I") (by decide +kernel)
  obtain ⟨t0, t1, t2, hL⟩ := hT
  have litm1 : ((-1) : Int32).toInt = -1 := rfl
  have lit0 : (0 : Int32).toInt = 0 := rfl
  have lit1 : (1 : Int32).toInt = 1 := rfl
  have tn_L : (nI L).toInt = ((L : Nat) : Int) := nI_toInt (by omega)
  refine g_aload_n C 0 rfl dX2_rewind_0 ?_
  refine g_iconst C 0 (by decide) dX2_rewind_1 ?_
  refine g_put C t 2 4 (by omega) t0 rfl in2 tyX2 tyX2_ok nmX2 (by decide) f23 (fun _ h9 => h9) rfl (ty := .int) (by decide +kernel) rfl rfl (Nat.le_of_ble_eq_true rfl) dX2_rewind_2 ?_
  refine g_cell (fun cell1 ec1 => ?_)
  have h_2 : cell1 t = .inr (2, [.ref (adr (t + 1)), .ref (adr (t + 2)), .int (nI L), .int sx, .int 0, .int sg]) := by rw [ec1]; exact va_up_self _ _ _
  have h_3 : cell1 (t + 1) = .inl (kc 1, 60, .inl ch) := by rw [ec1, va_up_ne _ _ (by omega)]; exact t1
  have h_4 : cell1 (t + 2) = .inl (kc 0, 3, .inl nu) := by rw [ec1, va_up_ne _ _ (by omega)]; exact t2
  have fr_5 : ∀ j : Nat, (j < t ∨ t + 3 ≤ j) → cell1 j = cell j := fun j hj => by rw [ec1, va_up_ne _ _ (by omega)]
  refine g_vret C hr hlk dX2_rewind_5 ?_
  exact ⟨⟨h_2, h_3, h_4, by omega⟩, fr_5⟩
set_option maxRecDepth 100000 in
set_option maxHeartbeats 4000000 in
theorem c_X2_append (l : Launch) (D : va_G) (kc : Nat → ClassId) (N : Nat) (adr : Nat → Nat) (cell : Nat → va_E) (t L : Nat) (sx : Int32) (q : Nat) (sg : Int32) (ch nu : Nat → Int32) (x : Int32) (hT : TxAt cell adr kc t L sx (nI q) sg ch nu) (hN : t + 3 ≤ N) (hx : isC x) (hq : L < 60) : MV l yX2_append wsX2_append ({ frames := 0, cells := 0, slots := 0, locals := 0 }) D kc N adr cell [.ref (adr t), .int x] (fun (cell1 : Nat → va_E) => TxAt cell1 adr kc t (L + 1) sx (nI q) sg (upd ch L x) nu ∧ ∀ j : Nat, (j < t ∨ t + 3 ≤ j) → cell1 j = cell j) := by
  refine met_v (cc := cX2_append) (maxL := 2) (ret := none) (by decide) rfl (Nat.le_of_ble_eq_true rfl) (lv := [(0, .ref (adr t)), (1, .int x)]) rfl ?_
  intro Pg Ev Sv Mi args below Me Cd Ar C hr hlk hnm
  have in2 : ∀ w ∈ u_ws RX2 TX2 6, w ∈ wsX2_append := by decide +kernel
  have f19 := C.2.2.2.2.1 (.fieldLink RX2 19 "WordAnchors$EditText" "length" "I") (by decide +kernel)
  have f9 := C.2.2.2.2.1 (.fieldLink RX2 9 "WordAnchors$EditText" "characters" "[C") (by decide +kernel)
  obtain ⟨t0, t1, t2, hL⟩ := hT
  have litm1 : ((-1) : Int32).toInt = -1 := rfl
  have lit0 : (0 : Int32).toInt = 0 := rfl
  have lit1 : (1 : Int32).toInt = 1 := rfl
  have lit60 : (60 : Int32).toInt = 60 := rfl
  have tn_L : (nI L).toInt = ((L : Nat) : Int) := nI_toInt (by omega)
  refine g_aload_n C 0 rfl dX2_append_0 ?_
  refine g_get C t 2 2 (by omega) t0 rfl in2 (by decide) f19 (fun _ h9 => h9) rfl dX2_append_1 ?_
  refine g_if_lt C 39 (by decide) dX2_append_4 (fun c4 => ?_) (fun c4 => ?_)
  · -- taken at 4
    have c4' := i_lt c4
    exfalso; omega
  · -- not taken at 4
    have c4' := i_nlt c4
    refine g_aload_n C 0 rfl dX2_append_7 ?_
    refine g_get C t 2 2 (by omega) t0 rfl in2 (by decide) f19 (fun _ h9 => h9) rfl dX2_append_8 ?_
    refine g_aload_n C 0 rfl dX2_append_11 ?_
    refine g_get C t 2 0 (by omega) t0 rfl in2 (by decide) f9 (fun _ h9 => h9) rfl dX2_append_12 ?_
    refine g_alen C (t + 1) 1 (by omega) t1 rfl 60 rfl dX2_append_15 ?_
    refine g_icmp_ge C 39 (by decide) dX2_append_16 (fun c16 => ?_) (fun c16 => ?_)
    · -- taken at 16
      have c16' := i_le c16
      exfalso; omega
    · -- not taken at 16
      have c16' := i_nle c16
      refine g_aload_n C 0 rfl dX2_append_19 ?_
      refine g_get C t 2 0 (by omega) t0 rfl in2 (by decide) f9 (fun _ h9 => h9) rfl dX2_append_20 ?_
      refine g_aload_n C 0 rfl dX2_append_23 ?_
      refine g_get C t 2 2 (by omega) t0 rfl in2 (by decide) f19 (fun _ h9 => h9) rfl dX2_append_24 ?_
      refine g_iload_n C 1 rfl dX2_append_27 ?_
      refine g_cast C (t + 1) (by omega) t1 (vp_in_nI (by omega) (by omega)) dX2_append_28 ?_
      refine g_cell (fun cell1 ec1 => ?_)
      have h_2 : cell1 t = .inr (2, [.ref (adr (t + 1)), .ref (adr (t + 2)), .int (nI L), .int sx, .int (nI q), .int sg]) := by rw [ec1, va_up_ne _ _ (by omega)]; exact t0
      have h_3 : cell1 (t + 1) = .inl (kc 1, 60, .inl (upd ch (nI L).toNatClampNeg (vp_nar .char x))) := by rw [ec1]; exact va_up_self _ _ _
      have h_4 : cell1 (t + 2) = .inl (kc 0, 3, .inl nu) := by rw [ec1, va_up_ne _ _ (by omega)]; exact t2
      have fr_5 : ∀ j : Nat, (j < t ∨ t + 3 ≤ j) → cell1 j = cell j := fun j hj => by rw [ec1, va_up_ne _ _ (by omega)]
      have h_6 : cell1 (t + 1) = .inl (kc 1, 60, .inl (upd ch L x)) := by rw [h_3, nI_clamp (by omega), isC_p hx]
      refine g_aload_n C 0 rfl dX2_append_29 ?_
      refine g_dup C rfl dX2_append_30 ?_
      refine g_get C t 2 2 (by omega) h_2 rfl in2 (by decide) f19 (fun _ h9 => h9) rfl dX2_append_31 ?_
      refine g_iconst C 1 (by decide) dX2_append_34 ?_
      refine g_iadd C dX2_append_35 ?_
      refine g_eqst (show ([.int ((nI L) + 1), .ref (adr t)] : List Value) = ([.int (nI (L + 1)), .ref (adr t)] : List Value) from by rw [nI_1]) ?_
      refine g_put C t 2 2 (by omega) h_2 rfl in2 tyX2 tyX2_ok nmX2 (by decide) f19 (fun _ h9 => h9) rfl (ty := .int) (by decide +kernel) rfl rfl (Nat.le_of_ble_eq_true rfl) dX2_append_36 ?_
      refine g_cell (fun cell8 ec8 => ?_)
      have h_9 : cell8 t = .inr (2, [.ref (adr (t + 1)), .ref (adr (t + 2)), .int (nI (L + 1)), .int sx, .int (nI q), .int sg]) := by rw [ec8]; exact va_up_self _ _ _
      have h_10 : cell8 (t + 1) = .inl (kc 1, 60, .inl (upd ch L x)) := by rw [ec8, va_up_ne _ _ (by omega)]; exact h_6
      have h_11 : cell8 (t + 2) = .inl (kc 0, 3, .inl nu) := by rw [ec8, va_up_ne _ _ (by omega)]; exact h_4
      have fr_12 : ∀ j : Nat, (j < t ∨ t + 3 ≤ j) → cell8 j = cell j := fun j hj => by rw [ec8, va_up_ne _ _ (by omega)]; exact fr_5 j hj
      refine g_vret C hr hlk dX2_append_39 ?_
      exact ⟨⟨h_9, h_10, h_11, by omega⟩, fr_12⟩
set_option maxRecDepth 100000 in
set_option maxHeartbeats 4000000 in
theorem c_X2_readSign (l : Launch) (D : va_G) (kc : Nat → ClassId) (N : Nat) (adr : Nat → Nat) (cell : Nat → va_E) (t L : Nat) (sx : Int32) (q : Nat) (sg : Int32) (ch nu : Nat → Int32) (x : Int32) (hT : TxAt cell adr kc t L sx (nI q) sg ch nu) (hN : t + 3 ≤ N) (hch : ∀ j : Nat, j < L → isC (ch j)) (hq : q < 100) : MI l yX2_readSign wsX2_readSign ({ frames := 1, cells := 0, slots := 0, locals := 20 }) D kc N adr cell [.ref (adr t), .int x] (fun (w : Int32) (cell1 : Nat → va_E) => bI (decide (chF L ch q = x)) = w ∧ TxAt cell1 adr kc t L sx (nI (if chF L ch q = x then q + 1 else q)) sg ch nu ∧ ∀ j : Nat, (j < t ∨ t + 3 ≤ j) → cell1 j = cell j) := by
  refine met_i (cc := cX2_readSign) (maxL := 2) (ret := (some .boolean)) (by decide) rfl (Nat.le_of_ble_eq_true rfl) (lv := [(0, .ref (adr t)), (1, .int x)]) rfl ?_
  intro Pg Ev Sv Mi args below Me Cd Ar C hr hlk hnm
  have in2 : ∀ w ∈ u_ws RX2 TX2 6, w ∈ wsX2_readSign := by decide +kernel
  have f23 := C.2.2.2.2.1 (.fieldLink RX2 23 "WordAnchors$EditText" "next" "I") (by decide +kernel)
  obtain ⟨t0, t1, t2, hL⟩ := hT
  have litm1 : ((-1) : Int32).toInt = -1 := rfl
  have lit0 : (0 : Int32).toInt = 0 := rfl
  have lit1 : (1 : Int32).toInt = 1 := rfl
  have tn_L : (nI L).toInt = ((L : Nat) : Int) := nI_toInt (by omega)
  have tn_q : (nI q).toInt = ((q : Nat) : Int) := nI_toInt (by omega)
  refine g_aload_n C 0 rfl dX2_readSign_0 ?_
  refine g_Vi C [] t 2 (by omega) t0 rfl (c_X2_nextCharacter l D kc N adr cell t L sx q sg ch nu  ⟨t0, t1, t2, by omega⟩ (by omega) (by assumption) (by omega)) (cwV 0 C.2.2.2.2.1 gX2_readSign_X2_nextCharacter rfl rfl rfl (by decide +kernel) ⟨Nat.le_of_ble_eq_true rfl, Nat.le_of_ble_eq_true rfl⟩) rfl rfl (Nat.le_of_ble_eq_true rfl) (Nat.zero_le _) (Nat.zero_le _) dX2_readSign_1 (fun v1 cell1 q1 => ?_)
  obtain ⟨rfl, rfl⟩ := q1
  refine g_iload_n C 1 rfl dX2_readSign_4 ?_
  refine g_icmp_eq C 10 (by decide) dX2_readSign_5 (fun c5 => ?_) (fun c5 => ?_)
  · -- taken at 5
    have c5' := i_eq c5
    refine g_aload_n C 0 rfl dX2_readSign_10 ?_
    refine g_dup C rfl dX2_readSign_11 ?_
    refine g_get C t 2 4 (by omega) t0 rfl in2 (by decide) f23 (fun _ h9 => h9) rfl dX2_readSign_12 ?_
    refine g_iconst C 1 (by decide) dX2_readSign_15 ?_
    refine g_iadd C dX2_readSign_16 ?_
    refine g_eqst (show ([.int ((nI q) + 1), .ref (adr t)] : List Value) = ([.int (nI (q + 1)), .ref (adr t)] : List Value) from by rw [nI_1]) ?_
    refine g_put C t 2 4 (by omega) t0 rfl in2 tyX2 tyX2_ok nmX2 (by decide) f23 (fun _ h9 => h9) rfl (ty := .int) (by decide +kernel) rfl rfl (Nat.le_of_ble_eq_true rfl) dX2_readSign_17 ?_
    refine g_cell (fun cell3 ec3 => ?_)
    have h_4 : cell3 t = .inr (2, [.ref (adr (t + 1)), .ref (adr (t + 2)), .int (nI L), .int sx, .int (nI (q + 1)), .int sg]) := by rw [ec3]; exact va_up_self _ _ _
    have h_5 : cell3 (t + 1) = .inl (kc 1, 60, .inl ch) := by rw [ec3, va_up_ne _ _ (by omega)]; exact t1
    have h_6 : cell3 (t + 2) = .inl (kc 0, 3, .inl nu) := by rw [ec3, va_up_ne _ _ (by omega)]; exact t2
    have fr_7 : ∀ j : Nat, (j < t ∨ t + 3 ≤ j) → cell3 j = cell j := fun j hj => by rw [ec3, va_up_ne _ _ (by omega)]
    refine g_iconst C 1 (by decide) dX2_readSign_20 ?_
    refine g_iret C hr rfl hlk dX2_readSign_21 ?_
    exact ⟨bI_1 c5, by rw [if_pos c5]; exact ⟨h_4, h_5, h_6, by omega⟩, fr_7⟩
  · -- not taken at 5
    have c5' := i_ne c5
    refine g_iconst C 0 (by decide) dX2_readSign_8 ?_
    refine g_iret C hr rfl hlk dX2_readSign_9 ?_
    exact ⟨bI_0 c5, by rw [if_neg c5]; exact ⟨t0, t1, t2, by omega⟩, fun _ _ => rfl⟩
set_option maxRecDepth 100000 in
set_option maxHeartbeats 4000000 in
theorem c_X2_readNumber (l : Launch) (D : va_G) (kc : Nat → ClassId) (N : Nat) (adr : Nat → Nat) (cell : Nat → va_E) (t L : Nat) (sx : Int32) (q : Nat) (sg : Int32) (ch nu : Nat → Int32) (k : Nat) (hT : TxAt cell adr kc t L sx (nI q) sg ch nu) (hN : t + 3 ≤ N) (hch : ∀ j : Nat, j < L → isC (ch j)) (hq : q < 90) (hk : k < 3) : MI l yX2_readNumber wsX2_readNumber ({ frames := 1, cells := 0, slots := 0, locals := 20 }) D kc N adr cell [.ref (adr t), .int (nI k)] (fun (w : Int32) (cell1 : Nat → va_E) => bI (decide (¬ numC L ch q = 0)) = w ∧ TxAt cell1 adr kc t L sx (nI (q + numC L ch q)) sg ch (upd nu k (numV L ch q (numC L ch q))) ∧ ∀ j : Nat, (j < t ∨ t + 3 ≤ j) → cell1 j = cell j) := by
  refine met_i (cc := cX2_readNumber) (maxL := 4) (ret := (some .boolean)) (by decide) rfl (Nat.le_of_ble_eq_true rfl) (lv := [(0, .ref (adr t)), (1, .int (nI k))]) rfl ?_
  intro Pg Ev Sv Mi args below Me Cd Ar C hr hlk hnm
  have in2 : ∀ w ∈ u_ws RX2 TX2 6, w ∈ wsX2_readNumber := by decide +kernel
  have f15 := C.2.2.2.2.1 (.fieldLink RX2 15 "WordAnchors$EditText" "numbers" "[I") (by decide +kernel)
  have f23 := C.2.2.2.2.1 (.fieldLink RX2 23 "WordAnchors$EditText" "next" "I") (by decide +kernel)
  obtain ⟨t0, t1, t2, hL⟩ := hT
  have litm1 : ((-1) : Int32).toInt = -1 := rfl
  have lit0 : (0 : Int32).toInt = 0 := rfl
  have lit1 : (1 : Int32).toInt = 1 := rfl
  have lit2 : (2 : Int32).toInt = 2 := rfl
  have lit3 : (3 : Int32).toInt = 3 := rfl
  have lit10 : (10 : Int32).toInt = 10 := rfl
  have lit48 : (48 : Int32).toInt = 48 := rfl
  have tn_L : (nI L).toInt = ((L : Nat) : Int) := nI_toInt (by omega)
  have tn_q : (nI q).toInt = ((q : Nat) : Int) := nI_toInt (by omega)
  have tn_k : (nI k).toInt = ((k : Nat) : Int) := nI_toInt (by omega)
  refine g_iconst C 0 (by decide) dX2_readNumber_0 ?_
  refine g_istore_n C [(2, .int 0), (0, .ref (adr t)), (1, .int (nI k))] (by decide) rfl dX2_readNumber_1 ?_
  refine g_iconst C 0 (by decide) dX2_readNumber_2 ?_
  refine g_istore_n C [(3, .int 0), (2, .int 0), (0, .ref (adr t)), (1, .int (nI k))] (by decide) rfl dX2_readNumber_3 ?_
  have L4 : ∀ (fu i : Nat) (cl : Nat → va_E) , i ≤ 2 → 2 < i + fu → (y0 : cl t = .inr (2, [.ref (adr (t + 1)), .ref (adr (t + 2)), .int (nI L), .int sx, .int (nI (q + i)), .int sg])) → (y1 : cl (t + 1) = .inl (kc 1, 60, .inl ch)) → (y2 : cl (t + 2) = .inl (kc 0, 3, .inl nu)) → (frl4 : ∀ j : Nat, (j < t ∨ t + 3 ≤ j) → cl j = cell j) → (hd : ∀ j : Nat, j < i → isD (chF L ch (q + j))) → G Pg l Ev (headSpec wsX2_readNumber { frames := 1, cells := 0, slots := 0, locals := 20 }).room Sv Mi args below Me Cd D N adr Ar Sv.heap 4 0 0 (MQ below (va_Qi (fun (w : Int32) (cell1 : Nat → va_E) => bI (decide (¬ numC L ch q = 0)) = w ∧ TxAt cell1 adr kc t L sx (nI (q + numC L ch q)) sg ch (upd nu k (numV L ch q (numC L ch q))) ∧ ∀ j : Nat, (j < t ∨ t + 3 ≤ j) → cell1 j = cell j) (fun (cell1 : Nat → va_E) (t : State) => va_P D vwCl (wld N adr cell1) t.heap) Ar) args Sv 0 0 Ar) cl 4 [(0, .ref (adr t)), (1, .int (nI k)), (2, .int (numV L ch q i)), (3, .int (nI i))] ([] : List Value) := by
    intro fu
    induction fu with
    | zero => intro i cl  hle hfu; exact absurd hfu (by omega)
    | succ fu ih =>
      intro i cl  hle4 hfu4 y0 y1 y2 frl4 hd
      have tn_i : (nI i).toInt = ((i : Nat) : Int) := nI_toInt (by omega)
      refine g_iload_n C 3 rfl dX2_readNumber_4 ?_
      refine g_iconst C 2 (by decide) dX2_readNumber_5 ?_
      refine g_icmp_ge C 48 (by decide) dX2_readNumber_6 (fun c6 => ?_) (fun c6 => ?_)
      · -- taken at 6
        have c6' := i_le c6
        refine g_iload_n C 1 rfl dX2_readNumber_48 ?_
        refine g_if_lt C 68 (by decide) dX2_readNumber_49 (fun c49 => ?_) (fun c49 => ?_)
        · -- taken at 49
          have c49' := i_lt c49
          exfalso; omega
        · -- not taken at 49
          have c49' := i_nlt c49
          refine g_iload_n C 1 rfl dX2_readNumber_52 ?_
          refine g_aload_n C 0 rfl dX2_readNumber_53 ?_
          refine g_get C t 2 1 (by omega) y0 rfl in2 (by decide) f15 (fun _ h9 => h9) rfl dX2_readNumber_54 ?_
          refine g_alen C (t + 2) 0 (by omega) y2 rfl 3 rfl dX2_readNumber_57 ?_
          refine g_icmp_ge C 68 (by decide) dX2_readNumber_58 (fun c58 => ?_) (fun c58 => ?_)
          · -- taken at 58
            have c58' := i_le c58
            exfalso; omega
          · -- not taken at 58
            have c58' := i_nle c58
            refine g_aload_n C 0 rfl dX2_readNumber_61 ?_
            refine g_get C t 2 1 (by omega) y0 rfl in2 (by decide) f15 (fun _ h9 => h9) rfl dX2_readNumber_62 ?_
            refine g_iload_n C 1 rfl dX2_readNumber_65 ?_
            refine g_iload_n C 2 rfl dX2_readNumber_66 ?_
            refine g_iast C (t + 2) (by omega) y2 (vp_in_nI (by omega) (by omega)) dX2_readNumber_67 ?_
            refine g_cell (fun cell1 ec1 => ?_)
            have h_2 : cell1 t = .inr (2, [.ref (adr (t + 1)), .ref (adr (t + 2)), .int (nI L), .int sx, .int (nI (q + i)), .int sg]) := by rw [ec1, va_up_ne _ _ (by omega)]; exact y0
            have h_3 : cell1 (t + 1) = .inl (kc 1, 60, .inl ch) := by rw [ec1, va_up_ne _ _ (by omega)]; exact y1
            have h_4 : cell1 (t + 2) = .inl (kc 0, 3, .inl (upd nu (nI k).toNatClampNeg (numV L ch q i))) := by rw [ec1]; exact va_up_self _ _ _
            have fr_5 : ∀ j : Nat, (j < t ∨ t + 3 ≤ j) → cell1 j = cell j := fun j hj => by rw [ec1, va_up_ne _ _ (by omega)]; exact frl4 j hj
            have h_6 : cell1 (t + 2) = .inl (kc 0, 3, .inl (upd nu k (numV L ch q i))) := by rw [h_4, nI_clamp (by omega)]
            refine g_iload_n C 3 rfl dX2_readNumber_68 ?_
            refine g_if_le C 76 (by decide) dX2_readNumber_69 (fun c69 => ?_) (fun c69 => ?_)
            · -- taken at 69
              have c69' := i_le c69
              refine g_iconst C 0 (by decide) dX2_readNumber_76 ?_
              refine g_iret C hr rfl hlk dX2_readNumber_77 ?_
              have hc : numC L ch q = i := numC_of (by omega) hd (Or.inl (by omega))
              rw [hc]
              exact ⟨bI_0 (by omega), ⟨h_2, h_3, h_6, by omega⟩, fr_5⟩
            · -- not taken at 69
              have c69' := i_nle c69
              refine g_iconst C 1 (by decide) dX2_readNumber_72 ?_
              refine g_goto C 77 (by decide) dX2_readNumber_73 ?_
              refine g_iret C hr rfl hlk dX2_readNumber_77 ?_
              have hc : numC L ch q = i := numC_of (by omega) hd (Or.inl (by omega))
              rw [hc]
              exact ⟨bI_1 (by omega), ⟨h_2, h_3, h_6, by omega⟩, fr_5⟩
      · -- not taken at 6
        have c6' := i_nle c6
        refine g_aload_n C 0 rfl dX2_readNumber_9 ?_
        refine g_Vi C [] t 2 (by omega) y0 rfl (c_X2_nextCharacter l D kc N adr cl t L sx (q + i) sg ch nu  ⟨y0, y1, y2, by omega⟩ (by omega) (by assumption) (by omega)) (cwV 0 C.2.2.2.2.1 gX2_readNumber_X2_nextCharacter rfl rfl rfl (by decide +kernel) ⟨Nat.le_of_ble_eq_true rfl, Nat.le_of_ble_eq_true rfl⟩) rfl rfl (Nat.le_of_ble_eq_true rfl) (Nat.zero_le _) (Nat.zero_le _) dX2_readNumber_10 (fun v7 cell7 q7 => ?_)
        obtain ⟨rfl, rfl⟩ := q7
        refine g_Si C [.int (chF L ch (q + i))] (c_X2_isDigit l D kc N adr cl (chF L ch (q + i))) (va_cwS 1 C.2.2.2.2.1 gX2_readNumber_X2_isDigit rfl rfl rfl (by decide +kernel) ⟨Nat.le_of_ble_eq_true rfl, Nat.le_of_ble_eq_true rfl⟩) rfl rfl (Nat.le_of_ble_eq_true rfl) (Nat.zero_le _) (Nat.zero_le _) dX2_readNumber_13 (fun v8 cell8 q8 => ?_)
        obtain ⟨rfl, rfl⟩ := q8
        refine g_if_eq C 48 (by decide) dX2_readNumber_16 (fun c16 => ?_) (fun c16 => ?_)
        · -- taken at 16
          have c16' := bI_f c16
          refine g_iload_n C 1 rfl dX2_readNumber_48 ?_
          refine g_if_lt C 68 (by decide) dX2_readNumber_49 (fun c49 => ?_) (fun c49 => ?_)
          · -- taken at 49
            have c49' := i_lt c49
            exfalso; omega
          · -- not taken at 49
            have c49' := i_nlt c49
            refine g_iload_n C 1 rfl dX2_readNumber_52 ?_
            refine g_aload_n C 0 rfl dX2_readNumber_53 ?_
            refine g_get C t 2 1 (by omega) y0 rfl in2 (by decide) f15 (fun _ h9 => h9) rfl dX2_readNumber_54 ?_
            refine g_alen C (t + 2) 0 (by omega) y2 rfl 3 rfl dX2_readNumber_57 ?_
            refine g_icmp_ge C 68 (by decide) dX2_readNumber_58 (fun c58 => ?_) (fun c58 => ?_)
            · -- taken at 58
              have c58' := i_le c58
              exfalso; omega
            · -- not taken at 58
              have c58' := i_nle c58
              refine g_aload_n C 0 rfl dX2_readNumber_61 ?_
              refine g_get C t 2 1 (by omega) y0 rfl in2 (by decide) f15 (fun _ h9 => h9) rfl dX2_readNumber_62 ?_
              refine g_iload_n C 1 rfl dX2_readNumber_65 ?_
              refine g_iload_n C 2 rfl dX2_readNumber_66 ?_
              refine g_iast C (t + 2) (by omega) y2 (vp_in_nI (by omega) (by omega)) dX2_readNumber_67 ?_
              refine g_cell (fun cell9 ec9 => ?_)
              have h_10 : cell9 t = .inr (2, [.ref (adr (t + 1)), .ref (adr (t + 2)), .int (nI L), .int sx, .int (nI (q + i)), .int sg]) := by rw [ec9, va_up_ne _ _ (by omega)]; exact y0
              have h_11 : cell9 (t + 1) = .inl (kc 1, 60, .inl ch) := by rw [ec9, va_up_ne _ _ (by omega)]; exact y1
              have h_12 : cell9 (t + 2) = .inl (kc 0, 3, .inl (upd nu (nI k).toNatClampNeg (numV L ch q i))) := by rw [ec9]; exact va_up_self _ _ _
              have fr_13 : ∀ j : Nat, (j < t ∨ t + 3 ≤ j) → cell9 j = cell j := fun j hj => by rw [ec9, va_up_ne _ _ (by omega)]; exact frl4 j hj
              have h_14 : cell9 (t + 2) = .inl (kc 0, 3, .inl (upd nu k (numV L ch q i))) := by rw [h_12, nI_clamp (by omega)]
              refine g_iload_n C 3 rfl dX2_readNumber_68 ?_
              refine g_if_le C 76 (by decide) dX2_readNumber_69 (fun c69 => ?_) (fun c69 => ?_)
              · -- taken at 69
                have c69' := i_le c69
                refine g_iconst C 0 (by decide) dX2_readNumber_76 ?_
                refine g_iret C hr rfl hlk dX2_readNumber_77 ?_
                have hc : numC L ch q = i := numC_of (by omega) hd (Or.inr c16')
                rw [hc]
                exact ⟨bI_0 (by omega), ⟨h_10, h_11, h_14, by omega⟩, fr_13⟩
              · -- not taken at 69
                have c69' := i_nle c69
                refine g_iconst C 1 (by decide) dX2_readNumber_72 ?_
                refine g_goto C 77 (by decide) dX2_readNumber_73 ?_
                refine g_iret C hr rfl hlk dX2_readNumber_77 ?_
                have hc : numC L ch q = i := numC_of (by omega) hd (Or.inr c16')
                rw [hc]
                exact ⟨bI_1 (by omega), ⟨h_10, h_11, h_14, by omega⟩, fr_13⟩
        · -- not taken at 16
          have c16' := bI_t c16
          refine g_iload_n C 2 rfl dX2_readNumber_19 ?_
          refine g_bipush C 10 (by decide) dX2_readNumber_20 ?_
          refine g_imul C dX2_readNumber_22 ?_
          refine g_aload_n C 0 rfl dX2_readNumber_23 ?_
          refine g_Vi C [] t 2 (by omega) y0 rfl (c_X2_nextCharacter l D kc N adr cl t L sx (q + i) sg ch nu  ⟨y0, y1, y2, by omega⟩ (by omega) (by assumption) (by omega)) (cwV 0 C.2.2.2.2.1 gX2_readNumber_X2_nextCharacter rfl rfl rfl (by decide +kernel) ⟨Nat.le_of_ble_eq_true rfl, Nat.le_of_ble_eq_true rfl⟩) rfl rfl (Nat.le_of_ble_eq_true rfl) (Nat.zero_le _) (Nat.zero_le _) dX2_readNumber_24 (fun v15 cell15 q15 => ?_)
          obtain ⟨rfl, rfl⟩ := q15
          refine g_bipush C 48 (by decide) dX2_readNumber_27 ?_
          refine g_isub C dX2_readNumber_29 ?_
          refine g_iadd C dX2_readNumber_30 ?_
          refine g_istore_n C [(2, .int (((numV L ch q i) * 10) + ((chF L ch (q + i)) - 48))), (0, .ref (adr t)), (1, .int (nI k)), (3, .int (nI i))] (by decide) rfl dX2_readNumber_31 ?_
          refine g_iinc C 3 [(3, .int (nI (i + 1))), (2, .int (((numV L ch q i) * 10) + ((chF L ch (q + i)) - 48))), (0, .ref (adr t)), (1, .int (nI k))] rfl (iinc_nI i) (by decide) rfl dX2_readNumber_32 ?_
          refine g_aload_n C 2 rfl dX2_readNumber_35 ?_
          refine g_dup C rfl dX2_readNumber_36 ?_
          refine g_get C t 2 4 (by omega) y0 rfl in2 (by decide) f23 (fun _ h9 => h9) rfl dX2_readNumber_37 ?_
          refine g_iconst C 1 (by decide) dX2_readNumber_40 ?_
          refine g_iadd C dX2_readNumber_41 ?_
          refine g_eqst (show ([.int ((nI (q + i)) + 1), .ref (adr t)] : List Value) = ([.int (nI (q + (i + 1))), .ref (adr t)] : List Value) from by rw [nI_1]; rfl) ?_
          refine g_put C t 2 4 (by omega) y0 rfl in2 tyX2 tyX2_ok nmX2 (by decide) f23 (fun _ h9 => h9) rfl (ty := .int) (by decide +kernel) rfl rfl (Nat.le_of_ble_eq_true rfl) dX2_readNumber_42 ?_
          refine g_cell (fun cell17 ec17 => ?_)
          have h_18 : cell17 t = .inr (2, [.ref (adr (t + 1)), .ref (adr (t + 2)), .int (nI L), .int sx, .int (nI (q + (i + 1))), .int sg]) := by rw [ec17]; exact va_up_self _ _ _
          have h_19 : cell17 (t + 1) = .inl (kc 1, 60, .inl ch) := by rw [ec17, va_up_ne _ _ (by omega)]; exact y1
          have h_20 : cell17 (t + 2) = .inl (kc 0, 3, .inl nu) := by rw [ec17, va_up_ne _ _ (by omega)]; exact y2
          have fr_21 : ∀ j : Nat, (j < t ∨ t + 3 ≤ j) → cell17 j = cell j := fun j hj => by rw [ec17, va_up_ne _ _ (by omega)]; exact frl4 j hj
          refine g_goto C 4 (by decide) dX2_readNumber_45 ?_
          refine g_sub [2, 3, 1, 0] rfl ?_
          exact ih (i + 1) _ (by omega) (by omega) h_18 h_19 h_20 fr_21 (lt_s hd c16')
  refine g_sub [2, 3, 1, 0] rfl ?_
  exact L4 (2 + 1) 0 _ (by omega) (by omega) t0 t1 t2 (fun _ _ => rfl) (fun j hj => absurd hj (Nat.not_lt_zero j))
