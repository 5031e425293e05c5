set_option maxRecDepth 100000 in
set_option maxHeartbeats 4000000 in
theorem c_X5_anchorCount (l : Launch) (D : va_G) (kc : Nat → ClassId) (N : Nat) (adr : Nat → Nat) (cell : Nat → va_E) (b n m : Nat) (ed : Int32) (W T U E P V : Nat → Int32) (F : Nat → Nat → Int32)  (hSt : StAt cell adr kc b (n, m, ed, W, T, U, E, P, V, F)) (hN : b + 19 ≤ N) : MI l yX5_anchorCount wsX5_anchorCount ({ frames := 0, cells := 0, slots := 0, locals := 0 }) D kc N adr cell [.ref (adr b)] (fun (w : Int32) (cell1 : Nat → va_E) => nI m = w ∧ cell = cell1) := by
  refine met_i (cc := cX5_anchorCount) (maxL := 1) (ret := (some .int)) (by decide) rfl (Nat.le_of_ble_eq_true rfl) (lv := [(0, .ref (adr b))]) rfl ?_
  intro Pg Ev Sv Mi args below Me Cd Ar C hr hlk hnm
  have in5 : ∀ w ∈ u_ws RX5 TX5 5, w ∈ wsX5_anchorCount := by decide +kernel
  have f29 := C.2.2.2.2.1 (.fieldLink RX5 29 "WordAnchors$State" "anchorCount" "I") (by decide +kernel)
  have hSt0 := hSt
  obtain ⟨s0, hRw, ⟨gg, s5, hg⟩, s6, hAn, hm⟩ := hSt
  have s0 : cell b = .inr (5, [.ref (adr (b + 1)), .ref (adr (b + 5)), .ref (adr (b + 6)), .int (nI m), .int ed]) := s0
  have hRw : RowAt cell adr kc (b + 1) W T U n := hRw
  have s6 : cell (b + 6) = .inl (kc 0, 5, .inl E) := s6
  have hAn : AnsAt cell adr kc b P V F := hAn
  have hm : m ≤ 6 := hm
  obtain ⟨r0, r1, r2, r3, hn⟩ := hRw
  have litm1 : ((-1) : Int32).toInt = -1 := rfl
  have lit0 : (0 : Int32).toInt = 0 := rfl
  have lit1 : (1 : Int32).toInt = 1 := rfl
  have tn_n : (nI n).toInt = ((n : Nat) : Int) := nI_toInt (by omega)
  have tn_m : (nI m).toInt = ((m : Nat) : Int) := nI_toInt (by omega)
  refine g_aload_n C 0 rfl dX5_anchorCount_0 ?_
  refine g_get C b 5 3 (by omega) s0 rfl in5 (by decide) f29 (fun _ h9 => h9) rfl dX5_anchorCount_1 ?_
  refine g_iret C hr rfl hlk dX5_anchorCount_4 ?_
  exact ⟨by first | rfl | exact bI_1 (by omega) | exact bI_0 (by omega) | exact if_pos (by omega) | exact if_neg (by omega), rfl⟩
set_option maxRecDepth 100000 in
set_option maxHeartbeats 4000000 in
theorem c_X5_edits (l : Launch) (D : va_G) (kc : Nat → ClassId) (N : Nat) (adr : Nat → Nat) (cell : Nat → va_E) (b n m : Nat) (ed : Int32) (W T U E P V : Nat → Int32) (F : Nat → Nat → Int32)  (hSt : StAt cell adr kc b (n, m, ed, W, T, U, E, P, V, F)) (hN : b + 19 ≤ N) : MI l yX5_edits wsX5_edits ({ frames := 0, cells := 0, slots := 0, locals := 0 }) D kc N adr cell [.ref (adr b)] (fun (w : Int32) (cell1 : Nat → va_E) => ed = w ∧ cell = cell1) := by
  refine met_i (cc := cX5_edits) (maxL := 1) (ret := (some .int)) (by decide) rfl (Nat.le_of_ble_eq_true rfl) (lv := [(0, .ref (adr b))]) rfl ?_
  intro Pg Ev Sv Mi args below Me Cd Ar C hr hlk hnm
  have in5 : ∀ w ∈ u_ws RX5 TX5 5, w ∈ wsX5_edits := by decide +kernel
  have f33 := C.2.2.2.2.1 (.fieldLink RX5 33 "WordAnchors$State" "edits" "I") (by decide +kernel)
  have hSt0 := hSt
  obtain ⟨s0, hRw, ⟨gg, s5, hg⟩, s6, hAn, hm⟩ := hSt
  have s0 : cell b = .inr (5, [.ref (adr (b + 1)), .ref (adr (b + 5)), .ref (adr (b + 6)), .int (nI m), .int ed]) := s0
  have hRw : RowAt cell adr kc (b + 1) W T U n := hRw
  have s6 : cell (b + 6) = .inl (kc 0, 5, .inl E) := s6
  have hAn : AnsAt cell adr kc b P V F := hAn
  have hm : m ≤ 6 := hm
  obtain ⟨r0, r1, r2, r3, hn⟩ := hRw
  have litm1 : ((-1) : Int32).toInt = -1 := rfl
  have lit0 : (0 : Int32).toInt = 0 := rfl
  have lit1 : (1 : Int32).toInt = 1 := rfl
  have tn_n : (nI n).toInt = ((n : Nat) : Int) := nI_toInt (by omega)
  have tn_m : (nI m).toInt = ((m : Nat) : Int) := nI_toInt (by omega)
  refine g_aload_n C 0 rfl dX5_edits_0 ?_
  refine g_get C b 5 4 (by omega) s0 rfl in5 (by decide) f33 (fun _ h9 => h9) rfl dX5_edits_1 ?_
  refine g_iret C hr rfl hlk dX5_edits_4 ?_
  exact ⟨by first | rfl | exact bI_1 (by omega) | exact bI_0 (by omega) | exact if_pos (by omega) | exact if_neg (by omega), rfl⟩
set_option maxRecDepth 100000 in
set_option maxHeartbeats 4000000 in
theorem c_X5_setting (l : Launch) (D : va_G) (kc : Nat → ClassId) (N : Nat) (adr : Nat → Nat) (cell : Nat → va_E) (b n m : Nat) (ed : Int32) (W T U E P V : Nat → Int32) (F : Nat → Nat → Int32) (x : Int32) (hSt : StAt cell adr kc b (n, m, ed, W, T, U, E, P, V, F)) (hN : b + 19 ≤ N) : MI l yX5_setting wsX5_setting ({ frames := 0, cells := 0, slots := 0, locals := 0 }) D kc N adr cell [.ref (adr b), .int x] (fun (w : Int32) (cell1 : Nat → va_E) => setF E x = w ∧ cell = cell1) := by
  refine met_i (cc := cX5_setting) (maxL := 2) (ret := (some .int)) (by decide) rfl (Nat.le_of_ble_eq_true rfl) (lv := [(0, .ref (adr b)), (1, .int x)]) rfl ?_
  intro Pg Ev Sv Mi args below Me Cd Ar C hr hlk hnm
  have in5 : ∀ w ∈ u_ws RX5 TX5 5, w ∈ wsX5_setting := by decide +kernel
  have f24 := C.2.2.2.2.1 (.fieldLink RX5 24 "WordAnchors$State" "settings" "[I") (by decide +kernel)
  have hSt0 := hSt
  obtain ⟨s0, hRw, ⟨gg, s5, hg⟩, s6, hAn, hm⟩ := hSt
  have s0 : cell b = .inr (5, [.ref (adr (b + 1)), .ref (adr (b + 5)), .ref (adr (b + 6)), .int (nI m), .int ed]) := s0
  have hRw : RowAt cell adr kc (b + 1) W T U n := hRw
  have s6 : cell (b + 6) = .inl (kc 0, 5, .inl E) := s6
  have hAn : AnsAt cell adr kc b P V F := hAn
  have hm : m ≤ 6 := hm
  obtain ⟨r0, r1, r2, r3, hn⟩ := hRw
  have litm1 : ((-1) : Int32).toInt = -1 := rfl
  have lit0 : (0 : Int32).toInt = 0 := rfl
  have lit1 : (1 : Int32).toInt = 1 := rfl
  have lit5 : (5 : Int32).toInt = 5 := rfl
  have tn_n : (nI n).toInt = ((n : Nat) : Int) := nI_toInt (by omega)
  have tn_m : (nI m).toInt = ((m : Nat) : Int) := nI_toInt (by omega)
  refine g_iload_n C 1 rfl dX5_setting_0 ?_
  refine g_if_lt C 22 (by decide) dX5_setting_1 (fun c1 => ?_) (fun c1 => ?_)
  · -- taken at 1
    have c1' := i_lt c1
    refine g_iconst C 0 (by decide) dX5_setting_22 ?_
    refine g_iret C hr rfl hlk dX5_setting_23 ?_
    exact ⟨by first | rfl | exact bI_1 (by omega) | exact bI_0 (by omega) | exact if_pos (by omega) | exact if_neg (by omega), rfl⟩
  · -- not taken at 1
    have c1' := i_nlt c1
    refine g_iload_n C 1 rfl dX5_setting_4 ?_
    refine g_aload_n C 0 rfl dX5_setting_5 ?_
    refine g_get C b 5 2 (by omega) s0 rfl in5 (by decide) f24 (fun _ h9 => h9) rfl dX5_setting_6 ?_
    refine g_alen C (b + 6) 0 (by omega) s6 rfl 5 rfl dX5_setting_9 ?_
    refine g_icmp_ge C 22 (by decide) dX5_setting_10 (fun c10 => ?_) (fun c10 => ?_)
    · -- taken at 10
      have c10' := i_le c10
      refine g_iconst C 0 (by decide) dX5_setting_22 ?_
      refine g_iret C hr rfl hlk dX5_setting_23 ?_
      exact ⟨by first | rfl | exact bI_1 (by omega) | exact bI_0 (by omega) | exact if_pos (by omega) | exact if_neg (by omega), rfl⟩
    · -- not taken at 10
      have c10' := i_nle c10
      refine g_aload_n C 0 rfl dX5_setting_13 ?_
      refine g_get C b 5 2 (by omega) s0 rfl in5 (by decide) f24 (fun _ h9 => h9) rfl dX5_setting_14 ?_
      refine g_iload_n C 1 rfl dX5_setting_17 ?_
      refine g_iald C (b + 6) (by omega) s6 (vp_in_iff.mpr (by omega)) dX5_setting_18 ?_
      refine g_goto C 23 (by decide) dX5_setting_19 ?_
      refine g_iret C hr rfl hlk dX5_setting_23 ?_
      exact ⟨by first | rfl | exact bI_1 (by omega) | exact bI_0 (by omega) | exact if_pos (by omega) | exact if_neg (by omega), rfl⟩
set_option maxRecDepth 100000 in
set_option maxHeartbeats 4000000 in
theorem c_X5_scoreOf (l : Launch) (D : va_G) (kc : Nat → ClassId) (N : Nat) (adr : Nat → Nat) (cell : Nat → va_E) (b n m : Nat) (ed : Int32) (W T U E P V : Nat → Int32) (F : Nat → Nat → Int32) (a : Nat) (p v : Int32) (f : Nat → Int32) (x : Int32) (hSt : StAt cell adr kc b (n, m, ed, W, T, U, E, P, V, F)) (hN : b + 19 ≤ N) (hA : AncAt cell adr kc a p v f) (hNa : a + 2 ≤ N) : MI l yX5_scoreOf wsX5_scoreOf ({ frames := 1, cells := 0, slots := 0, locals := 21 }) D kc N adr cell [.ref (adr b), .ref (adr a), .int x] (fun (w : Int32) (cell1 : Nat → va_E) => scr n W E f x = w ∧ cell = cell1) := by
  refine met_i (cc := cX5_scoreOf) (maxL := 6) (ret := (some .int)) (by decide) rfl (Nat.le_of_ble_eq_true rfl) (lv := [(0, .ref (adr b)), (1, .ref (adr a)), (2, .int x)]) rfl ?_
  intro Pg Ev Sv Mi args below Me Cd Ar C hr hlk hnm
  have in5 : ∀ w ∈ u_ws RX5 TX5 5, w ∈ wsX5_scoreOf := by decide +kernel
  have f12 := C.2.2.2.2.1 (.fieldLink RX5 12 "WordAnchors$State" "row" "LWordAnchors$Row;") (by decide +kernel)
  have ab1 := C.2.2.2.2.1 (.methodLink RX5 77 Lib.Math.abs.name) (by decide +kernel)
  have ab2 := C.2.2.2.2.1 (.static Lib.Math.abs.name) (by decide +kernel)
  have ab3 := C.2.2.2.2.1 (.initialized "java/lang/Math") (by decide +kernel)
  have ab4 := C.2.2.2.2.1 (.code Lib.Math.abs.name Lib.Math.abs.code 1 (some .int)) (by decide +kernel)
  have hSt0 := hSt
  obtain ⟨s0, hRw, ⟨gg, s5, hg⟩, s6, hAn, hm⟩ := hSt
  have s0 : cell b = .inr (5, [.ref (adr (b + 1)), .ref (adr (b + 5)), .ref (adr (b + 6)), .int (nI m), .int ed]) := s0
  have hRw : RowAt cell adr kc (b + 1) W T U n := hRw
  have s6 : cell (b + 6) = .inl (kc 0, 5, .inl E) := s6
  have hAn : AnsAt cell adr kc b P V F := hAn
  have hm : m ≤ 6 := hm
  obtain ⟨r0, r1, r2, r3, hn⟩ := hRw
  have hA0 := hA
  obtain ⟨a0, a1⟩ := hA
  have litm1 : ((-1) : Int32).toInt = -1 := rfl
  have lit0 : (0 : Int32).toInt = 0 := rfl
  have lit1 : (1 : Int32).toInt = 1 := rfl
  have lit2 : (2 : Int32).toInt = 2 := rfl
  have lit5 : (5 : Int32).toInt = 5 := rfl
  have tn_n : (nI n).toInt = ((n : Nat) : Int) := nI_toInt (by omega)
  have tn_m : (nI m).toInt = ((m : Nat) : Int) := nI_toInt (by omega)
  refine g_iconst C 0 (by decide) dX5_scoreOf_0 ?_
  refine g_istore_n C [(3, .int 0), (0, .ref (adr b)), (1, .ref (adr a)), (2, .int x)] (by decide) rfl dX5_scoreOf_1 ?_
  refine g_iconst C 0 (by decide) dX5_scoreOf_2 ?_
  refine g_istore C [(4, .int 0), (3, .int 0), (0, .ref (adr b)), (1, .ref (adr a)), (2, .int x)] (by decide) rfl dX5_scoreOf_3 ?_
  have L5 : ∀ (fu i : Nat) , i ≤ 5 → 5 < i + fu → G Pg l Ev (headSpec wsX5_scoreOf { frames := 1, cells := 0, slots := 0, locals := 21 }).room Sv Mi args below Me Cd D N adr Ar Sv.heap 6 0 0 (MQ below (va_Qi (fun (w : Int32) (cell1 : Nat → va_E) => scr n W E f x = w ∧ cell = cell1) (fun (cell1 : Nat → va_E) (t : State) => va_P D vwCl (wld N adr cell1) t.heap) Ar) args Sv 0 0 Ar) cell 5 [(0, .ref (adr b)), (1, .ref (adr a)), (2, .int x), (3, .int (scF n W E f x i)), (4, .int (nI i))] ([] : List Value) := by
    intro fu
    induction fu with
    | zero => intro i  hle hfu; exact absurd hfu (by omega)
    | succ fu ih =>
      intro i  hle5 hfu5  
      have tn_i : (nI i).toInt = ((i : Nat) : Int) := nI_toInt (by omega)
      refine g_iload C 4 rfl dX5_scoreOf_5 ?_
      refine g_iconst C 5 (by decide) dX5_scoreOf_7 ?_
      refine g_icmp_ge C 55 (by decide) dX5_scoreOf_8 (fun c8 => ?_) (fun c8 => ?_)
      · -- taken at 8
        have c8' := i_le c8
        obtain rfl : 5 = i := by omega
        refine g_iload_n C 3 rfl dX5_scoreOf_55 ?_
        refine g_iret C hr rfl hlk dX5_scoreOf_56 ?_
        exact ⟨rfl, rfl⟩
      · -- not taken at 8
        have c8' := i_nle c8
        refine g_iload C 4 rfl dX5_scoreOf_11 ?_
        refine g_iconst C 2 (by decide) dX5_scoreOf_13 ?_
        refine g_isub C dX5_scoreOf_14 ?_
        refine g_istore C [(5, .int ((nI i) - 2)), (0, .ref (adr b)), (1, .ref (adr a)), (2, .int x), (3, .int (scF n W E f x i)), (4, .int (nI i))] (by decide) rfl dX5_scoreOf_15 ?_
        refine g_aload_n C 2 rfl dX5_scoreOf_17 ?_
        refine g_iload C 5 rfl dX5_scoreOf_18 ?_
        refine g_Vi C [.int (nI i)] a 0 (by omega) a0 rfl (c_X0_thing l D kc N adr cell a p v f (nI i) ⟨a0, a1⟩ (by omega)) (cwV 1 C.2.2.2.2.1 gX5_scoreOf_X0_thing rfl rfl rfl (by decide +kernel) ⟨Nat.le_of_ble_eq_true rfl, Nat.le_of_ble_eq_true rfl⟩) rfl rfl (Nat.le_of_ble_eq_true rfl) (Nat.zero_le _) (Nat.zero_le _) dX5_scoreOf_20 (fun v1 cell1 q1 => ?_)
        obtain ⟨rfl, rfl⟩ := q1
        refine g_eqst (st1 := ([.int (f i)] : List Value)) (by rw [atF_nI (by omega) (by omega)]) ?_
        refine g_aload_n C 1 rfl dX5_scoreOf_23 ?_
        refine g_get C b 5 0 (by omega) s0 rfl in5 (by decide) f12 (fun _ h9 => h9) rfl dX5_scoreOf_24 ?_
        refine g_iload_n C 3 rfl dX5_scoreOf_27 ?_
        refine g_iload C 0 rfl dX5_scoreOf_28 ?_
        refine g_iadd C dX5_scoreOf_30 ?_
        refine g_Vi C [.int (x + ((nI i) - 2))] (b + 1) 4 (by omega) r0 rfl (c_X4_at l D kc N adr cell (b + 1) W T U n (x + ((nI i) - 2)) ⟨r0, r1, r2, r3, by omega⟩ (by omega)) (cwV 1 C.2.2.2.2.1 gX5_scoreOf_X4_at rfl rfl rfl (by decide +kernel) ⟨Nat.le_of_ble_eq_true rfl, Nat.le_of_ble_eq_true rfl⟩) rfl rfl (Nat.le_of_ble_eq_true rfl) (Nat.zero_le _) (Nat.zero_le _) dX5_scoreOf_31 (fun v3 cell3 q3 => ?_)
        obtain ⟨rfl, rfl⟩ := q3
        refine g_eqst (st1 := ([.int (atF n W (x + nI i - 2)), .int (f i)] : List Value)) (by rw [addsub]) ?_
        refine g_icmp_ne C 49 (by decide) dX5_scoreOf_34 (fun c34 => ?_) (fun c34 => ?_)
        · -- taken at 34
          have c34' := i_ne c34
          refine g_iinc C 5 [(4, .int (nI (i + 1))), (5, .int ((nI i) - 2)), (0, .ref (adr b)), (1, .ref (adr a)), (2, .int x), (3, .int (scF n W E f x i))] rfl (iinc_nI i) (by decide) rfl dX5_scoreOf_49 ?_
          refine g_goto C 5 (by decide) dX5_scoreOf_52 ?_
          refine g_sub [2, 3, 4, 5, 0] rfl ?_
          have ev_5 : scF n W E f x i = scF n W E f x (i + 1) := by first | exact scF_yes c34 | exact scF_no c34
          refine g_eqlv (lv1 := [(0, .ref (adr b)), (1, .ref (adr a)), (2, .int x), (3, .int (scF n W E f x (i + 1))), (4, .int (nI (i + 1)))]) (congrArg (fun z0 : Int32 => ([(0, .ref (adr b)), (1, .ref (adr a)), (2, .int x), (3, .int z0), (4, .int (nI (i + 1)))] : List (Nat × Value))) ev_5) ?_
          exact ih (i + 1) (by omega) (by omega) 
        · -- not taken at 34
          have c34' := i_eq c34
          refine g_iload_n C 4 rfl dX5_scoreOf_37 ?_
          refine g_aload_n C 1 rfl dX5_scoreOf_38 ?_
          refine g_iload C 0 rfl dX5_scoreOf_39 ?_
          refine g_abs C ab1 ab2 ab3 ab4 (Nat.le_of_ble_eq_true rfl) (Nat.le_of_ble_eq_true rfl) (Nat.zero_le _) (Nat.zero_le _) dX5_scoreOf_41 ?_
          refine g_Vi C [.int (if 0 ≤ ((nI i) - 2) then ((nI i) - 2) else 0 - ((nI i) - 2))] b 5 (by omega) s0 rfl (c_X5_setting l D kc N adr cell b n m ed W T U E P V F (if 0 ≤ ((nI i) - 2) then ((nI i) - 2) else 0 - ((nI i) - 2)) hSt0 (by omega)) (cwV 1 C.2.2.2.2.1 gX5_scoreOf_X5_setting rfl rfl rfl (by decide +kernel) ⟨Nat.le_of_ble_eq_true rfl, Nat.le_of_ble_eq_true rfl⟩) rfl rfl (Nat.le_of_ble_eq_true rfl) (Nat.zero_le _) (Nat.zero_le _) dX5_scoreOf_44 (fun v6 cell6 q6 => ?_)
          obtain ⟨rfl, rfl⟩ := q6
          refine g_eqst (st1 := ([.int (wgt E i), .int (scF n W E f x i)] : List Value)) (by rw [setF_abs (by omega)]) ?_
          refine g_iadd C dX5_scoreOf_47 ?_
          refine g_istore_n C [(3, .int ((scF n W E f x i) + (wgt E i))), (5, .int ((nI i) - 2)), (0, .ref (adr b)), (1, .ref (adr a)), (2, .int x), (4, .int (nI i))] (by decide) rfl dX5_scoreOf_48 ?_
          refine g_iinc C 5 [(4, .int (nI (i + 1))), (3, .int ((scF n W E f x i) + (wgt E i))), (5, .int ((nI i) - 2)), (0, .ref (adr b)), (1, .ref (adr a)), (2, .int x)] rfl (iinc_nI i) (by decide) rfl dX5_scoreOf_49 ?_
          refine g_goto C 5 (by decide) dX5_scoreOf_52 ?_
          refine g_sub [3, 4, 5, 1, 0] rfl ?_
          have ev_8 : (scF n W E f x i) + (wgt E i) = scF n W E f x (i + 1) := by first | exact scF_yes c34 | exact scF_no c34
          refine g_eqlv (lv1 := [(0, .ref (adr b)), (1, .ref (adr a)), (2, .int x), (3, .int (scF n W E f x (i + 1))), (4, .int (nI (i + 1)))]) (congrArg (fun z0 : Int32 => ([(0, .ref (adr b)), (1, .ref (adr a)), (2, .int x), (3, .int z0), (4, .int (nI (i + 1)))] : List (Nat × Value))) ev_8) ?_
          exact ih (i + 1) (by omega) (by omega) 
  refine g_sub [2, 3, 4, 1, 0] rfl ?_
  have ev_9 : 0 = scF n W E f x 0 := by rfl
  refine g_eqlv (lv1 := [(0, .ref (adr b)), (1, .ref (adr a)), (2, .int x), (3, .int (scF n W E f x 0)), (4, .int 0)]) (congrArg (fun z0 : Int32 => ([(0, .ref (adr b)), (1, .ref (adr a)), (2, .int x), (3, .int z0), (4, .int 0)] : List (Nat × Value))) ev_9) ?_
  exact L5 (5 + 1) 0 (by omega) (by omega) 
set_option maxRecDepth 100000 in
set_option maxHeartbeats 4000000 in
theorem c_X5_bestPlaceBut (l : Launch) (D : va_G) (kc : Nat → ClassId) (N : Nat) (adr : Nat → Nat) (cell : Nat → va_E) (b n m : Nat) (ed : Int32) (W T U E P V : Nat → Int32) (F : Nat → Nat → Int32) (a : Nat) (p v : Int32) (f : Nat → Int32) (x : Int32) (hSt : StAt cell adr kc b (n, m, ed, W, T, U, E, P, V, F)) (hN : b + 19 ≤ N) (hA : AncAt cell adr kc a p v f) (hNa : a + 2 ≤ N) : MI l yX5_bestPlaceBut wsX5_bestPlaceBut ({ frames := 2, cells := 0, slots := 0, locals := 46 }) D kc N adr cell [.ref (adr b), .ref (adr a), .int x] (fun (w : Int32) (cell1 : Nat → va_E) => bpF n W E f p x = w ∧ cell = cell1) := by
  refine met_i (cc := cX5_bestPlaceBut) (maxL := 10) (ret := (some .int)) (by decide) rfl (Nat.le_of_ble_eq_true rfl) (lv := [(0, .ref (adr b)), (1, .ref (adr a)), (2, .int x)]) rfl ?_
  intro Pg Ev Sv Mi args below Me Cd Ar C hr hlk hnm
  have in5 : ∀ w ∈ u_ws RX5 TX5 5, w ∈ wsX5_bestPlaceBut := by decide +kernel
  have f12 := C.2.2.2.2.1 (.fieldLink RX5 12 "WordAnchors$State" "row" "LWordAnchors$Row;") (by decide +kernel)
  have ab1 := C.2.2.2.2.1 (.methodLink RX5 77 Lib.Math.abs.name) (by decide +kernel)
  have ab2 := C.2.2.2.2.1 (.static Lib.Math.abs.name) (by decide +kernel)
  have ab3 := C.2.2.2.2.1 (.initialized "java/lang/Math") (by decide +kernel)
  have ab4 := C.2.2.2.2.1 (.code Lib.Math.abs.name Lib.Math.abs.code 1 (some .int)) (by decide +kernel)
  have hSt0 := hSt
  obtain ⟨s0, hRw, ⟨gg, s5, hg⟩, s6, hAn, hm⟩ := hSt
  have s0 : cell b = .inr (5, [.ref (adr (b + 1)), .ref (adr (b + 5)), .ref (adr (b + 6)), .int (nI m), .int ed]) := s0
  have hRw : RowAt cell adr kc (b + 1) W T U n := hRw
  have s6 : cell (b + 6) = .inl (kc 0, 5, .inl E) := s6
  have hAn : AnsAt cell adr kc b P V F := hAn
  have hm : m ≤ 6 := hm
  obtain ⟨r0, r1, r2, r3, hn⟩ := hRw
  have hA0 := hA
  obtain ⟨a0, a1⟩ := hA
  have litm1 : ((-1) : Int32).toInt = -1 := rfl
  have lit0 : (0 : Int32).toInt = 0 := rfl
  have lit1 : (1 : Int32).toInt = 1 := rfl
  have tn_n : (nI n).toInt = ((n : Nat) : Int) := nI_toInt (by omega)
  have tn_m : (nI m).toInt = ((m : Nat) : Int) := nI_toInt (by omega)
  refine g_iconst C (-1) (by decide) dX5_bestPlaceBut_0 ?_
  refine g_istore_n C [(3, .int (-1)), (0, .ref (adr b)), (1, .ref (adr a)), (2, .int x)] (by decide) rfl dX5_bestPlaceBut_1 ?_
  refine g_iconst C 0 (by decide) dX5_bestPlaceBut_2 ?_
  refine g_istore C [(4, .int 0), (3, .int (-1)), (0, .ref (adr b)), (1, .ref (adr a)), (2, .int x)] (by decide) rfl dX5_bestPlaceBut_3 ?_
  refine g_iconst C 0 (by decide) dX5_bestPlaceBut_5 ?_
  refine g_istore C [(5, .int 0), (4, .int 0), (3, .int (-1)), (0, .ref (adr b)), (1, .ref (adr a)), (2, .int x)] (by decide) rfl dX5_bestPlaceBut_6 ?_
  refine g_iconst C 0 (by decide) dX5_bestPlaceBut_8 ?_
  refine g_istore C [(6, .int 0), (5, .int 0), (4, .int 0), (3, .int (-1)), (0, .ref (adr b)), (1, .ref (adr a)), (2, .int x)] (by decide) rfl dX5_bestPlaceBut_9 ?_
  have L11 : ∀ (fu i : Nat) , i ≤ n → n < i + fu → G Pg l Ev (headSpec wsX5_bestPlaceBut { frames := 2, cells := 0, slots := 0, locals := 46 }).room Sv Mi args below Me Cd D N adr Ar Sv.heap 10 0 0 (MQ below (va_Qi (fun (w : Int32) (cell1 : Nat → va_E) => bpF n W E f p x = w ∧ cell = cell1) (fun (cell1 : Nat → va_E) (t : State) => va_P D vwCl (wld N adr cell1) t.heap) Ar) args Sv 0 0 Ar) cell 11 [(0, .ref (adr b)), (1, .ref (adr a)), (2, .int x), (3, .int ((bstF n W E f p x i).1)), (4, .int ((bstF n W E f p x i).2.1)), (5, .int ((bstF n W E f p x i).2.2)), (6, .int (nI i))] ([] : List Value) := by
    intro fu
    induction fu with
    | zero => intro i  hle hfu; exact absurd hfu (by omega)
    | succ fu ih =>
      intro i  hle11 hfu11  
      have tn_i : (nI i).toInt = ((i : Nat) : Int) := nI_toInt (by omega)
      refine g_iload C 6 rfl dX5_bestPlaceBut_11 ?_
      refine g_aload_n C 0 rfl dX5_bestPlaceBut_13 ?_
      refine g_get C b 5 0 (by omega) s0 rfl in5 (by decide) f12 (fun _ h9 => h9) rfl dX5_bestPlaceBut_14 ?_
      refine g_Vi C [] (b + 1) 4 (by omega) r0 rfl (c_X4_size l D kc N adr cell (b + 1) W T U n  ⟨r0, r1, r2, r3, by omega⟩ (by omega)) (cwV 0 C.2.2.2.2.1 gX5_bestPlaceBut_X4_size rfl rfl rfl (by decide +kernel) ⟨Nat.le_of_ble_eq_true rfl, Nat.le_of_ble_eq_true rfl⟩) rfl rfl (Nat.le_of_ble_eq_true rfl) (Nat.zero_le _) (Nat.zero_le _) dX5_bestPlaceBut_17 (fun v1 cell1 q1 => ?_)
      obtain ⟨rfl, rfl⟩ := q1
      refine g_icmp_ge C 105 (by decide) dX5_bestPlaceBut_20 (fun c20 => ?_) (fun c20 => ?_)
      · -- taken at 20
        have c20' := i_le c20
        obtain rfl : n = i := by omega
        refine g_iload_n C 3 rfl dX5_bestPlaceBut_105 ?_
        refine g_iret C hr rfl hlk dX5_bestPlaceBut_106 ?_
        exact ⟨rfl, rfl⟩
      · -- not taken at 20
        have c20' := i_nle c20
        refine g_aload_n C 0 rfl dX5_bestPlaceBut_23 ?_
        refine g_aload_n C 1 rfl dX5_bestPlaceBut_24 ?_
        refine g_iload C 6 rfl dX5_bestPlaceBut_25 ?_
        refine g_Vi C [.ref (adr a), .int (nI i)] b 5 (by omega) s0 rfl (c_X5_scoreOf l D kc N adr cell b n m ed W T U E P V F a p v f (nI i) hSt0 (by omega) ⟨a0, a1⟩ (by omega)) (cwV 2 C.2.2.2.2.1 gX5_bestPlaceBut_X5_scoreOf rfl rfl rfl (by decide +kernel) ⟨Nat.le_of_ble_eq_true rfl, Nat.le_of_ble_eq_true rfl⟩) rfl rfl (Nat.le_of_ble_eq_true rfl) (Nat.zero_le _) (Nat.zero_le _) dX5_bestPlaceBut_27 (fun v2 cell2 q2 => ?_)
        obtain ⟨rfl, rfl⟩ := q2
        refine g_istore C [(7, .int (scr n W E f (nI i))), (0, .ref (adr b)), (1, .ref (adr a)), (2, .int x), (3, .int ((bstF n W E f p x i).1)), (4, .int ((bstF n W E f p x i).2.1)), (5, .int ((bstF n W E f p x i).2.2)), (6, .int (nI i))] (by decide) rfl dX5_bestPlaceBut_30 ?_
        refine g_iload C 7 rfl dX5_bestPlaceBut_32 ?_
        refine g_aload_n C 2 rfl dX5_bestPlaceBut_34 ?_
        refine g_Vi C [] a 0 (by omega) a0 rfl (c_X0_place l D kc N adr cell a p v f  ⟨a0, a1⟩ (by omega)) (cwV 0 C.2.2.2.2.1 gX5_bestPlaceBut_X0_place rfl rfl rfl (by decide +kernel) ⟨Nat.le_of_ble_eq_true rfl, Nat.le_of_ble_eq_true rfl⟩) rfl rfl (Nat.le_of_ble_eq_true rfl) (Nat.zero_le _) (Nat.zero_le _) dX5_bestPlaceBut_35 (fun v3 cell3 q3 => ?_)
        obtain ⟨rfl, rfl⟩ := q3
        refine g_isub C dX5_bestPlaceBut_38 ?_
        refine g_abs C ab1 ab2 ab3 ab4 (Nat.le_of_ble_eq_true rfl) (Nat.le_of_ble_eq_true rfl) (Nat.zero_le _) (Nat.zero_le _) dX5_bestPlaceBut_39 ?_
        refine g_eqst (st1 := ([.int (absI (nI i - p))] : List Value)) rfl ?_
        refine g_istore C [(8, .int (absI (nI i - p))), (7, .int (scr n W E f (nI i))), (0, .ref (adr b)), (1, .ref (adr a)), (2, .int x), (3, .int ((bstF n W E f p x i).1)), (4, .int ((bstF n W E f p x i).2.1)), (5, .int ((bstF n W E f p x i).2.2)), (6, .int (nI i))] (by decide) rfl dX5_bestPlaceBut_42 ?_
        refine g_iload_n C 5 rfl dX5_bestPlaceBut_44 ?_
        refine g_iconst C (-1) (by decide) dX5_bestPlaceBut_45 ?_
        refine g_icmp_eq C 70 (by decide) dX5_bestPlaceBut_46 (fun c46 => ?_) (fun c46 => ?_)
        · -- taken at 46
          have c46' := i_eq c46
          refine g_iconst C 1 (by decide) dX5_bestPlaceBut_70 ?_
          refine g_goto C 75 (by decide) dX5_bestPlaceBut_71 ?_
          refine g_istore C [(9, .int 1), (8, .int (absI (nI i - p))), (7, .int (scr n W E f (nI i))), (0, .ref (adr b)), (1, .ref (adr a)), (2, .int x), (3, .int ((bstF n W E f p x i).1)), (4, .int ((bstF n W E f p x i).2.1)), (5, .int ((bstF n W E f p x i).2.2)), (6, .int (nI i))] (by decide) rfl dX5_bestPlaceBut_75 ?_
          refine g_iload C 9 rfl dX5_bestPlaceBut_77 ?_
          refine g_iload_n C 5 rfl dX5_bestPlaceBut_79 ?_
          refine g_icmp_eq C 99 (by decide) dX5_bestPlaceBut_80 (fun c80 => ?_) (fun c80 => ?_)
          · -- taken at 80
            have c80' := i_eq c80
            refine g_iinc C 9 [(6, .int (nI (i + 1))), (9, .int 1), (8, .int (absI (nI i - p))), (7, .int (scr n W E f (nI i))), (0, .ref (adr b)), (1, .ref (adr a)), (2, .int x), (3, .int ((bstF n W E f p x i).1)), (4, .int ((bstF n W E f p x i).2.1)), (5, .int ((bstF n W E f p x i).2.2))] rfl (iinc_nI i) (by decide) rfl dX5_bestPlaceBut_99 ?_
            refine g_goto C 11 (by decide) dX5_bestPlaceBut_102 ?_
            have hb : bstF n W E f p x (i + 1) = ((bstF n W E f p x i).1, (bstF n W E f p x i).2.1, (bstF n W E f p x i).2.2) := if_neg (fun h => h.1 c80)
            refine g_sub [4, 5, 6, 7, 8, 9, 0] rfl ?_
            have ev_4 : (bstF n W E f p x i).1 = (bstF n W E f p x (i + 1)).1 := by rw [hb]
            refine g_eqlv (lv1 := [(0, .ref (adr b)), (1, .ref (adr a)), (2, .int x), (3, .int ((bstF n W E f p x (i + 1)).1)), (4, .int ((bstF n W E f p x i).2.1)), (5, .int ((bstF n W E f p x i).2.2)), (6, .int (nI (i + 1)))]) (congrArg (fun z0 : Int32 => ([(0, .ref (adr b)), (1, .ref (adr a)), (2, .int x), (3, .int z0), (4, .int ((bstF n W E f p x i).2.1)), (5, .int ((bstF n W E f p x i).2.2)), (6, .int (nI (i + 1)))] : List (Nat × Value))) ev_4) ?_
            have ev_5 : (bstF n W E f p x i).2.1 = (bstF n W E f p x (i + 1)).2.1 := by rw [hb]
            refine g_eqlv (lv1 := [(0, .ref (adr b)), (1, .ref (adr a)), (2, .int x), (3, .int ((bstF n W E f p x (i + 1)).1)), (4, .int ((bstF n W E f p x (i + 1)).2.1)), (5, .int ((bstF n W E f p x i).2.2)), (6, .int (nI (i + 1)))]) (congrArg (fun z0 : Int32 => ([(0, .ref (adr b)), (1, .ref (adr a)), (2, .int x), (3, .int ((bstF n W E f p x (i + 1)).1)), (4, .int z0), (5, .int ((bstF n W E f p x i).2.2)), (6, .int (nI (i + 1)))] : List (Nat × Value))) ev_5) ?_
            have ev_6 : (bstF n W E f p x i).2.2 = (bstF n W E f p x (i + 1)).2.2 := by rw [hb]
            refine g_eqlv (lv1 := [(0, .ref (adr b)), (1, .ref (adr a)), (2, .int x), (3, .int ((bstF n W E f p x (i + 1)).1)), (4, .int ((bstF n W E f p x (i + 1)).2.1)), (5, .int ((bstF n W E f p x (i + 1)).2.2)), (6, .int (nI (i + 1)))]) (congrArg (fun z0 : Int32 => ([(0, .ref (adr b)), (1, .ref (adr a)), (2, .int x), (3, .int ((bstF n W E f p x (i + 1)).1)), (4, .int ((bstF n W E f p x (i + 1)).2.1)), (5, .int z0), (6, .int (nI (i + 1)))] : List (Nat × Value))) ev_6) ?_
            exact ih (i + 1) (by omega) (by omega) 
          · -- not taken at 80
            have c80' := i_ne c80
            refine g_iload C 0 rfl dX5_bestPlaceBut_83 ?_
            refine g_if_eq C 99 (by decide) dX5_bestPlaceBut_85 (fun c85 => ?_) (fun c85 => ?_)
            · -- taken at 85
              have c85' := i_eq c85
              exact absurd c85 (by decide)
            · -- not taken at 85
              have c85' := i_ne c85
              refine g_iload C 9 rfl dX5_bestPlaceBut_88 ?_
              refine g_istore_n C [(3, .int (nI i)), (9, .int 1), (8, .int (absI (nI i - p))), (7, .int (scr n W E f (nI i))), (0, .ref (adr b)), (1, .ref (adr a)), (2, .int x), (4, .int ((bstF n W E f p x i).2.1)), (5, .int ((bstF n W E f p x i).2.2)), (6, .int (nI i))] (by decide) rfl dX5_bestPlaceBut_90 ?_
              refine g_iload C 3 rfl dX5_bestPlaceBut_91 ?_
              refine g_istore C [(4, .int (scr n W E f (nI i))), (3, .int (nI i)), (9, .int 1), (8, .int (absI (nI i - p))), (7, .int (scr n W E f (nI i))), (0, .ref (adr b)), (1, .ref (adr a)), (2, .int x), (5, .int ((bstF n W E f p x i).2.2)), (6, .int (nI i))] (by decide) rfl dX5_bestPlaceBut_93 ?_
              refine g_iload C 3 rfl dX5_bestPlaceBut_95 ?_
              refine g_istore C [(5, .int (absI (nI i - p))), (4, .int (scr n W E f (nI i))), (3, .int (nI i)), (9, .int 1), (8, .int (absI (nI i - p))), (7, .int (scr n W E f (nI i))), (0, .ref (adr b)), (1, .ref (adr a)), (2, .int x), (6, .int (nI i))] (by decide) rfl dX5_bestPlaceBut_97 ?_
              refine g_iinc C 9 [(6, .int (nI (i + 1))), (5, .int (absI (nI i - p))), (4, .int (scr n W E f (nI i))), (3, .int (nI i)), (9, .int 1), (8, .int (absI (nI i - p))), (7, .int (scr n W E f (nI i))), (0, .ref (adr b)), (1, .ref (adr a)), (2, .int x)] rfl (iinc_nI i) (by decide) rfl dX5_bestPlaceBut_99 ?_
              refine g_goto C 11 (by decide) dX5_bestPlaceBut_102 ?_
              have hb : bstF n W E f p x (i + 1) = (nI i, scr n W E f (nI i), absI (nI i - p)) := if_pos ⟨c80, Or.inl c46⟩
              refine g_sub [7, 8, 9, 3, 2, 1, 0] rfl ?_
              have ev_7 : nI i = (bstF n W E f p x (i + 1)).1 := by rw [hb]
              refine g_eqlv (lv1 := [(0, .ref (adr b)), (1, .ref (adr a)), (2, .int x), (3, .int ((bstF n W E f p x (i + 1)).1)), (4, .int (scr n W E f (nI i))), (5, .int (absI (nI i - p))), (6, .int (nI (i + 1)))]) (congrArg (fun z0 : Int32 => ([(0, .ref (adr b)), (1, .ref (adr a)), (2, .int x), (3, .int z0), (4, .int (scr n W E f (nI i))), (5, .int (absI (nI i - p))), (6, .int (nI (i + 1)))] : List (Nat × Value))) ev_7) ?_
              have ev_8 : scr n W E f (nI i) = (bstF n W E f p x (i + 1)).2.1 := by rw [hb]
              refine g_eqlv (lv1 := [(0, .ref (adr b)), (1, .ref (adr a)), (2, .int x), (3, .int ((bstF n W E f p x (i + 1)).1)), (4, .int ((bstF n W E f p x (i + 1)).2.1)), (5, .int (absI (nI i - p))), (6, .int (nI (i + 1)))]) (congrArg (fun z0 : Int32 => ([(0, .ref (adr b)), (1, .ref (adr a)), (2, .int x), (3, .int ((bstF n W E f p x (i + 1)).1)), (4, .int z0), (5, .int (absI (nI i - p))), (6, .int (nI (i + 1)))] : List (Nat × Value))) ev_8) ?_
              have ev_9 : absI (nI i - p) = (bstF n W E f p x (i + 1)).2.2 := by rw [hb]
              refine g_eqlv (lv1 := [(0, .ref (adr b)), (1, .ref (adr a)), (2, .int x), (3, .int ((bstF n W E f p x (i + 1)).1)), (4, .int ((bstF n W E f p x (i + 1)).2.1)), (5, .int ((bstF n W E f p x (i + 1)).2.2)), (6, .int (nI (i + 1)))]) (congrArg (fun z0 : Int32 => ([(0, .ref (adr b)), (1, .ref (adr a)), (2, .int x), (3, .int ((bstF n W E f p x (i + 1)).1)), (4, .int ((bstF n W E f p x (i + 1)).2.1)), (5, .int z0), (6, .int (nI (i + 1)))] : List (Nat × Value))) ev_9) ?_
              exact ih (i + 1) (by omega) (by omega) 
        · -- not taken at 46
          have c46' := i_ne c46
          refine g_iload C 1 rfl dX5_bestPlaceBut_49 ?_
          refine g_iload C 6 rfl dX5_bestPlaceBut_51 ?_
          refine g_icmp_gt C 70 (by decide) dX5_bestPlaceBut_53 (fun c53 => ?_) (fun c53 => ?_)
          · -- taken at 53
            have c53' := i_lt c53
            refine g_iconst C 1 (by decide) dX5_bestPlaceBut_70 ?_
            refine g_goto C 75 (by decide) dX5_bestPlaceBut_71 ?_
            refine g_istore C [(9, .int 1), (8, .int (absI (nI i - p))), (7, .int (scr n W E f (nI i))), (0, .ref (adr b)), (1, .ref (adr a)), (2, .int x), (3, .int ((bstF n W E f p x i).1)), (4, .int ((bstF n W E f p x i).2.1)), (5, .int ((bstF n W E f p x i).2.2)), (6, .int (nI i))] (by decide) rfl dX5_bestPlaceBut_75 ?_
            refine g_iload C 9 rfl dX5_bestPlaceBut_77 ?_
            refine g_iload_n C 5 rfl dX5_bestPlaceBut_79 ?_
            refine g_icmp_eq C 99 (by decide) dX5_bestPlaceBut_80 (fun c80 => ?_) (fun c80 => ?_)
            · -- taken at 80
              have c80' := i_eq c80
              refine g_iinc C 9 [(6, .int (nI (i + 1))), (9, .int 1), (8, .int (absI (nI i - p))), (7, .int (scr n W E f (nI i))), (0, .ref (adr b)), (1, .ref (adr a)), (2, .int x), (3, .int ((bstF n W E f p x i).1)), (4, .int ((bstF n W E f p x i).2.1)), (5, .int ((bstF n W E f p x i).2.2))] rfl (iinc_nI i) (by decide) rfl dX5_bestPlaceBut_99 ?_
              refine g_goto C 11 (by decide) dX5_bestPlaceBut_102 ?_
              have hb : bstF n W E f p x (i + 1) = ((bstF n W E f p x i).1, (bstF n W E f p x i).2.1, (bstF n W E f p x i).2.2) := if_neg (fun h => h.1 c80)
              refine g_sub [4, 5, 6, 7, 8, 9, 0] rfl ?_
              have ev_10 : (bstF n W E f p x i).1 = (bstF n W E f p x (i + 1)).1 := by rw [hb]
              refine g_eqlv (lv1 := [(0, .ref (adr b)), (1, .ref (adr a)), (2, .int x), (3, .int ((bstF n W E f p x (i + 1)).1)), (4, .int ((bstF n W E f p x i).2.1)), (5, .int ((bstF n W E f p x i).2.2)), (6, .int (nI (i + 1)))]) (congrArg (fun z0 : Int32 => ([(0, .ref (adr b)), (1, .ref (adr a)), (2, .int x), (3, .int z0), (4, .int ((bstF n W E f p x i).2.1)), (5, .int ((bstF n W E f p x i).2.2)), (6, .int (nI (i + 1)))] : List (Nat × Value))) ev_10) ?_
              have ev_11 : (bstF n W E f p x i).2.1 = (bstF n W E f p x (i + 1)).2.1 := by rw [hb]
              refine g_eqlv (lv1 := [(0, .ref (adr b)), (1, .ref (adr a)), (2, .int x), (3, .int ((bstF n W E f p x (i + 1)).1)), (4, .int ((bstF n W E f p x (i + 1)).2.1)), (5, .int ((bstF n W E f p x i).2.2)), (6, .int (nI (i + 1)))]) (congrArg (fun z0 : Int32 => ([(0, .ref (adr b)), (1, .ref (adr a)), (2, .int x), (3, .int ((bstF n W E f p x (i + 1)).1)), (4, .int z0), (5, .int ((bstF n W E f p x i).2.2)), (6, .int (nI (i + 1)))] : List (Nat × Value))) ev_11) ?_
              have ev_12 : (bstF n W E f p x i).2.2 = (bstF n W E f p x (i + 1)).2.2 := by rw [hb]
              refine g_eqlv (lv1 := [(0, .ref (adr b)), (1, .ref (adr a)), (2, .int x), (3, .int ((bstF n W E f p x (i + 1)).1)), (4, .int ((bstF n W E f p x (i + 1)).2.1)), (5, .int ((bstF n W E f p x (i + 1)).2.2)), (6, .int (nI (i + 1)))]) (congrArg (fun z0 : Int32 => ([(0, .ref (adr b)), (1, .ref (adr a)), (2, .int x), (3, .int ((bstF n W E f p x (i + 1)).1)), (4, .int ((bstF n W E f p x (i + 1)).2.1)), (5, .int z0), (6, .int (nI (i + 1)))] : List (Nat × Value))) ev_12) ?_
              exact ih (i + 1) (by omega) (by omega) 
            · -- not taken at 80
              have c80' := i_ne c80
              refine g_iload C 0 rfl dX5_bestPlaceBut_83 ?_
              refine g_if_eq C 99 (by decide) dX5_bestPlaceBut_85 (fun c85 => ?_) (fun c85 => ?_)
              · -- taken at 85
                have c85' := i_eq c85
                exact absurd c85 (by decide)
              · -- not taken at 85
                have c85' := i_ne c85
                refine g_iload C 9 rfl dX5_bestPlaceBut_88 ?_
                refine g_istore_n C [(3, .int (nI i)), (9, .int 1), (8, .int (absI (nI i - p))), (7, .int (scr n W E f (nI i))), (0, .ref (adr b)), (1, .ref (adr a)), (2, .int x), (4, .int ((bstF n W E f p x i).2.1)), (5, .int ((bstF n W E f p x i).2.2)), (6, .int (nI i))] (by decide) rfl dX5_bestPlaceBut_90 ?_
                refine g_iload C 3 rfl dX5_bestPlaceBut_91 ?_
                refine g_istore C [(4, .int (scr n W E f (nI i))), (3, .int (nI i)), (9, .int 1), (8, .int (absI (nI i - p))), (7, .int (scr n W E f (nI i))), (0, .ref (adr b)), (1, .ref (adr a)), (2, .int x), (5, .int ((bstF n W E f p x i).2.2)), (6, .int (nI i))] (by decide) rfl dX5_bestPlaceBut_93 ?_
                refine g_iload C 3 rfl dX5_bestPlaceBut_95 ?_
                refine g_istore C [(5, .int (absI (nI i - p))), (4, .int (scr n W E f (nI i))), (3, .int (nI i)), (9, .int 1), (8, .int (absI (nI i - p))), (7, .int (scr n W E f (nI i))), (0, .ref (adr b)), (1, .ref (adr a)), (2, .int x), (6, .int (nI i))] (by decide) rfl dX5_bestPlaceBut_97 ?_
                refine g_iinc C 9 [(6, .int (nI (i + 1))), (5, .int (absI (nI i - p))), (4, .int (scr n W E f (nI i))), (3, .int (nI i)), (9, .int 1), (8, .int (absI (nI i - p))), (7, .int (scr n W E f (nI i))), (0, .ref (adr b)), (1, .ref (adr a)), (2, .int x)] rfl (iinc_nI i) (by decide) rfl dX5_bestPlaceBut_99 ?_
                refine g_goto C 11 (by decide) dX5_bestPlaceBut_102 ?_
                have hb : bstF n W E f p x (i + 1) = (nI i, scr n W E f (nI i), absI (nI i - p)) := if_pos ⟨c80, Or.inr (Or.inl c53)⟩
                refine g_sub [7, 8, 9, 3, 2, 1, 0] rfl ?_
                have ev_13 : nI i = (bstF n W E f p x (i + 1)).1 := by rw [hb]
                refine g_eqlv (lv1 := [(0, .ref (adr b)), (1, .ref (adr a)), (2, .int x), (3, .int ((bstF n W E f p x (i + 1)).1)), (4, .int (scr n W E f (nI i))), (5, .int (absI (nI i - p))), (6, .int (nI (i + 1)))]) (congrArg (fun z0 : Int32 => ([(0, .ref (adr b)), (1, .ref (adr a)), (2, .int x), (3, .int z0), (4, .int (scr n W E f (nI i))), (5, .int (absI (nI i - p))), (6, .int (nI (i + 1)))] : List (Nat × Value))) ev_13) ?_
                have ev_14 : scr n W E f (nI i) = (bstF n W E f p x (i + 1)).2.1 := by rw [hb]
                refine g_eqlv (lv1 := [(0, .ref (adr b)), (1, .ref (adr a)), (2, .int x), (3, .int ((bstF n W E f p x (i + 1)).1)), (4, .int ((bstF n W E f p x (i + 1)).2.1)), (5, .int (absI (nI i - p))), (6, .int (nI (i + 1)))]) (congrArg (fun z0 : Int32 => ([(0, .ref (adr b)), (1, .ref (adr a)), (2, .int x), (3, .int ((bstF n W E f p x (i + 1)).1)), (4, .int z0), (5, .int (absI (nI i - p))), (6, .int (nI (i + 1)))] : List (Nat × Value))) ev_14) ?_
                have ev_15 : absI (nI i - p) = (bstF n W E f p x (i + 1)).2.2 := by rw [hb]
                refine g_eqlv (lv1 := [(0, .ref (adr b)), (1, .ref (adr a)), (2, .int x), (3, .int ((bstF n W E f p x (i + 1)).1)), (4, .int ((bstF n W E f p x (i + 1)).2.1)), (5, .int ((bstF n W E f p x (i + 1)).2.2)), (6, .int (nI (i + 1)))]) (congrArg (fun z0 : Int32 => ([(0, .ref (adr b)), (1, .ref (adr a)), (2, .int x), (3, .int ((bstF n W E f p x (i + 1)).1)), (4, .int ((bstF n W E f p x (i + 1)).2.1)), (5, .int z0), (6, .int (nI (i + 1)))] : List (Nat × Value))) ev_15) ?_
                exact ih (i + 1) (by omega) (by omega) 
          · -- not taken at 53
            have c53' := i_nlt c53
            refine g_iload C 1 rfl dX5_bestPlaceBut_56 ?_
            refine g_iload C 6 rfl dX5_bestPlaceBut_58 ?_
            refine g_icmp_ne C 74 (by decide) dX5_bestPlaceBut_60 (fun c60 => ?_) (fun c60 => ?_)
            · -- taken at 60
              have c60' := i_ne c60
              refine g_iconst C 0 (by decide) dX5_bestPlaceBut_74 ?_
              refine g_istore C [(9, .int 0), (8, .int (absI (nI i - p))), (7, .int (scr n W E f (nI i))), (0, .ref (adr b)), (1, .ref (adr a)), (2, .int x), (3, .int ((bstF n W E f p x i).1)), (4, .int ((bstF n W E f p x i).2.1)), (5, .int ((bstF n W E f p x i).2.2)), (6, .int (nI i))] (by decide) rfl dX5_bestPlaceBut_75 ?_
              refine g_iload C 9 rfl dX5_bestPlaceBut_77 ?_
              refine g_iload_n C 5 rfl dX5_bestPlaceBut_79 ?_
              refine g_icmp_eq C 99 (by decide) dX5_bestPlaceBut_80 (fun c80 => ?_) (fun c80 => ?_)
              · -- taken at 80
                have c80' := i_eq c80
                refine g_iinc C 9 [(6, .int (nI (i + 1))), (9, .int 0), (8, .int (absI (nI i - p))), (7, .int (scr n W E f (nI i))), (0, .ref (adr b)), (1, .ref (adr a)), (2, .int x), (3, .int ((bstF n W E f p x i).1)), (4, .int ((bstF n W E f p x i).2.1)), (5, .int ((bstF n W E f p x i).2.2))] rfl (iinc_nI i) (by decide) rfl dX5_bestPlaceBut_99 ?_
                refine g_goto C 11 (by decide) dX5_bestPlaceBut_102 ?_
                have hb : bstF n W E f p x (i + 1) = ((bstF n W E f p x i).1, (bstF n W E f p x i).2.1, (bstF n W E f p x i).2.2) := if_neg (fun h => h.1 c80)
                refine g_sub [4, 5, 6, 7, 8, 9, 0] rfl ?_
                have ev_16 : (bstF n W E f p x i).1 = (bstF n W E f p x (i + 1)).1 := by rw [hb]
                refine g_eqlv (lv1 := [(0, .ref (adr b)), (1, .ref (adr a)), (2, .int x), (3, .int ((bstF n W E f p x (i + 1)).1)), (4, .int ((bstF n W E f p x i).2.1)), (5, .int ((bstF n W E f p x i).2.2)), (6, .int (nI (i + 1)))]) (congrArg (fun z0 : Int32 => ([(0, .ref (adr b)), (1, .ref (adr a)), (2, .int x), (3, .int z0), (4, .int ((bstF n W E f p x i).2.1)), (5, .int ((bstF n W E f p x i).2.2)), (6, .int (nI (i + 1)))] : List (Nat × Value))) ev_16) ?_
                have ev_17 : (bstF n W E f p x i).2.1 = (bstF n W E f p x (i + 1)).2.1 := by rw [hb]
                refine g_eqlv (lv1 := [(0, .ref (adr b)), (1, .ref (adr a)), (2, .int x), (3, .int ((bstF n W E f p x (i + 1)).1)), (4, .int ((bstF n W E f p x (i + 1)).2.1)), (5, .int ((bstF n W E f p x i).2.2)), (6, .int (nI (i + 1)))]) (congrArg (fun z0 : Int32 => ([(0, .ref (adr b)), (1, .ref (adr a)), (2, .int x), (3, .int ((bstF n W E f p x (i + 1)).1)), (4, .int z0), (5, .int ((bstF n W E f p x i).2.2)), (6, .int (nI (i + 1)))] : List (Nat × Value))) ev_17) ?_
                have ev_18 : (bstF n W E f p x i).2.2 = (bstF n W E f p x (i + 1)).2.2 := by rw [hb]
                refine g_eqlv (lv1 := [(0, .ref (adr b)), (1, .ref (adr a)), (2, .int x), (3, .int ((bstF n W E f p x (i + 1)).1)), (4, .int ((bstF n W E f p x (i + 1)).2.1)), (5, .int ((bstF n W E f p x (i + 1)).2.2)), (6, .int (nI (i + 1)))]) (congrArg (fun z0 : Int32 => ([(0, .ref (adr b)), (1, .ref (adr a)), (2, .int x), (3, .int ((bstF n W E f p x (i + 1)).1)), (4, .int ((bstF n W E f p x (i + 1)).2.1)), (5, .int z0), (6, .int (nI (i + 1)))] : List (Nat × Value))) ev_18) ?_
                exact ih (i + 1) (by omega) (by omega) 
              · -- not taken at 80
                have c80' := i_ne c80
                refine g_iload C 0 rfl dX5_bestPlaceBut_83 ?_
                refine g_if_eq C 99 (by decide) dX5_bestPlaceBut_85 (fun c85 => ?_) (fun c85 => ?_)
                · -- taken at 85
                  have c85' := i_eq c85
                  refine g_iinc C 9 [(6, .int (nI (i + 1))), (9, .int 0), (8, .int (absI (nI i - p))), (7, .int (scr n W E f (nI i))), (0, .ref (adr b)), (1, .ref (adr a)), (2, .int x), (3, .int ((bstF n W E f p x i).1)), (4, .int ((bstF n W E f p x i).2.1)), (5, .int ((bstF n W E f p x i).2.2))] rfl (iinc_nI i) (by decide) rfl dX5_bestPlaceBut_99 ?_
                  refine g_goto C 11 (by decide) dX5_bestPlaceBut_102 ?_
                  have hb : bstF n W E f p x (i + 1) = ((bstF n W E f p x i).1, (bstF n W E f p x i).2.1, (bstF n W E f p x i).2.2) := if_neg (fun h => h.2.elim c46 (fun h => h.elim c53 (fun h => c60 h.1)))
                  refine g_sub [4, 5, 6, 7, 8, 9, 0] rfl ?_
                  have ev_19 : (bstF n W E f p x i).1 = (bstF n W E f p x (i + 1)).1 := by rw [hb]
                  refine g_eqlv (lv1 := [(0, .ref (adr b)), (1, .ref (adr a)), (2, .int x), (3, .int ((bstF n W E f p x (i + 1)).1)), (4, .int ((bstF n W E f p x i).2.1)), (5, .int ((bstF n W E f p x i).2.2)), (6, .int (nI (i + 1)))]) (congrArg (fun z0 : Int32 => ([(0, .ref (adr b)), (1, .ref (adr a)), (2, .int x), (3, .int z0), (4, .int ((bstF n W E f p x i).2.1)), (5, .int ((bstF n W E f p x i).2.2)), (6, .int (nI (i + 1)))] : List (Nat × Value))) ev_19) ?_
                  have ev_20 : (bstF n W E f p x i).2.1 = (bstF n W E f p x (i + 1)).2.1 := by rw [hb]
                  refine g_eqlv (lv1 := [(0, .ref (adr b)), (1, .ref (adr a)), (2, .int x), (3, .int ((bstF n W E f p x (i + 1)).1)), (4, .int ((bstF n W E f p x (i + 1)).2.1)), (5, .int ((bstF n W E f p x i).2.2)), (6, .int (nI (i + 1)))]) (congrArg (fun z0 : Int32 => ([(0, .ref (adr b)), (1, .ref (adr a)), (2, .int x), (3, .int ((bstF n W E f p x (i + 1)).1)), (4, .int z0), (5, .int ((bstF n W E f p x i).2.2)), (6, .int (nI (i + 1)))] : List (Nat × Value))) ev_20) ?_
                  have ev_21 : (bstF n W E f p x i).2.2 = (bstF n W E f p x (i + 1)).2.2 := by rw [hb]
                  refine g_eqlv (lv1 := [(0, .ref (adr b)), (1, .ref (adr a)), (2, .int x), (3, .int ((bstF n W E f p x (i + 1)).1)), (4, .int ((bstF n W E f p x (i + 1)).2.1)), (5, .int ((bstF n W E f p x (i + 1)).2.2)), (6, .int (nI (i + 1)))]) (congrArg (fun z0 : Int32 => ([(0, .ref (adr b)), (1, .ref (adr a)), (2, .int x), (3, .int ((bstF n W E f p x (i + 1)).1)), (4, .int ((bstF n W E f p x (i + 1)).2.1)), (5, .int z0), (6, .int (nI (i + 1)))] : List (Nat × Value))) ev_21) ?_
                  exact ih (i + 1) (by omega) (by omega) 
                · -- not taken at 85
                  have c85' := i_ne c85
                  exact absurd c85 (by decide)
            · -- not taken at 60
              have c60' := i_eq c60
              refine g_iload C 0 rfl dX5_bestPlaceBut_63 ?_
              refine g_iload C 7 rfl dX5_bestPlaceBut_65 ?_
              refine g_icmp_ge C 74 (by decide) dX5_bestPlaceBut_67 (fun c67 => ?_) (fun c67 => ?_)
              · -- taken at 67
                have c67' := i_le c67
                refine g_iconst C 0 (by decide) dX5_bestPlaceBut_74 ?_
                refine g_istore C [(9, .int 0), (8, .int (absI (nI i - p))), (7, .int (scr n W E f (nI i))), (0, .ref (adr b)), (1, .ref (adr a)), (2, .int x), (3, .int ((bstF n W E f p x i).1)), (4, .int ((bstF n W E f p x i).2.1)), (5, .int ((bstF n W E f p x i).2.2)), (6, .int (nI i))] (by decide) rfl dX5_bestPlaceBut_75 ?_
                refine g_iload C 9 rfl dX5_bestPlaceBut_77 ?_
                refine g_iload_n C 5 rfl dX5_bestPlaceBut_79 ?_
                refine g_icmp_eq C 99 (by decide) dX5_bestPlaceBut_80 (fun c80 => ?_) (fun c80 => ?_)
                · -- taken at 80
                  have c80' := i_eq c80
                  refine g_iinc C 9 [(6, .int (nI (i + 1))), (9, .int 0), (8, .int (absI (nI i - p))), (7, .int (scr n W E f (nI i))), (0, .ref (adr b)), (1, .ref (adr a)), (2, .int x), (3, .int ((bstF n W E f p x i).1)), (4, .int ((bstF n W E f p x i).2.1)), (5, .int ((bstF n W E f p x i).2.2))] rfl (iinc_nI i) (by decide) rfl dX5_bestPlaceBut_99 ?_
                  refine g_goto C 11 (by decide) dX5_bestPlaceBut_102 ?_
                  have hb : bstF n W E f p x (i + 1) = ((bstF n W E f p x i).1, (bstF n W E f p x i).2.1, (bstF n W E f p x i).2.2) := if_neg (fun h => h.1 c80)
                  refine g_sub [4, 5, 6, 7, 8, 9, 0] rfl ?_
                  have ev_22 : (bstF n W E f p x i).1 = (bstF n W E f p x (i + 1)).1 := by rw [hb]
                  refine g_eqlv (lv1 := [(0, .ref (adr b)), (1, .ref (adr a)), (2, .int x), (3, .int ((bstF n W E f p x (i + 1)).1)), (4, .int ((bstF n W E f p x i).2.1)), (5, .int ((bstF n W E f p x i).2.2)), (6, .int (nI (i + 1)))]) (congrArg (fun z0 : Int32 => ([(0, .ref (adr b)), (1, .ref (adr a)), (2, .int x), (3, .int z0), (4, .int ((bstF n W E f p x i).2.1)), (5, .int ((bstF n W E f p x i).2.2)), (6, .int (nI (i + 1)))] : List (Nat × Value))) ev_22) ?_
                  have ev_23 : (bstF n W E f p x i).2.1 = (bstF n W E f p x (i + 1)).2.1 := by rw [hb]
                  refine g_eqlv (lv1 := [(0, .ref (adr b)), (1, .ref (adr a)), (2, .int x), (3, .int ((bstF n W E f p x (i + 1)).1)), (4, .int ((bstF n W E f p x (i + 1)).2.1)), (5, .int ((bstF n W E f p x i).2.2)), (6, .int (nI (i + 1)))]) (congrArg (fun z0 : Int32 => ([(0, .ref (adr b)), (1, .ref (adr a)), (2, .int x), (3, .int ((bstF n W E f p x (i + 1)).1)), (4, .int z0), (5, .int ((bstF n W E f p x i).2.2)), (6, .int (nI (i + 1)))] : List (Nat × Value))) ev_23) ?_
                  have ev_24 : (bstF n W E f p x i).2.2 = (bstF n W E f p x (i + 1)).2.2 := by rw [hb]
                  refine g_eqlv (lv1 := [(0, .ref (adr b)), (1, .ref (adr a)), (2, .int x), (3, .int ((bstF n W E f p x (i + 1)).1)), (4, .int ((bstF n W E f p x (i + 1)).2.1)), (5, .int ((bstF n W E f p x (i + 1)).2.2)), (6, .int (nI (i + 1)))]) (congrArg (fun z0 : Int32 => ([(0, .ref (adr b)), (1, .ref (adr a)), (2, .int x), (3, .int ((bstF n W E f p x (i + 1)).1)), (4, .int ((bstF n W E f p x (i + 1)).2.1)), (5, .int z0), (6, .int (nI (i + 1)))] : List (Nat × Value))) ev_24) ?_
                  exact ih (i + 1) (by omega) (by omega) 
                · -- not taken at 80
                  have c80' := i_ne c80
                  refine g_iload C 0 rfl dX5_bestPlaceBut_83 ?_
                  refine g_if_eq C 99 (by decide) dX5_bestPlaceBut_85 (fun c85 => ?_) (fun c85 => ?_)
                  · -- taken at 85
                    have c85' := i_eq c85
                    refine g_iinc C 9 [(6, .int (nI (i + 1))), (9, .int 0), (8, .int (absI (nI i - p))), (7, .int (scr n W E f (nI i))), (0, .ref (adr b)), (1, .ref (adr a)), (2, .int x), (3, .int ((bstF n W E f p x i).1)), (4, .int ((bstF n W E f p x i).2.1)), (5, .int ((bstF n W E f p x i).2.2))] rfl (iinc_nI i) (by decide) rfl dX5_bestPlaceBut_99 ?_
                    refine g_goto C 11 (by decide) dX5_bestPlaceBut_102 ?_
                    have hb : bstF n W E f p x (i + 1) = ((bstF n W E f p x i).1, (bstF n W E f p x i).2.1, (bstF n W E f p x i).2.2) := if_neg (fun h => h.2.elim c46 (fun h => h.elim c53 (fun h => h.2 c67)))
                    refine g_sub [4, 5, 6, 7, 8, 9, 0] rfl ?_
                    have ev_25 : (bstF n W E f p x i).1 = (bstF n W E f p x (i + 1)).1 := by rw [hb]
                    refine g_eqlv (lv1 := [(0, .ref (adr b)), (1, .ref (adr a)), (2, .int x), (3, .int ((bstF n W E f p x (i + 1)).1)), (4, .int ((bstF n W E f p x i).2.1)), (5, .int ((bstF n W E f p x i).2.2)), (6, .int (nI (i + 1)))]) (congrArg (fun z0 : Int32 => ([(0, .ref (adr b)), (1, .ref (adr a)), (2, .int x), (3, .int z0), (4, .int ((bstF n W E f p x i).2.1)), (5, .int ((bstF n W E f p x i).2.2)), (6, .int (nI (i + 1)))] : List (Nat × Value))) ev_25) ?_
                    have ev_26 : (bstF n W E f p x i).2.1 = (bstF n W E f p x (i + 1)).2.1 := by rw [hb]
                    refine g_eqlv (lv1 := [(0, .ref (adr b)), (1, .ref (adr a)), (2, .int x), (3, .int ((bstF n W E f p x (i + 1)).1)), (4, .int ((bstF n W E f p x (i + 1)).2.1)), (5, .int ((bstF n W E f p x i).2.2)), (6, .int (nI (i + 1)))]) (congrArg (fun z0 : Int32 => ([(0, .ref (adr b)), (1, .ref (adr a)), (2, .int x), (3, .int ((bstF n W E f p x (i + 1)).1)), (4, .int z0), (5, .int ((bstF n W E f p x i).2.2)), (6, .int (nI (i + 1)))] : List (Nat × Value))) ev_26) ?_
                    have ev_27 : (bstF n W E f p x i).2.2 = (bstF n W E f p x (i + 1)).2.2 := by rw [hb]
                    refine g_eqlv (lv1 := [(0, .ref (adr b)), (1, .ref (adr a)), (2, .int x), (3, .int ((bstF n W E f p x (i + 1)).1)), (4, .int ((bstF n W E f p x (i + 1)).2.1)), (5, .int ((bstF n W E f p x (i + 1)).2.2)), (6, .int (nI (i + 1)))]) (congrArg (fun z0 : Int32 => ([(0, .ref (adr b)), (1, .ref (adr a)), (2, .int x), (3, .int ((bstF n W E f p x (i + 1)).1)), (4, .int ((bstF n W E f p x (i + 1)).2.1)), (5, .int z0), (6, .int (nI (i + 1)))] : List (Nat × Value))) ev_27) ?_
                    exact ih (i + 1) (by omega) (by omega) 
                  · -- not taken at 85
                    have c85' := i_ne c85
                    exact absurd c85 (by decide)
              · -- not taken at 67
                have c67' := i_nle c67
                refine g_iconst C 1 (by decide) dX5_bestPlaceBut_70 ?_
                refine g_goto C 75 (by decide) dX5_bestPlaceBut_71 ?_
                refine g_istore C [(9, .int 1), (8, .int (absI (nI i - p))), (7, .int (scr n W E f (nI i))), (0, .ref (adr b)), (1, .ref (adr a)), (2, .int x), (3, .int ((bstF n W E f p x i).1)), (4, .int ((bstF n W E f p x i).2.1)), (5, .int ((bstF n W E f p x i).2.2)), (6, .int (nI i))] (by decide) rfl dX5_bestPlaceBut_75 ?_
                refine g_iload C 9 rfl dX5_bestPlaceBut_77 ?_
                refine g_iload_n C 5 rfl dX5_bestPlaceBut_79 ?_
                refine g_icmp_eq C 99 (by decide) dX5_bestPlaceBut_80 (fun c80 => ?_) (fun c80 => ?_)
                · -- taken at 80
                  have c80' := i_eq c80
                  refine g_iinc C 9 [(6, .int (nI (i + 1))), (9, .int 1), (8, .int (absI (nI i - p))), (7, .int (scr n W E f (nI i))), (0, .ref (adr b)), (1, .ref (adr a)), (2, .int x), (3, .int ((bstF n W E f p x i).1)), (4, .int ((bstF n W E f p x i).2.1)), (5, .int ((bstF n W E f p x i).2.2))] rfl (iinc_nI i) (by decide) rfl dX5_bestPlaceBut_99 ?_
                  refine g_goto C 11 (by decide) dX5_bestPlaceBut_102 ?_
                  have hb : bstF n W E f p x (i + 1) = ((bstF n W E f p x i).1, (bstF n W E f p x i).2.1, (bstF n W E f p x i).2.2) := if_neg (fun h => h.1 c80)
                  refine g_sub [4, 5, 6, 7, 8, 9, 0] rfl ?_
                  have ev_28 : (bstF n W E f p x i).1 = (bstF n W E f p x (i + 1)).1 := by rw [hb]
                  refine g_eqlv (lv1 := [(0, .ref (adr b)), (1, .ref (adr a)), (2, .int x), (3, .int ((bstF n W E f p x (i + 1)).1)), (4, .int ((bstF n W E f p x i).2.1)), (5, .int ((bstF n W E f p x i).2.2)), (6, .int (nI (i + 1)))]) (congrArg (fun z0 : Int32 => ([(0, .ref (adr b)), (1, .ref (adr a)), (2, .int x), (3, .int z0), (4, .int ((bstF n W E f p x i).2.1)), (5, .int ((bstF n W E f p x i).2.2)), (6, .int (nI (i + 1)))] : List (Nat × Value))) ev_28) ?_
                  have ev_29 : (bstF n W E f p x i).2.1 = (bstF n W E f p x (i + 1)).2.1 := by rw [hb]
                  refine g_eqlv (lv1 := [(0, .ref (adr b)), (1, .ref (adr a)), (2, .int x), (3, .int ((bstF n W E f p x (i + 1)).1)), (4, .int ((bstF n W E f p x (i + 1)).2.1)), (5, .int ((bstF n W E f p x i).2.2)), (6, .int (nI (i + 1)))]) (congrArg (fun z0 : Int32 => ([(0, .ref (adr b)), (1, .ref (adr a)), (2, .int x), (3, .int ((bstF n W E f p x (i + 1)).1)), (4, .int z0), (5, .int ((bstF n W E f p x i).2.2)), (6, .int (nI (i + 1)))] : List (Nat × Value))) ev_29) ?_
                  have ev_30 : (bstF n W E f p x i).2.2 = (bstF n W E f p x (i + 1)).2.2 := by rw [hb]
                  refine g_eqlv (lv1 := [(0, .ref (adr b)), (1, .ref (adr a)), (2, .int x), (3, .int ((bstF n W E f p x (i + 1)).1)), (4, .int ((bstF n W E f p x (i + 1)).2.1)), (5, .int ((bstF n W E f p x (i + 1)).2.2)), (6, .int (nI (i + 1)))]) (congrArg (fun z0 : Int32 => ([(0, .ref (adr b)), (1, .ref (adr a)), (2, .int x), (3, .int ((bstF n W E f p x (i + 1)).1)), (4, .int ((bstF n W E f p x (i + 1)).2.1)), (5, .int z0), (6, .int (nI (i + 1)))] : List (Nat × Value))) ev_30) ?_
                  exact ih (i + 1) (by omega) (by omega) 
                · -- not taken at 80
                  have c80' := i_ne c80
                  refine g_iload C 0 rfl dX5_bestPlaceBut_83 ?_
                  refine g_if_eq C 99 (by decide) dX5_bestPlaceBut_85 (fun c85 => ?_) (fun c85 => ?_)
                  · -- taken at 85
                    have c85' := i_eq c85
                    exact absurd c85 (by decide)
                  · -- not taken at 85
                    have c85' := i_ne c85
                    refine g_iload C 9 rfl dX5_bestPlaceBut_88 ?_
                    refine g_istore_n C [(3, .int (nI i)), (9, .int 1), (8, .int (absI (nI i - p))), (7, .int (scr n W E f (nI i))), (0, .ref (adr b)), (1, .ref (adr a)), (2, .int x), (4, .int ((bstF n W E f p x i).2.1)), (5, .int ((bstF n W E f p x i).2.2)), (6, .int (nI i))] (by decide) rfl dX5_bestPlaceBut_90 ?_
                    refine g_iload C 3 rfl dX5_bestPlaceBut_91 ?_
                    refine g_istore C [(4, .int (scr n W E f (nI i))), (3, .int (nI i)), (9, .int 1), (8, .int (absI (nI i - p))), (7, .int (scr n W E f (nI i))), (0, .ref (adr b)), (1, .ref (adr a)), (2, .int x), (5, .int ((bstF n W E f p x i).2.2)), (6, .int (nI i))] (by decide) rfl dX5_bestPlaceBut_93 ?_
                    refine g_iload C 3 rfl dX5_bestPlaceBut_95 ?_
                    refine g_istore C [(5, .int (absI (nI i - p))), (4, .int (scr n W E f (nI i))), (3, .int (nI i)), (9, .int 1), (8, .int (absI (nI i - p))), (7, .int (scr n W E f (nI i))), (0, .ref (adr b)), (1, .ref (adr a)), (2, .int x), (6, .int (nI i))] (by decide) rfl dX5_bestPlaceBut_97 ?_
                    refine g_iinc C 9 [(6, .int (nI (i + 1))), (5, .int (absI (nI i - p))), (4, .int (scr n W E f (nI i))), (3, .int (nI i)), (9, .int 1), (8, .int (absI (nI i - p))), (7, .int (scr n W E f (nI i))), (0, .ref (adr b)), (1, .ref (adr a)), (2, .int x)] rfl (iinc_nI i) (by decide) rfl dX5_bestPlaceBut_99 ?_
                    refine g_goto C 11 (by decide) dX5_bestPlaceBut_102 ?_
                    have hb : bstF n W E f p x (i + 1) = (nI i, scr n W E f (nI i), absI (nI i - p)) := if_pos ⟨c80, Or.inr (Or.inr ⟨c60, c67⟩)⟩
                    refine g_sub [7, 8, 9, 3, 2, 1, 0] rfl ?_
                    have ev_31 : nI i = (bstF n W E f p x (i + 1)).1 := by rw [hb]
                    refine g_eqlv (lv1 := [(0, .ref (adr b)), (1, .ref (adr a)), (2, .int x), (3, .int ((bstF n W E f p x (i + 1)).1)), (4, .int (scr n W E f (nI i))), (5, .int (absI (nI i - p))), (6, .int (nI (i + 1)))]) (congrArg (fun z0 : Int32 => ([(0, .ref (adr b)), (1, .ref (adr a)), (2, .int x), (3, .int z0), (4, .int (scr n W E f (nI i))), (5, .int (absI (nI i - p))), (6, .int (nI (i + 1)))] : List (Nat × Value))) ev_31) ?_
                    have ev_32 : scr n W E f (nI i) = (bstF n W E f p x (i + 1)).2.1 := by rw [hb]
                    refine g_eqlv (lv1 := [(0, .ref (adr b)), (1, .ref (adr a)), (2, .int x), (3, .int ((bstF n W E f p x (i + 1)).1)), (4, .int ((bstF n W E f p x (i + 1)).2.1)), (5, .int (absI (nI i - p))), (6, .int (nI (i + 1)))]) (congrArg (fun z0 : Int32 => ([(0, .ref (adr b)), (1, .ref (adr a)), (2, .int x), (3, .int ((bstF n W E f p x (i + 1)).1)), (4, .int z0), (5, .int (absI (nI i - p))), (6, .int (nI (i + 1)))] : List (Nat × Value))) ev_32) ?_
                    have ev_33 : absI (nI i - p) = (bstF n W E f p x (i + 1)).2.2 := by rw [hb]
                    refine g_eqlv (lv1 := [(0, .ref (adr b)), (1, .ref (adr a)), (2, .int x), (3, .int ((bstF n W E f p x (i + 1)).1)), (4, .int ((bstF n W E f p x (i + 1)).2.1)), (5, .int ((bstF n W E f p x (i + 1)).2.2)), (6, .int (nI (i + 1)))]) (congrArg (fun z0 : Int32 => ([(0, .ref (adr b)), (1, .ref (adr a)), (2, .int x), (3, .int ((bstF n W E f p x (i + 1)).1)), (4, .int ((bstF n W E f p x (i + 1)).2.1)), (5, .int z0), (6, .int (nI (i + 1)))] : List (Nat × Value))) ev_33) ?_
                    exact ih (i + 1) (by omega) (by omega) 
  refine g_sub [4, 5, 6, 3, 2, 1, 0] rfl ?_
  have ev_34 : (-1) = (bstF n W E f p x 0).1 := by rfl
  refine g_eqlv (lv1 := [(0, .ref (adr b)), (1, .ref (adr a)), (2, .int x), (3, .int ((bstF n W E f p x 0).1)), (4, .int 0), (5, .int 0), (6, .int 0)]) (congrArg (fun z0 : Int32 => ([(0, .ref (adr b)), (1, .ref (adr a)), (2, .int x), (3, .int z0), (4, .int 0), (5, .int 0), (6, .int 0)] : List (Nat × Value))) ev_34) ?_
  have ev_35 : 0 = (bstF n W E f p x 0).2.1 := by rfl
  refine g_eqlv (lv1 := [(0, .ref (adr b)), (1, .ref (adr a)), (2, .int x), (3, .int ((bstF n W E f p x 0).1)), (4, .int ((bstF n W E f p x 0).2.1)), (5, .int 0), (6, .int 0)]) (congrArg (fun z0 : Int32 => ([(0, .ref (adr b)), (1, .ref (adr a)), (2, .int x), (3, .int ((bstF n W E f p x 0).1)), (4, .int z0), (5, .int 0), (6, .int 0)] : List (Nat × Value))) ev_35) ?_
  have ev_36 : 0 = (bstF n W E f p x 0).2.2 := by rfl
  refine g_eqlv (lv1 := [(0, .ref (adr b)), (1, .ref (adr a)), (2, .int x), (3, .int ((bstF n W E f p x 0).1)), (4, .int ((bstF n W E f p x 0).2.1)), (5, .int ((bstF n W E f p x 0).2.2)), (6, .int 0)]) (congrArg (fun z0 : Int32 => ([(0, .ref (adr b)), (1, .ref (adr a)), (2, .int x), (3, .int ((bstF n W E f p x 0).1)), (4, .int ((bstF n W E f p x 0).2.1)), (5, .int z0), (6, .int 0)] : List (Nat × Value))) ev_36) ?_
  exact L11 (n + 1) 0 (by omega) (by omega) 
set_option maxRecDepth 100000 in
set_option maxHeartbeats 4000000 in
theorem c_X5_bestPlace (l : Launch) (D : va_G) (kc : Nat → ClassId) (N : Nat) (adr : Nat → Nat) (cell : Nat → va_E) (b n m : Nat) (ed : Int32) (W T U E P V : Nat → Int32) (F : Nat → Nat → Int32) (a : Nat) (p v : Int32) (f : Nat → Int32)  (hSt : StAt cell adr kc b (n, m, ed, W, T, U, E, P, V, F)) (hN : b + 19 ≤ N) (hA : AncAt cell adr kc a p v f) (hNa : a + 2 ≤ N) : MI l yX5_bestPlace wsX5_bestPlace ({ frames := 3, cells := 0, slots := 0, locals := 75 }) D kc N adr cell [.ref (adr b), .ref (adr a)] (fun (w : Int32) (cell1 : Nat → va_E) => bpF n W E f p (-1) = w ∧ cell = cell1) := by
  refine met_i (cc := cX5_bestPlace) (maxL := 2) (ret := (some .int)) (by decide) rfl (Nat.le_of_ble_eq_true rfl) (lv := [(0, .ref (adr b)), (1, .ref (adr a))]) rfl ?_
  intro Pg Ev Sv Mi args below Me Cd Ar C hr hlk hnm
  have hSt0 := hSt
  obtain ⟨s0, hRw, ⟨gg, s5, hg⟩, s6, hAn, hm⟩ := hSt
  have s0 : cell b = .inr (5, [.ref (adr (b + 1)), .ref (adr (b + 5)), .ref (adr (b + 6)), .int (nI m), .int ed]) := s0
  have hRw : RowAt cell adr kc (b + 1) W T U n := hRw
  have s6 : cell (b + 6) = .inl (kc 0, 5, .inl E) := s6
  have hAn : AnsAt cell adr kc b P V F := hAn
  have hm : m ≤ 6 := hm
  obtain ⟨r0, r1, r2, r3, hn⟩ := hRw
  have hA0 := hA
  obtain ⟨a0, a1⟩ := hA
  have litm1 : ((-1) : Int32).toInt = -1 := rfl
  have lit0 : (0 : Int32).toInt = 0 := rfl
  have lit1 : (1 : Int32).toInt = 1 := rfl
  have tn_n : (nI n).toInt = ((n : Nat) : Int) := nI_toInt (by omega)
  have tn_m : (nI m).toInt = ((m : Nat) : Int) := nI_toInt (by omega)
  refine g_aload_n C 0 rfl dX5_bestPlace_0 ?_
  refine g_aload_n C 1 rfl dX5_bestPlace_1 ?_
  refine g_iconst C (-1) (by decide) dX5_bestPlace_2 ?_
  refine g_Vi C [.ref (adr a), .int (-1)] b 5 (by omega) s0 rfl (c_X5_bestPlaceBut l D kc N adr cell b n m ed W T U E P V F a p v f (-1) hSt0 (by omega) ⟨a0, a1⟩ (by omega)) (cwV 2 C.2.2.2.2.1 gX5_bestPlace_X5_bestPlaceBut rfl rfl rfl (by decide +kernel) ⟨Nat.le_of_ble_eq_true rfl, Nat.le_of_ble_eq_true rfl⟩) rfl rfl (Nat.le_of_ble_eq_true rfl) (Nat.zero_le _) (Nat.zero_le _) dX5_bestPlace_3 (fun v1 cell1 q1 => ?_)
  obtain ⟨rfl, rfl⟩ := q1
  refine g_iret C hr rfl hlk dX5_bestPlace_6 ?_
  exact ⟨by first | rfl | exact bI_1 (by omega) | exact bI_0 (by omega) | exact if_pos (by omega) | exact if_neg (by omega), rfl⟩
set_option maxRecDepth 100000 in
set_option maxHeartbeats 4000000 in
theorem c_X5_nextBestPlace (l : Launch) (D : va_G) (kc : Nat → ClassId) (N : Nat) (adr : Nat → Nat) (cell : Nat → va_E) (b n m : Nat) (ed : Int32) (W T U E P V : Nat → Int32) (F : Nat → Nat → Int32) (a : Nat) (p v : Int32) (f : Nat → Int32)  (hSt : StAt cell adr kc b (n, m, ed, W, T, U, E, P, V, F)) (hN : b + 19 ≤ N) (hA : AncAt cell adr kc a p v f) (hNa : a + 2 ≤ N) : MI l yX5_nextBestPlace wsX5_nextBestPlace ({ frames := 4, cells := 0, slots := 0, locals := 96 }) D kc N adr cell [.ref (adr b), .ref (adr a)] (fun (w : Int32) (cell1 : Nat → va_E) => bpF n W E f p (bpF n W E f p (-1)) = w ∧ cell = cell1) := by
  refine met_i (cc := cX5_nextBestPlace) (maxL := 2) (ret := (some .int)) (by decide) rfl (Nat.le_of_ble_eq_true rfl) (lv := [(0, .ref (adr b)), (1, .ref (adr a))]) rfl ?_
  intro Pg Ev Sv Mi args below Me Cd Ar C hr hlk hnm
  have hSt0 := hSt
  obtain ⟨s0, hRw, ⟨gg, s5, hg⟩, s6, hAn, hm⟩ := hSt
  have s0 : cell b = .inr (5, [.ref (adr (b + 1)), .ref (adr (b + 5)), .ref (adr (b + 6)), .int (nI m), .int ed]) := s0
  have hRw : RowAt cell adr kc (b + 1) W T U n := hRw
  have s6 : cell (b + 6) = .inl (kc 0, 5, .inl E) := s6
  have hAn : AnsAt cell adr kc b P V F := hAn
  have hm : m ≤ 6 := hm
  obtain ⟨r0, r1, r2, r3, hn⟩ := hRw
  have hA0 := hA
  obtain ⟨a0, a1⟩ := hA
  have litm1 : ((-1) : Int32).toInt = -1 := rfl
  have lit0 : (0 : Int32).toInt = 0 := rfl
  have lit1 : (1 : Int32).toInt = 1 := rfl
  have tn_n : (nI n).toInt = ((n : Nat) : Int) := nI_toInt (by omega)
  have tn_m : (nI m).toInt = ((m : Nat) : Int) := nI_toInt (by omega)
  refine g_aload_n C 0 rfl dX5_nextBestPlace_0 ?_
  refine g_aload_n C 1 rfl dX5_nextBestPlace_1 ?_
  refine g_aload_n C 0 rfl dX5_nextBestPlace_2 ?_
  refine g_aload_n C 1 rfl dX5_nextBestPlace_3 ?_
  refine g_Vi C [.ref (adr a)] b 5 (by omega) s0 rfl (c_X5_bestPlace l D kc N adr cell b n m ed W T U E P V F a p v f  hSt0 (by omega) ⟨a0, a1⟩ (by omega)) (cwV 1 C.2.2.2.2.1 gX5_nextBestPlace_X5_bestPlace rfl rfl rfl (by decide +kernel) ⟨Nat.le_of_ble_eq_true rfl, Nat.le_of_ble_eq_true rfl⟩) rfl rfl (Nat.le_of_ble_eq_true rfl) (Nat.zero_le _) (Nat.zero_le _) dX5_nextBestPlace_4 (fun v1 cell1 q1 => ?_)
  obtain ⟨rfl, rfl⟩ := q1
  refine g_Vi C [.ref (adr a), .int (bpF n W E f p (-1))] b 5 (by omega) s0 rfl (c_X5_bestPlaceBut l D kc N adr cell b n m ed W T U E P V F a p v f (bpF n W E f p (-1)) hSt0 (by omega) ⟨a0, a1⟩ (by omega)) (cwV 2 C.2.2.2.2.1 gX5_nextBestPlace_X5_bestPlaceBut rfl rfl rfl (by decide +kernel) ⟨Nat.le_of_ble_eq_true rfl, Nat.le_of_ble_eq_true rfl⟩) rfl rfl (Nat.le_of_ble_eq_true rfl) (Nat.zero_le _) (Nat.zero_le _) dX5_nextBestPlace_7 (fun v2 cell2 q2 => ?_)
  obtain ⟨rfl, rfl⟩ := q2
  refine g_iret C hr rfl hlk dX5_nextBestPlace_10 ?_
  exact ⟨by first | rfl | exact bI_1 (by omega) | exact bI_0 (by omega) | exact if_pos (by omega) | exact if_neg (by omega), rfl⟩
set_option maxRecDepth 100000 in
set_option maxHeartbeats 4000000 in
theorem c_X5_isLost (l : Launch) (D : va_G) (kc : Nat → ClassId) (N : Nat) (adr : Nat → Nat) (cell : Nat → va_E) (b n m : Nat) (ed : Int32) (W T U E P V : Nat → Int32) (F : Nat → Nat → Int32) (a : Nat) (p v : Int32) (f : Nat → Int32) (x : Int32) (hSt : StAt cell adr kc b (n, m, ed, W, T, U, E, P, V, F)) (hN : b + 19 ≤ N) (hA : AncAt cell adr kc a p v f) (hNa : a + 2 ≤ N) : MI l yX5_isLost wsX5_isLost ({ frames := 2, cells := 0, slots := 0, locals := 46 }) D kc N adr cell [.ref (adr b), .ref (adr a), .int x] (fun (w : Int32) (cell1 : Nat → va_E) => bI (lostF n W E f x) = w ∧ cell = cell1) := by
  refine met_i (cc := cX5_isLost) (maxL := 3) (ret := (some .boolean)) (by decide) rfl (Nat.le_of_ble_eq_true rfl) (lv := [(0, .ref (adr b)), (1, .ref (adr a)), (2, .int x)]) rfl ?_
  intro Pg Ev Sv Mi args below Me Cd Ar C hr hlk hnm
  have hSt0 := hSt
  obtain ⟨s0, hRw, ⟨gg, s5, hg⟩, s6, hAn, hm⟩ := hSt
  have s0 : cell b = .inr (5, [.ref (adr (b + 1)), .ref (adr (b + 5)), .ref (adr (b + 6)), .int (nI m), .int ed]) := s0
  have hRw : RowAt cell adr kc (b + 1) W T U n := hRw
  have s6 : cell (b + 6) = .inl (kc 0, 5, .inl E) := s6
  have hAn : AnsAt cell adr kc b P V F := hAn
  have hm : m ≤ 6 := hm
  obtain ⟨r0, r1, r2, r3, hn⟩ := hRw
  have hA0 := hA
  obtain ⟨a0, a1⟩ := hA
  have litm1 : ((-1) : Int32).toInt = -1 := rfl
  have lit0 : (0 : Int32).toInt = 0 := rfl
  have lit1 : (1 : Int32).toInt = 1 := rfl
  have lit3 : (3 : Int32).toInt = 3 := rfl
  have tn_n : (nI n).toInt = ((n : Nat) : Int) := nI_toInt (by omega)
  have tn_m : (nI m).toInt = ((m : Nat) : Int) := nI_toInt (by omega)
  refine g_iload_n C 2 rfl dX5_isLost_0 ?_
  refine g_iconst C (-1) (by decide) dX5_isLost_1 ?_
  refine g_icmp_eq C 19 (by decide) dX5_isLost_2 (fun c2 => ?_) (fun c2 => ?_)
  · -- taken at 2
    have c2' := i_eq c2
    refine g_iconst C 1 (by decide) dX5_isLost_19 ?_
    refine g_goto C 24 (by decide) dX5_isLost_20 ?_
    refine g_iret C hr rfl hlk dX5_isLost_24 ?_
    exact ⟨by first | exact bI_b1 (lost_t (Or.inl c2)) | exact bI_b1 (lost_t (Or.inr c16)) | exact bI_b0 (lost_f c2 c16), rfl⟩
  · -- not taken at 2
    have c2' := i_ne c2
    refine g_aload_n C 0 rfl dX5_isLost_5 ?_
    refine g_aload_n C 1 rfl dX5_isLost_6 ?_
    refine g_iload_n C 2 rfl dX5_isLost_7 ?_
    refine g_Vi C [.ref (adr a), .int x] b 5 (by omega) s0 rfl (c_X5_scoreOf l D kc N adr cell b n m ed W T U E P V F a p v f x hSt0 (by omega) ⟨a0, a1⟩ (by omega)) (cwV 2 C.2.2.2.2.1 gX5_isLost_X5_scoreOf rfl rfl rfl (by decide +kernel) ⟨Nat.le_of_ble_eq_true rfl, Nat.le_of_ble_eq_true rfl⟩) rfl rfl (Nat.le_of_ble_eq_true rfl) (Nat.zero_le _) (Nat.zero_le _) dX5_isLost_8 (fun v1 cell1 q1 => ?_)
    obtain ⟨rfl, rfl⟩ := q1
    refine g_aload_n C 0 rfl dX5_isLost_11 ?_
    refine g_iconst C 3 (by decide) dX5_isLost_12 ?_
    refine g_Vi C [.int 3] b 5 (by omega) s0 rfl (c_X5_setting l D kc N adr cell b n m ed W T U E P V F 3 hSt0 (by omega)) (cwV 1 C.2.2.2.2.1 gX5_isLost_X5_setting rfl rfl rfl (by decide +kernel) ⟨Nat.le_of_ble_eq_true rfl, Nat.le_of_ble_eq_true rfl⟩) rfl rfl (Nat.le_of_ble_eq_true rfl) (Nat.zero_le _) (Nat.zero_le _) dX5_isLost_13 (fun v2 cell2 q2 => ?_)
    obtain ⟨rfl, rfl⟩ := q2
    refine g_eqst (st1 := ([.int (E 3), .int (scr n W E f x)] : List Value)) (by rw [setF_3]) ?_
    refine g_icmp_ge C 23 (by decide) dX5_isLost_16 (fun c16 => ?_) (fun c16 => ?_)
    · -- taken at 16
      have c16' := i_le c16
      refine g_iconst C 0 (by decide) dX5_isLost_23 ?_
      refine g_iret C hr rfl hlk dX5_isLost_24 ?_
      exact ⟨by first | exact bI_b1 (lost_t (Or.inl c2)) | exact bI_b1 (lost_t (Or.inr c16)) | exact bI_b0 (lost_f c2 c16), rfl⟩
    · -- not taken at 16
      have c16' := i_nle c16
      refine g_iconst C 1 (by decide) dX5_isLost_19 ?_
      refine g_goto C 24 (by decide) dX5_isLost_20 ?_
      refine g_iret C hr rfl hlk dX5_isLost_24 ?_
      exact ⟨by first | exact bI_b1 (lost_t (Or.inl c2)) | exact bI_b1 (lost_t (Or.inr c16)) | exact bI_b0 (lost_f c2 c16), rfl⟩
set_option maxRecDepth 100000 in
set_option maxHeartbeats 4000000 in
theorem c_X5_standingOf (l : Launch) (D : va_G) (kc : Nat → ClassId) (N : Nat) (adr : Nat → Nat) (cell : Nat → va_E) (b n m : Nat) (ed : Int32) (W T U E P V : Nat → Int32) (F : Nat → Nat → Int32) (a : Nat) (p v : Int32) (f : Nat → Int32)  (hSt : StAt cell adr kc b (n, m, ed, W, T, U, E, P, V, F)) (hN : b + 19 ≤ N) (hA : AncAt cell adr kc a p v f) (hNa : a + 2 ≤ N) : MI l yX5_standingOf wsX5_standingOf ({ frames := 3, cells := 0, slots := 0, locals := 75 }) D kc N adr cell [.ref (adr b), .ref (adr a)] (fun (w : Int32) (cell1 : Nat → va_E) => standF n W E f p = w ∧ cell = cell1) := by
  refine met_i (cc := cX5_standingOf) (maxL := 5) (ret := (some .int)) (by decide) rfl (Nat.le_of_ble_eq_true rfl) (lv := [(0, .ref (adr b)), (1, .ref (adr a))]) rfl ?_
  intro Pg Ev Sv Mi args below Me Cd Ar C hr hlk hnm
  have hSt0 := hSt
  obtain ⟨s0, hRw, ⟨gg, s5, hg⟩, s6, hAn, hm⟩ := hSt
  have s0 : cell b = .inr (5, [.ref (adr (b + 1)), .ref (adr (b + 5)), .ref (adr (b + 6)), .int (nI m), .int ed]) := s0
  have hRw : RowAt cell adr kc (b + 1) W T U n := hRw
  have s6 : cell (b + 6) = .inl (kc 0, 5, .inl E) := s6
  have hAn : AnsAt cell adr kc b P V F := hAn
  have hm : m ≤ 6 := hm
  obtain ⟨r0, r1, r2, r3, hn⟩ := hRw
  have hA0 := hA
  obtain ⟨a0, a1⟩ := hA
  have litm1 : ((-1) : Int32).toInt = -1 := rfl
  have lit0 : (0 : Int32).toInt = 0 := rfl
  have lit1 : (1 : Int32).toInt = 1 := rfl
  have lit2 : (2 : Int32).toInt = 2 := rfl
  have lit4 : (4 : Int32).toInt = 4 := rfl
  have tn_n : (nI n).toInt = ((n : Nat) : Int) := nI_toInt (by omega)
  have tn_m : (nI m).toInt = ((m : Nat) : Int) := nI_toInt (by omega)
  refine g_aload_n C 0 rfl dX5_standingOf_0 ?_
  refine g_aload_n C 1 rfl dX5_standingOf_1 ?_
  refine g_iconst C (-1) (by decide) dX5_standingOf_2 ?_
  refine g_Vi C [.ref (adr a), .int (-1)] b 5 (by omega) s0 rfl (c_X5_bestPlaceBut l D kc N adr cell b n m ed W T U E P V F a p v f (-1) hSt0 (by omega) ⟨a0, a1⟩ (by omega)) (cwV 2 C.2.2.2.2.1 gX5_standingOf_X5_bestPlaceBut rfl rfl rfl (by decide +kernel) ⟨Nat.le_of_ble_eq_true rfl, Nat.le_of_ble_eq_true rfl⟩) rfl rfl (Nat.le_of_ble_eq_true rfl) (Nat.zero_le _) (Nat.zero_le _) dX5_standingOf_3 (fun v1 cell1 q1 => ?_)
  obtain ⟨rfl, rfl⟩ := q1
  refine g_istore_n C [(2, .int (bpF n W E f p (-1))), (0, .ref (adr b)), (1, .ref (adr a))] (by decide) rfl dX5_standingOf_6 ?_
  refine g_aload_n C 1 rfl dX5_standingOf_7 ?_
  refine g_aload_n C 2 rfl dX5_standingOf_8 ?_
  refine g_iload_n C 0 rfl dX5_standingOf_9 ?_
  refine g_Vi C [.ref (adr a), .int (bpF n W E f p (-1))] b 5 (by omega) s0 rfl (c_X5_isLost l D kc N adr cell b n m ed W T U E P V F a p v f (bpF n W E f p (-1)) hSt0 (by omega) ⟨a0, a1⟩ (by omega)) (cwV 2 C.2.2.2.2.1 gX5_standingOf_X5_isLost rfl rfl rfl (by decide +kernel) ⟨Nat.le_of_ble_eq_true rfl, Nat.le_of_ble_eq_true rfl⟩) rfl rfl (Nat.le_of_ble_eq_true rfl) (Nat.zero_le _) (Nat.zero_le _) dX5_standingOf_10 (fun v2 cell2 q2 => ?_)
  obtain ⟨rfl, rfl⟩ := q2
  refine g_if_eq C 18 (by decide) dX5_standingOf_13 (fun c13 => ?_) (fun c13 => ?_)
  · -- taken at 13
    have c13' := bI_bf c13
    refine g_aload_n C 1 rfl dX5_standingOf_18 ?_
    refine g_aload_n C 2 rfl dX5_standingOf_19 ?_
    refine g_iload_n C 0 rfl dX5_standingOf_20 ?_
    refine g_Vi C [.ref (adr a), .int (bpF n W E f p (-1))] b 5 (by omega) s0 rfl (c_X5_bestPlaceBut l D kc N adr cell b n m ed W T U E P V F a p v f (bpF n W E f p (-1)) hSt0 (by omega) ⟨a0, a1⟩ (by omega)) (cwV 2 C.2.2.2.2.1 gX5_standingOf_X5_bestPlaceBut rfl rfl rfl (by decide +kernel) ⟨Nat.le_of_ble_eq_true rfl, Nat.le_of_ble_eq_true rfl⟩) rfl rfl (Nat.le_of_ble_eq_true rfl) (Nat.zero_le _) (Nat.zero_le _) dX5_standingOf_21 (fun v3 cell3 q3 => ?_)
    obtain ⟨rfl, rfl⟩ := q3
    refine g_istore_n C [(3, .int (bpF n W E f p (bpF n W E f p (-1)))), (2, .int (bpF n W E f p (-1))), (0, .ref (adr b)), (1, .ref (adr a))] (by decide) rfl dX5_standingOf_24 ?_
    refine g_aload_n C 2 rfl dX5_standingOf_25 ?_
    refine g_aload_n C 3 rfl dX5_standingOf_26 ?_
    refine g_iload_n C 1 rfl dX5_standingOf_27 ?_
    refine g_Vi C [.ref (adr a), .int (bpF n W E f p (-1))] b 5 (by omega) s0 rfl (c_X5_scoreOf l D kc N adr cell b n m ed W T U E P V F a p v f (bpF n W E f p (-1)) hSt0 (by omega) ⟨a0, a1⟩ (by omega)) (cwV 2 C.2.2.2.2.1 gX5_standingOf_X5_scoreOf rfl rfl rfl (by decide +kernel) ⟨Nat.le_of_ble_eq_true rfl, Nat.le_of_ble_eq_true rfl⟩) rfl rfl (Nat.le_of_ble_eq_true rfl) (Nat.zero_le _) (Nat.zero_le _) dX5_standingOf_28 (fun v4 cell4 q4 => ?_)
    obtain ⟨rfl, rfl⟩ := q4
    refine g_aload_n C 2 rfl dX5_standingOf_31 ?_
    refine g_iconst C 4 (by decide) dX5_standingOf_32 ?_
    refine g_Vi C [.int 4] b 5 (by omega) s0 rfl (c_X5_setting l D kc N adr cell b n m ed W T U E P V F 4 hSt0 (by omega)) (cwV 1 C.2.2.2.2.1 gX5_standingOf_X5_setting rfl rfl rfl (by decide +kernel) ⟨Nat.le_of_ble_eq_true rfl, Nat.le_of_ble_eq_true rfl⟩) rfl rfl (Nat.le_of_ble_eq_true rfl) (Nat.zero_le _) (Nat.zero_le _) dX5_standingOf_33 (fun v5 cell5 q5 => ?_)
    obtain ⟨rfl, rfl⟩ := q5
    refine g_eqst (st1 := ([.int (E 4), .int (scr n W E f (bpF n W E f p (-1)))] : List Value)) (by rw [setF_4]) ?_
    refine g_isub C dX5_standingOf_36 ?_
    refine g_istore C [(4, .int ((scr n W E f (bpF n W E f p (-1))) - (E 4))), (3, .int (bpF n W E f p (bpF n W E f p (-1)))), (2, .int (bpF n W E f p (-1))), (0, .ref (adr b)), (1, .ref (adr a))] (by decide) rfl dX5_standingOf_37 ?_
    refine g_iload_n C 1 rfl dX5_standingOf_39 ?_
    refine g_iconst C (-1) (by decide) dX5_standingOf_40 ?_
    refine g_icmp_eq C 59 (by decide) dX5_standingOf_41 (fun c41 => ?_) (fun c41 => ?_)
    · -- taken at 41
      have c41' := i_eq c41
      refine g_iconst C 0 (by decide) dX5_standingOf_59 ?_
      refine g_iret C hr rfl hlk dX5_standingOf_60 ?_
      exact ⟨by unfold standF; rw [if_neg (by rw [c13']; decide)]; exact if_neg (fun h => h.1 c41), rfl⟩
    · -- not taken at 41
      have c41' := i_ne c41
      refine g_aload_n C 3 rfl dX5_standingOf_44 ?_
      refine g_aload_n C 4 rfl dX5_standingOf_45 ?_
      refine g_iload_n C 1 rfl dX5_standingOf_46 ?_
      refine g_Vi C [.ref (adr a), .int (bpF n W E f p (bpF n W E f p (-1)))] b 5 (by omega) s0 rfl (c_X5_scoreOf l D kc N adr cell b n m ed W T U E P V F a p v f (bpF n W E f p (bpF n W E f p (-1))) hSt0 (by omega) ⟨a0, a1⟩ (by omega)) (cwV 2 C.2.2.2.2.1 gX5_standingOf_X5_scoreOf rfl rfl rfl (by decide +kernel) ⟨Nat.le_of_ble_eq_true rfl, Nat.le_of_ble_eq_true rfl⟩) rfl rfl (Nat.le_of_ble_eq_true rfl) (Nat.zero_le _) (Nat.zero_le _) dX5_standingOf_47 (fun v7 cell7 q7 => ?_)
      obtain ⟨rfl, rfl⟩ := q7
      refine g_iload C 0 rfl dX5_standingOf_50 ?_
      refine g_icmp_lt C 59 (by decide) dX5_standingOf_52 (fun c52 => ?_) (fun c52 => ?_)
      · -- taken at 52
        have c52' := i_lt c52
        refine g_iconst C 0 (by decide) dX5_standingOf_59 ?_
        refine g_iret C hr rfl hlk dX5_standingOf_60 ?_
        exact ⟨by unfold standF; rw [if_neg (by rw [c13']; decide)]; exact if_neg (fun h => h.2 c52), rfl⟩
      · -- not taken at 52
        have c52' := i_nlt c52
        refine g_iconst C 1 (by decide) dX5_standingOf_55 ?_
        refine g_goto C 60 (by decide) dX5_standingOf_56 ?_
        refine g_iret C hr rfl hlk dX5_standingOf_60 ?_
        exact ⟨by unfold standF; rw [if_neg (by rw [c13']; decide)]; exact if_pos ⟨c41, c52⟩, rfl⟩
  · -- not taken at 13
    have c13' := bI_bt c13
    refine g_iconst C 2 (by decide) dX5_standingOf_16 ?_
    refine g_iret C hr rfl hlk dX5_standingOf_17 ?_
    exact ⟨if_pos c13', rfl⟩
set_option maxRecDepth 100000 in
set_option maxHeartbeats 4000000 in
theorem c_X5_shiftOf (l : Launch) (D : va_G) (kc : Nat → ClassId) (N : Nat) (adr : Nat → Nat) (cell : Nat → va_E) (b n m : Nat) (ed : Int32) (W T U E P V : Nat → Int32) (F : Nat → Nat → Int32) (a : Nat) (p v : Int32) (f : Nat → Int32)  (hSt : StAt cell adr kc b (n, m, ed, W, T, U, E, P, V, F)) (hN : b + 19 ≤ N) (hA : AncAt cell adr kc a p v f) (hNa : a + 2 ≤ N) : MI l yX5_shiftOf wsX5_shiftOf ({ frames := 4, cells := 0, slots := 0, locals := 96 }) D kc N adr cell [.ref (adr b), .ref (adr a)] (fun (w : Int32) (cell1 : Nat → va_E) => shiftF n W E f p = w ∧ cell = cell1) := by
  refine met_i (cc := cX5_shiftOf) (maxL := 3) (ret := (some .int)) (by decide) rfl (Nat.le_of_ble_eq_true rfl) (lv := [(0, .ref (adr b)), (1, .ref (adr a))]) rfl ?_
  intro Pg Ev Sv Mi args below Me Cd Ar C hr hlk hnm
  have hSt0 := hSt
  obtain ⟨s0, hRw, ⟨gg, s5, hg⟩, s6, hAn, hm⟩ := hSt
  have s0 : cell b = .inr (5, [.ref (adr (b + 1)), .ref (adr (b + 5)), .ref (adr (b + 6)), .int (nI m), .int ed]) := s0
  have hRw : RowAt cell adr kc (b + 1) W T U n := hRw
  have s6 : cell (b + 6) = .inl (kc 0, 5, .inl E) := s6
  have hAn : AnsAt cell adr kc b P V F := hAn
  have hm : m ≤ 6 := hm
  obtain ⟨r0, r1, r2, r3, hn⟩ := hRw
  have hA0 := hA
  obtain ⟨a0, a1⟩ := hA
  have litm1 : ((-1) : Int32).toInt = -1 := rfl
  have lit0 : (0 : Int32).toInt = 0 := rfl
  have lit1 : (1 : Int32).toInt = 1 := rfl
  have tn_n : (nI n).toInt = ((n : Nat) : Int) := nI_toInt (by omega)
  have tn_m : (nI m).toInt = ((m : Nat) : Int) := nI_toInt (by omega)
  refine g_aload_n C 1 rfl dX5_shiftOf_0 ?_
  refine g_ifnonnull C 6 (by decide) dX5_shiftOf_1 ?_
  refine g_aload_n C 0 rfl dX5_shiftOf_6 ?_
  refine g_aload_n C 1 rfl dX5_shiftOf_7 ?_
  refine g_Vi C [.ref (adr a)] b 5 (by omega) s0 rfl (c_X5_bestPlace l D kc N adr cell b n m ed W T U E P V F a p v f  hSt0 (by omega) ⟨a0, a1⟩ (by omega)) (cwV 1 C.2.2.2.2.1 gX5_shiftOf_X5_bestPlace rfl rfl rfl (by decide +kernel) ⟨Nat.le_of_ble_eq_true rfl, Nat.le_of_ble_eq_true rfl⟩) rfl rfl (Nat.le_of_ble_eq_true rfl) (Nat.zero_le _) (Nat.zero_le _) dX5_shiftOf_8 (fun v1 cell1 q1 => ?_)
  obtain ⟨rfl, rfl⟩ := q1
  refine g_istore_n C [(2, .int (bpF n W E f p (-1))), (0, .ref (adr b)), (1, .ref (adr a))] (by decide) rfl dX5_shiftOf_11 ?_
  refine g_aload_n C 1 rfl dX5_shiftOf_12 ?_
  refine g_aload_n C 2 rfl dX5_shiftOf_13 ?_
  refine g_iload_n C 0 rfl dX5_shiftOf_14 ?_
  refine g_Vi C [.ref (adr a), .int (bpF n W E f p (-1))] b 5 (by omega) s0 rfl (c_X5_isLost l D kc N adr cell b n m ed W T U E P V F a p v f (bpF n W E f p (-1)) hSt0 (by omega) ⟨a0, a1⟩ (by omega)) (cwV 2 C.2.2.2.2.1 gX5_shiftOf_X5_isLost rfl rfl rfl (by decide +kernel) ⟨Nat.le_of_ble_eq_true rfl, Nat.le_of_ble_eq_true rfl⟩) rfl rfl (Nat.le_of_ble_eq_true rfl) (Nat.zero_le _) (Nat.zero_le _) dX5_shiftOf_15 (fun v2 cell2 q2 => ?_)
  obtain ⟨rfl, rfl⟩ := q2
  refine g_if_eq C 25 (by decide) dX5_shiftOf_18 (fun c18 => ?_) (fun c18 => ?_)
  · -- taken at 18
    have c18' := bI_bf c18
    refine g_iload_n C 0 rfl dX5_shiftOf_25 ?_
    refine g_aload_n C 2 rfl dX5_shiftOf_26 ?_
    refine g_Vi C [] a 0 (by omega) a0 rfl (c_X0_place l D kc N adr cell a p v f  ⟨a0, a1⟩ (by omega)) (cwV 0 C.2.2.2.2.1 gX5_shiftOf_X0_place rfl rfl rfl (by decide +kernel) ⟨Nat.le_of_ble_eq_true rfl, Nat.le_of_ble_eq_true rfl⟩) rfl rfl (Nat.le_of_ble_eq_true rfl) (Nat.zero_le _) (Nat.zero_le _) dX5_shiftOf_27 (fun v3 cell3 q3 => ?_)
    obtain ⟨rfl, rfl⟩ := q3
    refine g_isub C dX5_shiftOf_30 ?_
    refine g_iret C hr rfl hlk dX5_shiftOf_31 ?_
    exact ⟨by unfold shiftF; first | exact if_pos c18' | exact if_neg (by rw [c18']; decide), rfl⟩
  · -- not taken at 18
    have c18' := bI_bt c18
    refine g_iconst C 0 (by decide) dX5_shiftOf_21 ?_
    refine g_goto C 31 (by decide) dX5_shiftOf_22 ?_
    refine g_iret C hr rfl hlk dX5_shiftOf_31 ?_
    exact ⟨by unfold shiftF; first | exact if_pos c18' | exact if_neg (by rw [c18']; decide), rfl⟩
set_option maxRecDepth 100000 in
set_option maxHeartbeats 4000000 in
theorem c_X5_isOfKind (l : Launch) (D : va_G) (kc : Nat → ClassId) (N : Nat) (adr : Nat → Nat) (cell : Nat → va_E) (b n m : Nat) (ed : Int32) (W T U E P V : Nat → Int32) (F : Nat → Nat → Int32) (a : Nat) (p v : Int32) (f : Nat → Int32) (x : Int32) (hSt : StAt cell adr kc b (n, m, ed, W, T, U, E, P, V, F)) (hN : b + 19 ≤ N) (hA : AncAt cell adr kc a p v f) (hNa : a + 2 ≤ N) : MI l yX5_isOfKind wsX5_isOfKind ({ frames := 4, cells := 0, slots := 0, locals := 99 }) D kc N adr cell [.ref (adr b), .ref (adr a), .int x] (fun (w : Int32) (cell1 : Nat → va_E) => bI (kindF n W E f p v x) = w ∧ cell = cell1) := by
  refine met_i (cc := cX5_isOfKind) (maxL := 3) (ret := (some .boolean)) (by decide) rfl (Nat.le_of_ble_eq_true rfl) (lv := [(0, .ref (adr b)), (1, .ref (adr a)), (2, .int x)]) rfl ?_
  intro Pg Ev Sv Mi args below Me Cd Ar C hr hlk hnm
  have hSt0 := hSt
  obtain ⟨s0, hRw, ⟨gg, s5, hg⟩, s6, hAn, hm⟩ := hSt
  have s0 : cell b = .inr (5, [.ref (adr (b + 1)), .ref (adr (b + 5)), .ref (adr (b + 6)), .int (nI m), .int ed]) := s0
  have hRw : RowAt cell adr kc (b + 1) W T U n := hRw
  have s6 : cell (b + 6) = .inl (kc 0, 5, .inl E) := s6
  have hAn : AnsAt cell adr kc b P V F := hAn
  have hm : m ≤ 6 := hm
  obtain ⟨r0, r1, r2, r3, hn⟩ := hRw
  have hA0 := hA
  obtain ⟨a0, a1⟩ := hA
  have litm1 : ((-1) : Int32).toInt = -1 := rfl
  have lit0 : (0 : Int32).toInt = 0 := rfl
  have lit1 : (1 : Int32).toInt = 1 := rfl
  have tn_n : (nI n).toInt = ((n : Nat) : Int) := nI_toInt (by omega)
  have tn_m : (nI m).toInt = ((m : Nat) : Int) := nI_toInt (by omega)
  refine g_iload_n C 2 rfl dX5_isOfKind_0 ?_
  by_cases c1_2 : x = 2
  · have c1' := i_eq c1_2
    refine g_tableIn C 32 (by rw [c1_2]; decide) (by rw [c1_2]; decide) (by rw [c1_2] <;> rfl) (by decide) dX5_isOfKind_1 ?_
    refine g_aload_n C 0 rfl dX5_isOfKind_32 ?_
    refine g_aload_n C 1 rfl dX5_isOfKind_33 ?_
    refine g_aload_n C 0 rfl dX5_isOfKind_34 ?_
    refine g_aload_n C 1 rfl dX5_isOfKind_35 ?_
    refine g_Vi C [.ref (adr a)] b 5 (by omega) s0 rfl (c_X5_bestPlace l D kc N adr cell b n m ed W T U E P V F a p v f  hSt0 (by omega) ⟨a0, a1⟩ (by omega)) (cwV 1 C.2.2.2.2.1 gX5_isOfKind_X5_bestPlace rfl rfl rfl (by decide +kernel) ⟨Nat.le_of_ble_eq_true rfl, Nat.le_of_ble_eq_true rfl⟩) rfl rfl (Nat.le_of_ble_eq_true rfl) (Nat.zero_le _) (Nat.zero_le _) dX5_isOfKind_36 (fun v1 cell1 q1 => ?_)
    obtain ⟨rfl, rfl⟩ := q1
    refine g_Vi C [.ref (adr a), .int (bpF n W E f p (-1))] b 5 (by omega) s0 rfl (c_X5_isLost l D kc N adr cell b n m ed W T U E P V F a p v f (bpF n W E f p (-1)) hSt0 (by omega) ⟨a0, a1⟩ (by omega)) (cwV 2 C.2.2.2.2.1 gX5_isOfKind_X5_isLost rfl rfl rfl (by decide +kernel) ⟨Nat.le_of_ble_eq_true rfl, Nat.le_of_ble_eq_true rfl⟩) rfl rfl (Nat.le_of_ble_eq_true rfl) (Nat.zero_le _) (Nat.zero_le _) dX5_isOfKind_39 (fun v2 cell2 q2 => ?_)
    obtain ⟨rfl, rfl⟩ := q2
    refine g_iret C hr (bI_nar _) hlk dX5_isOfKind_42 ?_
    exact ⟨by unfold kindF; rw [if_pos c1_2], rfl⟩
  have c1n2 := i_ne c1_2
  by_cases c1_3 : x = 3
  · have c1' := i_eq c1_3
    refine g_tableIn C 43 (by rw [c1_3]; decide) (by rw [c1_3]; decide) (by rw [c1_3] <;> rfl) (by decide) dX5_isOfKind_1 ?_
    refine g_aload_n C 1 rfl dX5_isOfKind_43 ?_
    refine g_Vi C [] a 0 (by omega) a0 rfl (c_X0_truePlace l D kc N adr cell a p v f  ⟨a0, a1⟩ (by omega)) (cwV 0 C.2.2.2.2.1 gX5_isOfKind_X0_truePlace rfl rfl rfl (by decide +kernel) ⟨Nat.le_of_ble_eq_true rfl, Nat.le_of_ble_eq_true rfl⟩) rfl rfl (Nat.le_of_ble_eq_true rfl) (Nat.zero_le _) (Nat.zero_le _) dX5_isOfKind_44 (fun v3 cell3 q3 => ?_)
    obtain ⟨rfl, rfl⟩ := q3
    refine g_iconst C (-1) (by decide) dX5_isOfKind_47 ?_
    refine g_icmp_eq C 67 (by decide) dX5_isOfKind_48 (fun c48 => ?_) (fun c48 => ?_)
    · -- taken at 48
      have c48' := i_eq c48
      refine g_iconst C 0 (by decide) dX5_isOfKind_67 ?_
      refine g_iret C hr rfl hlk dX5_isOfKind_68 ?_
      exact ⟨by unfold kindF; rw [if_neg c1_2, if_pos c1_3]; exact bI_0 (fun h => h.1 c48), rfl⟩
    · -- not taken at 48
      have c48' := i_ne c48
      refine g_aload_n C 1 rfl dX5_isOfKind_51 ?_
      refine g_Vi C [] a 0 (by omega) a0 rfl (c_X0_truePlace l D kc N adr cell a p v f  ⟨a0, a1⟩ (by omega)) (cwV 0 C.2.2.2.2.1 gX5_isOfKind_X0_truePlace rfl rfl rfl (by decide +kernel) ⟨Nat.le_of_ble_eq_true rfl, Nat.le_of_ble_eq_true rfl⟩) rfl rfl (Nat.le_of_ble_eq_true rfl) (Nat.zero_le _) (Nat.zero_le _) dX5_isOfKind_52 (fun v4 cell4 q4 => ?_)
      obtain ⟨rfl, rfl⟩ := q4
      refine g_aload_n C 0 rfl dX5_isOfKind_55 ?_
      refine g_aload_n C 1 rfl dX5_isOfKind_56 ?_
      refine g_Vi C [.ref (adr a)] b 5 (by omega) s0 rfl (c_X5_bestPlace l D kc N adr cell b n m ed W T U E P V F a p v f  hSt0 (by omega) ⟨a0, a1⟩ (by omega)) (cwV 1 C.2.2.2.2.1 gX5_isOfKind_X5_bestPlace rfl rfl rfl (by decide +kernel) ⟨Nat.le_of_ble_eq_true rfl, Nat.le_of_ble_eq_true rfl⟩) rfl rfl (Nat.le_of_ble_eq_true rfl) (Nat.zero_le _) (Nat.zero_le _) dX5_isOfKind_57 (fun v5 cell5 q5 => ?_)
      obtain ⟨rfl, rfl⟩ := q5
      refine g_icmp_ne C 67 (by decide) dX5_isOfKind_60 (fun c60 => ?_) (fun c60 => ?_)
      · -- taken at 60
        have c60' := i_ne c60
        refine g_iconst C 0 (by decide) dX5_isOfKind_67 ?_
        refine g_iret C hr rfl hlk dX5_isOfKind_68 ?_
        exact ⟨by unfold kindF; rw [if_neg c1_2, if_pos c1_3]; exact bI_0 (fun h => c60 h.2), rfl⟩
      · -- not taken at 60
        have c60' := i_eq c60
        refine g_iconst C 1 (by decide) dX5_isOfKind_63 ?_
        refine g_goto C 68 (by decide) dX5_isOfKind_64 ?_
        refine g_iret C hr rfl hlk dX5_isOfKind_68 ?_
        exact ⟨by unfold kindF; rw [if_neg c1_2, if_pos c1_3]; exact bI_1 ⟨c48, c60⟩, rfl⟩
  have c1n3 := i_ne c1_3
  by_cases c1_4 : x = 4
  · have c1' := i_eq c1_4
    refine g_tableIn C 69 (by rw [c1_4]; decide) (by rw [c1_4]; decide) (by rw [c1_4] <;> rfl) (by decide) dX5_isOfKind_1 ?_
    refine g_aload_n C 1 rfl dX5_isOfKind_69 ?_
    refine g_Vi C [] a 0 (by omega) a0 rfl (c_X0_truePlace l D kc N adr cell a p v f  ⟨a0, a1⟩ (by omega)) (cwV 0 C.2.2.2.2.1 gX5_isOfKind_X0_truePlace rfl rfl rfl (by decide +kernel) ⟨Nat.le_of_ble_eq_true rfl, Nat.le_of_ble_eq_true rfl⟩) rfl rfl (Nat.le_of_ble_eq_true rfl) (Nat.zero_le _) (Nat.zero_le _) dX5_isOfKind_70 (fun v6 cell6 q6 => ?_)
    obtain ⟨rfl, rfl⟩ := q6
    refine g_iconst C (-1) (by decide) dX5_isOfKind_73 ?_
    refine g_icmp_ne C 81 (by decide) dX5_isOfKind_74 (fun c74 => ?_) (fun c74 => ?_)
    · -- taken at 74
      have c74' := i_ne c74
      refine g_iconst C 0 (by decide) dX5_isOfKind_81 ?_
      refine g_iret C hr rfl hlk dX5_isOfKind_82 ?_
      exact ⟨by unfold kindF; rw [if_neg c1_2, if_neg c1_3, if_pos c1_4]; exact bI_0 c74, rfl⟩
    · -- not taken at 74
      have c74' := i_eq c74
      refine g_iconst C 1 (by decide) dX5_isOfKind_77 ?_
      refine g_goto C 82 (by decide) dX5_isOfKind_78 ?_
      refine g_iret C hr rfl hlk dX5_isOfKind_82 ?_
      exact ⟨by unfold kindF; rw [if_neg c1_2, if_neg c1_3, if_pos c1_4]; exact bI_1 c74, rfl⟩
  have c1n4 := i_ne c1_4
  by_cases c1_5 : x = 5
  · have c1' := i_eq c1_5
    refine g_tableIn C 83 (by rw [c1_5]; decide) (by rw [c1_5]; decide) (by rw [c1_5] <;> rfl) (by decide) dX5_isOfKind_1 ?_
    refine g_aload_n C 1 rfl dX5_isOfKind_83 ?_
    refine g_Vi C [] a 0 (by omega) a0 rfl (c_X0_truePlace l D kc N adr cell a p v f  ⟨a0, a1⟩ (by omega)) (cwV 0 C.2.2.2.2.1 gX5_isOfKind_X0_truePlace rfl rfl rfl (by decide +kernel) ⟨Nat.le_of_ble_eq_true rfl, Nat.le_of_ble_eq_true rfl⟩) rfl rfl (Nat.le_of_ble_eq_true rfl) (Nat.zero_le _) (Nat.zero_le _) dX5_isOfKind_84 (fun v7 cell7 q7 => ?_)
    obtain ⟨rfl, rfl⟩ := q7
    refine g_iconst C (-1) (by decide) dX5_isOfKind_87 ?_
    refine g_icmp_eq C 108 (by decide) dX5_isOfKind_88 (fun c88 => ?_) (fun c88 => ?_)
    · -- taken at 88
      have c88' := i_eq c88
      refine g_iconst C 0 (by decide) dX5_isOfKind_108 ?_
      refine g_iret C hr rfl hlk dX5_isOfKind_109 ?_
      exact ⟨by unfold kindF; rw [if_neg c1_2, if_neg c1_3, if_neg c1_4, if_pos c1_5]; exact bI_0 (fun h => h.1 c88), rfl⟩
    · -- not taken at 88
      have c88' := i_ne c88
      refine g_aload_n C 0 rfl dX5_isOfKind_91 ?_
      refine g_aload_n C 1 rfl dX5_isOfKind_92 ?_
      refine g_aload_n C 0 rfl dX5_isOfKind_93 ?_
      refine g_aload_n C 1 rfl dX5_isOfKind_94 ?_
      refine g_Vi C [.ref (adr a)] b 5 (by omega) s0 rfl (c_X5_bestPlace l D kc N adr cell b n m ed W T U E P V F a p v f  hSt0 (by omega) ⟨a0, a1⟩ (by omega)) (cwV 1 C.2.2.2.2.1 gX5_isOfKind_X5_bestPlace rfl rfl rfl (by decide +kernel) ⟨Nat.le_of_ble_eq_true rfl, Nat.le_of_ble_eq_true rfl⟩) rfl rfl (Nat.le_of_ble_eq_true rfl) (Nat.zero_le _) (Nat.zero_le _) dX5_isOfKind_95 (fun v8 cell8 q8 => ?_)
      obtain ⟨rfl, rfl⟩ := q8
      refine g_Vi C [.ref (adr a), .int (bpF n W E f p (-1))] b 5 (by omega) s0 rfl (c_X5_isLost l D kc N adr cell b n m ed W T U E P V F a p v f (bpF n W E f p (-1)) hSt0 (by omega) ⟨a0, a1⟩ (by omega)) (cwV 2 C.2.2.2.2.1 gX5_isOfKind_X5_isLost rfl rfl rfl (by decide +kernel) ⟨Nat.le_of_ble_eq_true rfl, Nat.le_of_ble_eq_true rfl⟩) rfl rfl (Nat.le_of_ble_eq_true rfl) (Nat.zero_le _) (Nat.zero_le _) dX5_isOfKind_98 (fun v9 cell9 q9 => ?_)
      obtain ⟨rfl, rfl⟩ := q9
      refine g_if_eq C 108 (by decide) dX5_isOfKind_101 (fun c101 => ?_) (fun c101 => ?_)
      · -- taken at 101
        have c101' := bI_bf c101
        refine g_iconst C 0 (by decide) dX5_isOfKind_108 ?_
        refine g_iret C hr rfl hlk dX5_isOfKind_109 ?_
        exact ⟨by unfold kindF; rw [if_neg c1_2, if_neg c1_3, if_neg c1_4, if_pos c1_5]; exact bI_0 (fun h => by rw [c101'] at h; exact absurd h.2 (by decide)), rfl⟩
      · -- not taken at 101
        have c101' := bI_bt c101
        refine g_iconst C 1 (by decide) dX5_isOfKind_104 ?_
        refine g_goto C 109 (by decide) dX5_isOfKind_105 ?_
        refine g_iret C hr rfl hlk dX5_isOfKind_109 ?_
        exact ⟨by unfold kindF; rw [if_neg c1_2, if_neg c1_3, if_neg c1_4, if_pos c1_5]; exact bI_1 ⟨c88, c101'⟩, rfl⟩
  have c1n5 := i_ne c1_5
  refine g_tableOut C 110 (by have hl0 : (2 : Int32).toInt = 2 := rfl; have hl1 : (3 : Int32).toInt = 3 := rfl; have hl2 : (4 : Int32).toInt = 4 := rfl; have hl3 : (5 : Int32).toInt = 5 := rfl; omega) (by decide) dX5_isOfKind_1 ?_
  refine g_aload_n C 0 rfl dX5_isOfKind_110 ?_
  refine g_aload_n C 1 rfl dX5_isOfKind_111 ?_
  refine g_Vi C [.ref (adr a)] b 5 (by omega) s0 rfl (c_X5_standingOf l D kc N adr cell b n m ed W T U E P V F a p v f  hSt0 (by omega) ⟨a0, a1⟩ (by omega)) (cwV 1 C.2.2.2.2.1 gX5_isOfKind_X5_standingOf rfl rfl rfl (by decide +kernel) ⟨Nat.le_of_ble_eq_true rfl, Nat.le_of_ble_eq_true rfl⟩) rfl rfl (Nat.le_of_ble_eq_true rfl) (Nat.zero_le _) (Nat.zero_le _) dX5_isOfKind_112 (fun v10 cell10 q10 => ?_)
  obtain ⟨rfl, rfl⟩ := q10
  refine g_iload_n C 2 rfl dX5_isOfKind_115 ?_
  refine g_icmp_ne C 123 (by decide) dX5_isOfKind_116 (fun c116 => ?_) (fun c116 => ?_)
  · -- taken at 116
    have c116' := i_ne c116
    refine g_iconst C 0 (by decide) dX5_isOfKind_123 ?_
    refine g_iret C hr rfl hlk dX5_isOfKind_124 ?_
    exact ⟨by unfold kindF; rw [if_neg c1_2, if_neg c1_3, if_neg c1_4, if_neg c1_5]; exact bI_0 c116, rfl⟩
  · -- not taken at 116
    have c116' := i_eq c116
    refine g_iconst C 1 (by decide) dX5_isOfKind_119 ?_
    refine g_goto C 124 (by decide) dX5_isOfKind_120 ?_
    refine g_iret C hr rfl hlk dX5_isOfKind_124 ?_
    exact ⟨by unfold kindF; rw [if_neg c1_2, if_neg c1_3, if_neg c1_4, if_neg c1_5]; exact bI_1 c116, rfl⟩
set_option maxRecDepth 100000 in
set_option maxHeartbeats 4000000 in
theorem c_X5_anchorNumbered (l : Launch) (D : va_G) (kc : Nat → ClassId) (N : Nat) (adr : Nat → Nat) (cell : Nat → va_E) (b n m : Nat) (ed : Int32) (W T U E P V : Nat → Int32) (F : Nat → Nat → Int32) (x : Int32) (hSt : StAt cell adr kc b (n, m, ed, W, T, U, E, P, V, F)) (hN : b + 19 ≤ N) : MR l yX5_anchorNumbered wsX5_anchorNumbered ({ frames := 0, cells := 0, slots := 0, locals := 0 }) D kc N adr cell [.ref (adr b), .int x] (fun (w : Option Nat) (cell1 : Nat → va_E) => (if 0 ≤ x.toInt ∧ x.toInt < m then some (adr (b + 7 + 2 * x.toNatClampNeg)) else none) = w ∧ cell = cell1) := by
  refine met_q (cc := cX5_anchorNumbered) (maxL := 2) (ret := (some (.object "WordAnchors$Anchor"))) (by decide) rfl (Nat.le_of_ble_eq_true rfl) (lv := [(0, .ref (adr b)), (1, .int x)]) rfl ?_
  intro Pg Ev Sv Mi args below Me Cd Ar C hr hlk hnm
  have in5 : ∀ w ∈ u_ws RX5 TX5 5, w ∈ wsX5_anchorNumbered := by decide +kernel
  have f29 := C.2.2.2.2.1 (.fieldLink RX5 29 "WordAnchors$State" "anchorCount" "I") (by decide +kernel)
  have f20 := C.2.2.2.2.1 (.fieldLink RX5 20 "WordAnchors$State" "anchors" "[LWordAnchors$Anchor;") (by decide +kernel)
  have hSt0 := hSt
  obtain ⟨s0, hRw, ⟨gg, s5, hg⟩, s6, hAn, hm⟩ := hSt
  have s0 : cell b = .inr (5, [.ref (adr (b + 1)), .ref (adr (b + 5)), .ref (adr (b + 6)), .int (nI m), .int ed]) := s0
  have hRw : RowAt cell adr kc (b + 1) W T U n := hRw
  have s6 : cell (b + 6) = .inl (kc 0, 5, .inl E) := s6
  have hAn : AnsAt cell adr kc b P V F := hAn
  have hm : m ≤ 6 := hm
  obtain ⟨r0, r1, r2, r3, hn⟩ := hRw
  have litm1 : ((-1) : Int32).toInt = -1 := rfl
  have lit0 : (0 : Int32).toInt = 0 := rfl
  have lit1 : (1 : Int32).toInt = 1 := rfl
  have lit6 : (6 : Int32).toInt = 6 := rfl
  have tn_n : (nI n).toInt = ((n : Nat) : Int) := nI_toInt (by omega)
  have tn_m : (nI m).toInt = ((m : Nat) : Int) := nI_toInt (by omega)
  refine g_iload_n C 1 rfl dX5_anchorNumbered_0 ?_
  refine g_if_lt C 21 (by decide) dX5_anchorNumbered_1 (fun c1 => ?_) (fun c1 => ?_)
  · -- taken at 1
    have c1' := i_lt c1
    refine g_null C dX5_anchorNumbered_21 ?_
    refine g_aretN C hr hlk dX5_anchorNumbered_22 ?_
    exact ⟨by first | exact if_pos (by omega) | exact if_neg (by omega), rfl⟩
  · -- not taken at 1
    have c1' := i_nlt c1
    refine g_iload_n C 1 rfl dX5_anchorNumbered_4 ?_
    refine g_aload_n C 0 rfl dX5_anchorNumbered_5 ?_
    refine g_get C b 5 3 (by omega) s0 rfl in5 (by decide) f29 (fun _ h9 => h9) rfl dX5_anchorNumbered_6 ?_
    refine g_icmp_ge C 21 (by decide) dX5_anchorNumbered_9 (fun c9 => ?_) (fun c9 => ?_)
    · -- taken at 9
      have c9' := i_le c9
      refine g_null C dX5_anchorNumbered_21 ?_
      refine g_aretN C hr hlk dX5_anchorNumbered_22 ?_
      exact ⟨by first | exact if_pos (by omega) | exact if_neg (by omega), rfl⟩
    · -- not taken at 9
      have c9' := i_nle c9
      refine g_iload_n C 1 rfl dX5_anchorNumbered_12 ?_
      refine g_aload_n C 0 rfl dX5_anchorNumbered_13 ?_
      refine g_get C b 5 1 (by omega) s0 rfl in5 (by decide) f20 (fun _ h9 => h9) rfl dX5_anchorNumbered_14 ?_
      refine g_alen C (b + 5) 2 (by omega) s5 rfl 6 rfl dX5_anchorNumbered_17 ?_
      refine g_icmp_lt C 23 (by decide) dX5_anchorNumbered_18 (fun c18 => ?_) (fun c18 => ?_)
      · -- taken at 18
        have c18' := i_lt c18
        refine g_aload_n C 0 rfl dX5_anchorNumbered_23 ?_
        refine g_get C b 5 1 (by omega) s0 rfl in5 (by decide) f20 (fun _ h9 => h9) rfl dX5_anchorNumbered_24 ?_
        refine g_iload_n C 1 rfl dX5_anchorNumbered_27 ?_
        refine g_ald C (b + 5) 2 (by omega) s5 rfl (vp_in_iff.mpr (by omega)) dX5_anchorNumbered_28 ?_
        refine g_eqst (show va_rf (gg x.toNatClampNeg) :: ([] : List Value) = ([.ref (adr (b + 7 + 2 * x.toNatClampNeg))] : List Value) from by rw [hg _ (by have := cl_toInt (x := x) (by omega); omega)]; rfl) ?_
        refine g_aret C hr hlk dX5_anchorNumbered_29 ?_
        exact ⟨by first | exact if_pos (by omega) | exact if_neg (by omega), rfl⟩
      · -- not taken at 18
        have c18' := i_nlt c18
        exfalso; omega
set_option maxRecDepth 100000 in
set_option maxHeartbeats 4000000 in
theorem c_X5_anchorsOfKind (l : Launch) (D : va_G) (kc : Nat → ClassId) (N : Nat) (adr : Nat → Nat) (cell : Nat → va_E) (b n m : Nat) (ed : Int32) (W T U E P V : Nat → Int32) (F : Nat → Nat → Int32) (x : Int32) (hSt : StAt cell adr kc b (n, m, ed, W, T, U, E, P, V, F)) (hN : b + 19 ≤ N) : MI l yX5_anchorsOfKind wsX5_anchorsOfKind ({ frames := 5, cells := 0, slots := 0, locals := 121 }) D kc N adr cell [.ref (adr b), .int x] (fun (w : Int32) (cell1 : Nat → va_E) => kndF n W E P V F x m = w ∧ cell = cell1) := by
  refine met_i (cc := cX5_anchorsOfKind) (maxL := 5) (ret := (some .int)) (by decide) rfl (Nat.le_of_ble_eq_true rfl) (lv := [(0, .ref (adr b)), (1, .int x)]) rfl ?_
  intro Pg Ev Sv Mi args below Me Cd Ar C hr hlk hnm
  have in5 : ∀ w ∈ u_ws RX5 TX5 5, w ∈ wsX5_anchorsOfKind := by decide +kernel
  have f29 := C.2.2.2.2.1 (.fieldLink RX5 29 "WordAnchors$State" "anchorCount" "I") (by decide +kernel)
  have hSt0 := hSt
  obtain ⟨s0, hRw, ⟨gg, s5, hg⟩, s6, hAn, hm⟩ := hSt
  have s0 : cell b = .inr (5, [.ref (adr (b + 1)), .ref (adr (b + 5)), .ref (adr (b + 6)), .int (nI m), .int ed]) := s0
  have hRw : RowAt cell adr kc (b + 1) W T U n := hRw
  have s6 : cell (b + 6) = .inl (kc 0, 5, .inl E) := s6
  have hAn : AnsAt cell adr kc b P V F := hAn
  have hm : m ≤ 6 := hm
  obtain ⟨r0, r1, r2, r3, hn⟩ := hRw
  have litm1 : ((-1) : Int32).toInt = -1 := rfl
  have lit0 : (0 : Int32).toInt = 0 := rfl
  have lit1 : (1 : Int32).toInt = 1 := rfl
  have tn_n : (nI n).toInt = ((n : Nat) : Int) := nI_toInt (by omega)
  have tn_m : (nI m).toInt = ((m : Nat) : Int) := nI_toInt (by omega)
  refine g_iconst C 0 (by decide) dX5_anchorsOfKind_0 ?_
  refine g_istore_n C [(2, .int 0), (0, .ref (adr b)), (1, .int x)] (by decide) rfl dX5_anchorsOfKind_1 ?_
  refine g_iconst C 0 (by decide) dX5_anchorsOfKind_2 ?_
  refine g_istore_n C [(3, .int 0), (2, .int 0), (0, .ref (adr b)), (1, .int x)] (by decide) rfl dX5_anchorsOfKind_3 ?_
  have L4 : ∀ (fu i : Nat) , i ≤ m → m < i + fu → G Pg l Ev (headSpec wsX5_anchorsOfKind { frames := 5, cells := 0, slots := 0, locals := 121 }).room Sv Mi args below Me Cd D N adr Ar Sv.heap 5 0 0 (MQ below (va_Qi (fun (w : Int32) (cell1 : Nat → va_E) => kndF n W E P V F x m = w ∧ cell = cell1) (fun (cell1 : Nat → va_E) (t : State) => va_P D vwCl (wld N adr cell1) t.heap) Ar) args Sv 0 0 Ar) cell 4 [(0, .ref (adr b)), (1, .int x), (2, .int (kndF n W E P V F x i)), (3, .int (nI i))] ([] : List Value) := by
    intro fu
    induction fu with
    | zero => intro i  hle hfu; exact absurd hfu (by omega)
    | succ fu ih =>
      intro i  hle4 hfu4  
      have tn_i : (nI i).toInt = ((i : Nat) : Int) := nI_toInt (by omega)
      refine g_iload_n C 3 rfl dX5_anchorsOfKind_4 ?_
      refine g_aload_n C 0 rfl dX5_anchorsOfKind_5 ?_
      refine g_get C b 5 3 (by omega) s0 rfl in5 (by decide) f29 (fun _ h9 => h9) rfl dX5_anchorsOfKind_6 ?_
      refine g_icmp_ge C 46 (by decide) dX5_anchorsOfKind_9 (fun c9 => ?_) (fun c9 => ?_)
      · -- taken at 9
        have c9' := i_le c9
        obtain rfl : m = i := by omega
        refine g_iload_n C 2 rfl dX5_anchorsOfKind_46 ?_
        refine g_iret C hr rfl hlk dX5_anchorsOfKind_47 ?_
        exact ⟨rfl, rfl⟩
      · -- not taken at 9
        have c9' := i_nle c9
        refine g_aload_n C 0 rfl dX5_anchorsOfKind_12 ?_
        refine g_iload_n C 3 rfl dX5_anchorsOfKind_13 ?_
        refine g_Vq C [.int (nI i)] b 5 (by omega) s0 rfl (c_X5_anchorNumbered l D kc N adr cell b n m ed W T U E P V F (nI i) hSt0 (by omega)) (cwV 1 C.2.2.2.2.1 gX5_anchorsOfKind_X5_anchorNumbered rfl rfl rfl (by decide +kernel) ⟨Nat.le_of_ble_eq_true rfl, Nat.le_of_ble_eq_true rfl⟩) rfl rfl (Nat.le_of_ble_eq_true rfl) (Nat.zero_le _) (Nat.zero_le _) dX5_anchorsOfKind_14 (fun v1 cell1 q1 => ?_)
        obtain ⟨rfl, rfl⟩ := q1
        refine g_eqst (st1 := ([.ref (adr (b + 7 + 2 * i))] : List Value)) (by rw [if_pos (by omega), nI_clamp (by omega)]; rfl) ?_
        have ha_2 := hAn i (by omega)
        refine g_astore C [(4, .ref (adr (b + 7 + 2 * i))), (0, .ref (adr b)), (1, .int x), (2, .int (kndF n W E P V F x i)), (3, .int (nI i))] (by decide) rfl dX5_anchorsOfKind_17 ?_
        refine g_aload C 0 rfl dX5_anchorsOfKind_19 ?_
        refine g_ifnull C dX5_anchorsOfKind_21 ?_
        refine g_aload_n C 1 rfl dX5_anchorsOfKind_24 ?_
        refine g_aload C 0 rfl dX5_anchorsOfKind_25 ?_
        refine g_iload_n C 2 rfl dX5_anchorsOfKind_27 ?_
        refine g_Vi C [.ref (adr (b + 7 + 2 * i)), .int x] b 5 (by omega) s0 rfl (c_X5_isOfKind l D kc N adr cell b n m ed W T U E P V F (b + 7 + 2 * i) (P i) (V i) (F i) x hSt0 (by omega) ⟨ha_2.1, ha_2.2⟩ (by omega)) (cwV 2 C.2.2.2.2.1 gX5_anchorsOfKind_X5_isOfKind rfl rfl rfl (by decide +kernel) ⟨Nat.le_of_ble_eq_true rfl, Nat.le_of_ble_eq_true rfl⟩) rfl rfl (Nat.le_of_ble_eq_true rfl) (Nat.zero_le _) (Nat.zero_le _) dX5_anchorsOfKind_28 (fun v3 cell3 q3 => ?_)
        obtain ⟨rfl, rfl⟩ := q3
        refine g_if_eq C 40 (by decide) dX5_anchorsOfKind_31 (fun c31 => ?_) (fun c31 => ?_)
        · -- taken at 31
          have c31' := bI_bf c31
          refine g_iinc C 4 [(3, .int (nI (i + 1))), (4, .ref (adr (b + 7 + 2 * i))), (0, .ref (adr b)), (1, .int x), (2, .int (kndF n W E P V F x i))] rfl (iinc_nI i) (by decide) rfl dX5_anchorsOfKind_40 ?_
          refine g_goto C 4 (by decide) dX5_anchorsOfKind_43 ?_
          refine g_sub [2, 3, 4, 0] rfl ?_
          have ev_4 : kndF n W E P V F x i = kndF n W E P V F x (i + 1) := by first | exact (if_pos c31').symm | exact (if_neg (by rw [c31']; decide)).symm
          refine g_eqlv (lv1 := [(0, .ref (adr b)), (1, .int x), (2, .int (kndF n W E P V F x (i + 1))), (3, .int (nI (i + 1)))]) (congrArg (fun z0 : Int32 => ([(0, .ref (adr b)), (1, .int x), (2, .int z0), (3, .int (nI (i + 1)))] : List (Nat × Value))) ev_4) ?_
          exact ih (i + 1) (by omega) (by omega) 
        · -- not taken at 31
          have c31' := bI_bt c31
          refine g_iload_n C 3 rfl dX5_anchorsOfKind_34 ?_
          refine g_iconst C 1 (by decide) dX5_anchorsOfKind_35 ?_
          refine g_iload_n C 4 rfl dX5_anchorsOfKind_36 ?_
          refine g_ishl C dX5_anchorsOfKind_37 ?_
          refine g_ior C dX5_anchorsOfKind_38 ?_
          refine g_istore_n C [(2, .int ((kndF n W E P V F x i) ||| (1 <<< ((nI i) &&& 31)))), (4, .ref (adr (b + 7 + 2 * i))), (0, .ref (adr b)), (1, .int x), (3, .int (nI i))] (by decide) rfl dX5_anchorsOfKind_39 ?_
          refine g_iinc C 4 [(3, .int (nI (i + 1))), (2, .int ((kndF n W E P V F x i) ||| (1 <<< ((nI i) &&& 31)))), (4, .ref (adr (b + 7 + 2 * i))), (0, .ref (adr b)), (1, .int x)] rfl (iinc_nI i) (by decide) rfl dX5_anchorsOfKind_40 ?_
          refine g_goto C 4 (by decide) dX5_anchorsOfKind_43 ?_
          refine g_sub [3, 4, 1, 0] rfl ?_
          have ev_5 : (kndF n W E P V F x i) ||| (1 <<< ((nI i) &&& 31)) = kndF n W E P V F x (i + 1) := by first | exact (if_pos c31').symm | exact (if_neg (by rw [c31']; decide)).symm
          refine g_eqlv (lv1 := [(0, .ref (adr b)), (1, .int x), (2, .int (kndF n W E P V F x (i + 1))), (3, .int (nI (i + 1)))]) (congrArg (fun z0 : Int32 => ([(0, .ref (adr b)), (1, .int x), (2, .int z0), (3, .int (nI (i + 1)))] : List (Nat × Value))) ev_5) ?_
          exact ih (i + 1) (by omega) (by omega) 
  refine g_sub [2, 3, 1, 0] rfl ?_
  have ev_6 : 0 = kndF n W E P V F x 0 := by rfl
  refine g_eqlv (lv1 := [(0, .ref (adr b)), (1, .int x), (2, .int (kndF n W E P V F x 0)), (3, .int 0)]) (congrArg (fun z0 : Int32 => ([(0, .ref (adr b)), (1, .int x), (2, .int z0), (3, .int 0)] : List (Nat × Value))) ev_6) ?_
  exact L4 (m + 1) 0 (by omega) (by omega) 
