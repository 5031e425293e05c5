set_option maxRecDepth 100000 in
set_option maxHeartbeats 4000000 in
theorem c_X3_size (l : Launch) (D : va_G) (kc : Nat → ClassId) (N : Nat) (adr : Nat → Nat) (cell : Nat → va_E) (h od sz : Nat) (dh : Nat → SD) (hH : HiAt cell adr kc h od sz dh) (hN : h + 78 ≤ N) : MI l yX3_size wsX3_size ({ frames := 0, cells := 0, slots := 0, locals := 0 }) D kc N adr cell [.ref (adr h)] (fun (w : Int32) (cell1 : Nat → va_E) => nI sz = w ∧ cell = cell1) := by
  refine met_i (cc := cX3_size) (maxL := 1) (ret := (some .int)) (by decide) rfl (Nat.le_of_ble_eq_true rfl) (lv := [(0, .ref (adr h))]) rfl ?_
  intro Pg Ev Sv Mi args below Me Cd Ar C hr hlk hnm
  have in3 : ∀ w ∈ u_ws RX3 TX3 3, w ∈ wsX3_size := by decide +kernel
  have f18 := C.2.2.2.2.1 (.fieldLink RX3 18 "WordAnchors$History" "size" "I") (by decide +kernel)
  obtain ⟨i0, ⟨gg, i1, hg⟩, i2, hod, hsz⟩ := hH
  have litm1 : ((-1) : Int32).toInt = -1 := rfl
  have lit0 : (0 : Int32).toInt = 0 := rfl
  have lit1 : (1 : Int32).toInt = 1 := rfl
  have tn_od : (nI od).toInt = ((od : Nat) : Int) := nI_toInt (by omega)
  have tn_sz : (nI sz).toInt = ((sz : Nat) : Int) := nI_toInt (by omega)
  refine g_aload_n C 0 rfl dX3_size_0 ?_
  refine g_get C h 3 2 (by omega) i0 rfl in3 (by decide) f18 (fun _ h9 => h9) rfl dX3_size_1 ?_
  refine g_iret C hr rfl hlk dX3_size_4 ?_
  exact ⟨by first | rfl | exact bI_1 (by omega) | exact bI_0 (by omega) | exact if_pos (by omega) | exact if_neg (by omega), rfl⟩
set_option maxRecDepth 100000 in
set_option maxHeartbeats 4000000 in
theorem c_X3_fromOldest (l : Launch) (D : va_G) (kc : Nat → ClassId) (N : Nat) (adr : Nat → Nat) (cell : Nat → va_E) (h od sz : Nat) (dh : Nat → SD) (q : Nat) (hH : HiAt cell adr kc h od sz dh) (hN : h + 78 ≤ N) (hq : q ≤ 4) : MR l yX3_fromOldest wsX3_fromOldest ({ frames := 0, cells := 0, slots := 0, locals := 0 }) D kc N adr cell [.ref (adr h), .int (nI q)] (fun (w : Option Nat) (cell1 : Nat → va_E) => some (adr (h + 2 + 19 * ((od + q) % 4))) = w ∧ cell = cell1) := by
  refine met_q (cc := cX3_fromOldest) (maxL := 3) (ret := (some (.object "WordAnchors$State"))) (by decide) rfl (Nat.le_of_ble_eq_true rfl) (lv := [(0, .ref (adr h)), (1, .int (nI q))]) rfl ?_
  intro Pg Ev Sv Mi args below Me Cd Ar C hr hlk hnm
  have in3 : ∀ w ∈ u_ws RX3 TX3 3, w ∈ wsX3_fromOldest := by decide +kernel
  have f22 := C.2.2.2.2.1 (.fieldLink RX3 22 "WordAnchors$History" "oldest" "I") (by decide +kernel)
  have f11 := C.2.2.2.2.1 (.fieldLink RX3 11 "WordAnchors$History" "states" "[LWordAnchors$State;") (by decide +kernel)
  obtain ⟨i0, ⟨gg, i1, hg⟩, i2, hod, hsz⟩ := hH
  have litm1 : ((-1) : Int32).toInt = -1 := rfl
  have lit0 : (0 : Int32).toInt = 0 := rfl
  have lit1 : (1 : Int32).toInt = 1 := rfl
  have lit4 : (4 : Int32).toInt = 4 := rfl
  have tn_od : (nI od).toInt = ((od : Nat) : Int) := nI_toInt (by omega)
  have tn_sz : (nI sz).toInt = ((sz : Nat) : Int) := nI_toInt (by omega)
  have tn_q : (nI q).toInt = ((q : Nat) : Int) := nI_toInt (by omega)
  have tn__od___q____4 : (nI ((od + q) % 4)).toInt = (((od + q) % 4 : Nat) : Int) := nI_toInt (by omega)
  refine g_aload_n C 0 rfl dX3_fromOldest_0 ?_
  refine g_get C h 3 1 (by omega) i0 rfl in3 (by decide) f22 (fun _ h9 => h9) rfl dX3_fromOldest_1 ?_
  refine g_iload_n C 1 rfl dX3_fromOldest_4 ?_
  refine g_iadd C dX3_fromOldest_5 ?_
  refine g_eqst (show ([.int ((nI od) + (nI q))] : List Value) = ([.int (nI (od + q))] : List Value) from by rw [nI_add]) ?_
  refine g_iconst C 4 (by decide) dX3_fromOldest_6 ?_
  refine g_irem C (by decide) dX3_fromOldest_7 ?_
  refine g_eqst (show ([.int ((nI (od + q)) - (nI (od + q)) / 4 * 4)] : List Value) = ([.int (nI ((od + q) % 4))] : List Value) from by rw [show (4 : Int32) = nI 4 from rfl, pk_rem (by omega) (by omega) (by omega)]) ?_
  refine g_istore_n C [(2, .int (nI ((od + q) % 4))), (0, .ref (adr h)), (1, .int (nI q))] (by decide) rfl dX3_fromOldest_8 ?_
  refine g_iload_n C 0 rfl dX3_fromOldest_9 ?_
  refine g_if_lt C 31 (by decide) dX3_fromOldest_10 (fun c10 => ?_) (fun c10 => ?_)
  · -- taken at 10
    have c10' := i_lt c10
    exfalso; omega
  · -- not taken at 10
    have c10' := i_nlt c10
    refine g_iload_n C 0 rfl dX3_fromOldest_13 ?_
    refine g_aload_n C 1 rfl dX3_fromOldest_14 ?_
    refine g_get C h 3 0 (by omega) i0 rfl in3 (by decide) f11 (fun _ h9 => h9) rfl dX3_fromOldest_15 ?_
    refine g_alen C (h + 1) 3 (by omega) i1 rfl 4 rfl dX3_fromOldest_18 ?_
    refine g_icmp_ge C 31 (by decide) dX3_fromOldest_19 (fun c19 => ?_) (fun c19 => ?_)
    · -- taken at 19
      have c19' := i_le c19
      exfalso; omega
    · -- not taken at 19
      have c19' := i_nle c19
      refine g_aload_n C 1 rfl dX3_fromOldest_22 ?_
      refine g_get C h 3 0 (by omega) i0 rfl in3 (by decide) f11 (fun _ h9 => h9) rfl dX3_fromOldest_23 ?_
      refine g_iload_n C 0 rfl dX3_fromOldest_26 ?_
      refine g_ald C (h + 1) 3 (by omega) i1 rfl (vp_in_nI (by omega) (by omega)) dX3_fromOldest_27 ?_
      refine g_eqst (show va_rf (gg (nI ((od + q) % 4)).toNatClampNeg) :: ([] : List Value) = ([.ref (adr (h + 2 + 19 * ((od + q) % 4)))] : List Value) from by rw [nI_clamp (by omega), hg _ (by omega)]; rfl) ?_
      refine g_goto C 32 (by decide) dX3_fromOldest_28 ?_
      refine g_aret C hr hlk dX3_fromOldest_32 ?_
      exact ⟨rfl, rfl⟩
set_option maxRecDepth 100000 in
set_option maxHeartbeats 4000000 in
theorem c_X3_record (l : Launch) (D : va_G) (kc : Nat → ClassId) (N : Nat) (adr : Nat → Nat) (cell : Nat → va_E) (h od sz : Nat) (dh : Nat → SD) (b : Nat) (d : SD) (hH : HiAt cell adr kc h od sz dh) (hN : h + 78 ≤ N) (hSt : StAt cell adr kc b d) (hNb : b + 19 ≤ N) (hd : b + 19 ≤ h ∨ h + 78 ≤ b) : MV l yX3_record wsX3_record ({ frames := 3, cells := 0, slots := 0, locals := 67 }) D kc N adr cell [.ref (adr h), .ref (adr b)] (fun (cell1 : Nat → va_E) => ∃ dc : SD, HiAt cell1 adr kc h (if sz < 4 then od else (od + 1) % 4) (if sz < 4 then sz + 1 else 4) (updS dh ((od + sz) % 4) dc) ∧ Eqv dc d ∧ ∀ j : Nat, (j < h ∨ h + 78 ≤ j) → cell1 j = cell j) := by
  refine met_v (cc := cX3_record) (maxL := 3) (ret := none) (by decide) rfl (Nat.le_of_ble_eq_true rfl) (lv := [(0, .ref (adr h)), (1, .ref (adr b))]) rfl ?_
  intro Pg Ev Sv Mi args below Me Cd Ar C hr hlk hnm
  have in3 : ∀ w ∈ u_ws RX3 TX3 3, w ∈ wsX3_record := by decide +kernel
  have f18 := C.2.2.2.2.1 (.fieldLink RX3 18 "WordAnchors$History" "size" "I") (by decide +kernel)
  have f22 := C.2.2.2.2.1 (.fieldLink RX3 22 "WordAnchors$History" "oldest" "I") (by decide +kernel)
  have hH0 := hH
  obtain ⟨i0, ⟨gg, i1, hg⟩, i2, hod, hsz⟩ := hH
  have hdn : d.1 ≤ 40 := hSt.2.1.2.2.2.2
  have hdm : d.2.1 ≤ 6 := hSt.2.2.2.2.2
  have litm1 : ((-1) : Int32).toInt = -1 := rfl
  have lit0 : (0 : Int32).toInt = 0 := rfl
  have lit1 : (1 : Int32).toInt = 1 := rfl
  have lit4 : (4 : Int32).toInt = 4 := rfl
  have tn_od : (nI od).toInt = ((od : Nat) : Int) := nI_toInt (by omega)
  have tn_sz : (nI sz).toInt = ((sz : Nat) : Int) := nI_toInt (by omega)
  refine g_aload_n C 0 rfl dX3_record_0 ?_
  refine g_aload_n C 0 rfl dX3_record_1 ?_
  refine g_get C h 3 2 (by omega) i0 rfl in3 (by decide) f18 (fun _ h9 => h9) rfl dX3_record_2 ?_
  refine g_Vq C [.int (nI sz)] h 3 (by omega) i0 rfl (c_X3_fromOldest l D kc N adr cell h od sz dh sz hH0 (by omega) (by omega)) (cwV 1 C.2.2.2.2.1 gX3_record_X3_fromOldest rfl rfl rfl (by decide +kernel) ⟨Nat.le_of_ble_eq_true rfl, Nat.le_of_ble_eq_true rfl⟩) rfl rfl (Nat.le_of_ble_eq_true rfl) (Nat.zero_le _) (Nat.zero_le _) dX3_record_5 (fun v1 cell1 q1 => ?_)
  obtain ⟨rfl, rfl⟩ := q1
  refine g_eqst (st1 := ([.ref (adr (h + 2 + 19 * ((od + sz) % 4)))] : List Value)) rfl ?_
  refine g_astore_n C [(2, .ref (adr (h + 2 + 19 * ((od + sz) % 4)))), (0, .ref (adr h)), (1, .ref (adr b))] (by decide) rfl dX3_record_8 ?_
  refine g_aload_n C 0 rfl dX3_record_9 ?_
  refine g_ifnull C dX3_record_10 ?_
  refine g_aload_n C 0 rfl dX3_record_13 ?_
  refine g_aload_n C 2 rfl dX3_record_14 ?_
  refine g_Vv C [.ref (adr b)] (h + 2 + 19 * ((od + sz) % 4)) 5 (by omega) (i2 ((od + sz) % 4) (by omega)).1 rfl (c_X5_copyFrom l D kc N adr cell (h + 2 + 19 * ((od + sz) % 4)) (dh ((od + sz) % 4)).1 (dh ((od + sz) % 4)).2.1 (dh ((od + sz) % 4)).2.2.1 (dh ((od + sz) % 4)).2.2.2.1 (dh ((od + sz) % 4)).2.2.2.2.1 (dh ((od + sz) % 4)).2.2.2.2.2.1 (dh ((od + sz) % 4)).2.2.2.2.2.2.1 (dh ((od + sz) % 4)).2.2.2.2.2.2.2.1 (dh ((od + sz) % 4)).2.2.2.2.2.2.2.2.1 (dh ((od + sz) % 4)).2.2.2.2.2.2.2.2.2 b d.1 d.2.1 d.2.2.1 d.2.2.2.1 d.2.2.2.2.1 d.2.2.2.2.2.1 d.2.2.2.2.2.2.1 d.2.2.2.2.2.2.2.1 d.2.2.2.2.2.2.2.2.1 d.2.2.2.2.2.2.2.2.2 (i2 ((od + sz) % 4) (by omega)) (by omega) hSt (by omega) (by omega)) (cwV 1 C.2.2.2.2.1 gX3_record_X5_copyFrom rfl rfl rfl (by decide +kernel) ⟨Nat.le_of_ble_eq_true rfl, Nat.le_of_ble_eq_true rfl⟩) rfl rfl (Nat.le_of_ble_eq_true rfl) (Nat.zero_le _) (Nat.zero_le _) dX3_record_15 (fun cell2 q2 => ?_)
  obtain ⟨hS_3, gf_4⟩ := q2
  have hEc := cp_eqv (d := dh ((od + sz) % 4)) (d2 := d) hdn hdm
  obtain ⟨dc, hdc⟩ : ∃ dc : SD, dc = (d.1, d.2.1, d.2.2.1, fill (fun p => atF d.1 d.2.2.2.1 (nI p)) (dh ((od + sz) % 4)).2.2.2.1 40, (dh ((od + sz) % 4)).2.2.2.2.1, (dh ((od + sz) % 4)).2.2.2.2.2.1, fill d.2.2.2.2.2.2.1 (dh ((od + sz) % 4)).2.2.2.2.2.2.1 5, fill d.2.2.2.2.2.2.2.1 (dh ((od + sz) % 4)).2.2.2.2.2.2.2.1 d.2.1, fill d.2.2.2.2.2.2.2.2.1 (dh ((od + sz) % 4)).2.2.2.2.2.2.2.2.1 d.2.1, fillF (fun k => fill (d.2.2.2.2.2.2.2.2.2 k) ((dh ((od + sz) % 4)).2.2.2.2.2.2.2.2.2 k) 5) (dh ((od + sz) % 4)).2.2.2.2.2.2.2.2.2 d.2.1) := ⟨_, rfl⟩
  have hS_3 : StAt cell2 adr kc (h + 2 + 19 * ((od + sz) % 4)) dc := by rw [hdc]; exact hS_3
  rw [← hdc] at hEc
  have hs_5 : HsSt cell2 adr kc h (updS dh ((od + sz) % 4) dc) := HsSt.put i2 hS_3 gf_4
  have h_6 : cell2 h = .inr (3, [.ref (adr (h + 1)), .int (nI od), .int (nI sz)]) := (gf_4 h (by omega)).trans i0
  have h_7 : cell2 (h + 1) = .inl (kc 3, 4, .inr (.inr (.inr (.inr gg)))) := (gf_4 (h + 1) (by omega)).trans i1
  have fr_8 : ∀ j : Nat, (j < h ∨ h + 78 ≤ j) → cell2 j = cell j := fun j hj => gf_4 j (by omega)
  refine g_aload_n C 1 rfl dX3_record_18 ?_
  refine g_get C h 3 2 (by omega) h_6 rfl in3 (by decide) f18 (fun _ h9 => h9) rfl dX3_record_19 ?_
  refine g_iconst C 4 (by decide) dX3_record_22 ?_
  refine g_icmp_ge C 39 (by decide) dX3_record_23 (fun c23 => ?_) (fun c23 => ?_)
  · -- taken at 23
    have c23' := i_le c23
    refine g_aload_n C 1 rfl dX3_record_39 ?_
    refine g_aload_n C 1 rfl dX3_record_40 ?_
    refine g_get C h 3 1 (by omega) h_6 rfl in3 (by decide) f22 (fun _ h9 => h9) rfl dX3_record_41 ?_
    refine g_iconst C 1 (by decide) dX3_record_44 ?_
    refine g_iadd C dX3_record_45 ?_
    refine g_eqst (show ([.int ((nI od) + 1), .ref (adr h)] : List Value) = ([.int (nI (od + 1)), .ref (adr h)] : List Value) from by rw [nI_1]) ?_
    refine g_iconst C 4 (by decide) dX3_record_46 ?_
    refine g_irem C (by decide) dX3_record_47 ?_
    refine g_eqst (show ([.int ((nI (od + 1)) - (nI (od + 1)) / 4 * 4), .ref (adr h)] : List Value) = ([.int (nI ((od + 1) % 4)), .ref (adr h)] : List Value) from by rw [show (4 : Int32) = nI 4 from rfl, pk_rem (by omega) (by omega) (by omega)]) ?_
    refine g_put C h 3 1 (by omega) h_6 rfl in3 tyX3 tyX3_ok nmX3 (by decide) f22 (fun _ h9 => h9) rfl (ty := .int) (by decide +kernel) rfl rfl (Nat.le_of_ble_eq_true rfl) dX3_record_48 ?_
    refine g_cell (fun cell11 ec11 => ?_)
    have h_12 : cell11 h = .inr (3, [.ref (adr (h + 1)), .int (nI ((od + 1) % 4)), .int (nI sz)]) := by rw [ec11]; exact va_up_self _ _ _
    have h_13 : cell11 (h + 1) = .inl (kc 3, 4, .inr (.inr (.inr (.inr gg)))) := by rw [ec11, va_up_ne _ _ (by omega)]; exact h_7
    have h_14 : HsSt cell11 adr kc h (updS dh ((od + sz) % 4) dc) := HsSt.frame hs_5 (fun j h1 h2 => by rw [ec11, va_up_ne _ _ (by omega)])
    have fr_15 : ∀ j : Nat, (j < h ∨ h + 78 ≤ j) → cell11 j = cell j := fun j hj => by rw [ec11, va_up_ne _ _ (by omega)]; exact fr_8 j hj
    refine g_vret C hr hlk dX3_record_51 ?_
    have e4 : sz = 4 := by omega
    subst e4
    refine ⟨dc, ?_, hEc, fr_15⟩
    rw [if_neg (by omega), if_neg (by omega)]
    exact ⟨h_12, ⟨gg, h_13, hg⟩, h_14, by omega, by omega⟩
  · -- not taken at 23
    have c23' := i_nle c23
    refine g_aload_n C 1 rfl dX3_record_26 ?_
    refine g_dup C rfl dX3_record_27 ?_
    refine g_get C h 3 2 (by omega) h_6 rfl in3 (by decide) f18 (fun _ h9 => h9) rfl dX3_record_28 ?_
    refine g_iconst C 1 (by decide) dX3_record_31 ?_
    refine g_iadd C dX3_record_32 ?_
    refine g_eqst (show ([.int ((nI sz) + 1), .ref (adr h)] : List Value) = ([.int (nI (sz + 1)), .ref (adr h)] : List Value) from by rw [nI_1]) ?_
    refine g_put C h 3 2 (by omega) h_6 rfl in3 tyX3 tyX3_ok nmX3 (by decide) f18 (fun _ h9 => h9) rfl (ty := .int) (by decide +kernel) rfl rfl (Nat.le_of_ble_eq_true rfl) dX3_record_33 ?_
    refine g_cell (fun cell17 ec17 => ?_)
    have h_18 : cell17 h = .inr (3, [.ref (adr (h + 1)), .int (nI od), .int (nI (sz + 1))]) := by rw [ec17]; exact va_up_self _ _ _
    have h_19 : cell17 (h + 1) = .inl (kc 3, 4, .inr (.inr (.inr (.inr gg)))) := by rw [ec17, va_up_ne _ _ (by omega)]; exact h_7
    have h_20 : HsSt cell17 adr kc h (updS dh ((od + sz) % 4) dc) := HsSt.frame hs_5 (fun j h1 h2 => by rw [ec17, va_up_ne _ _ (by omega)])
    have fr_21 : ∀ j : Nat, (j < h ∨ h + 78 ≤ j) → cell17 j = cell j := fun j hj => by rw [ec17, va_up_ne _ _ (by omega)]; exact fr_8 j hj
    refine g_goto C 51 (by decide) dX3_record_36 ?_
    refine g_vret C hr hlk dX3_record_51 ?_
    refine ⟨dc, ?_, hEc, fr_21⟩
    rw [if_pos (by omega), if_pos (by omega)]
    exact ⟨h_18, ⟨gg, h_19, hg⟩, h_20, by omega, by omega⟩
set_option maxRecDepth 100000 in
set_option maxHeartbeats 4000000 in
theorem c_X3_latest (l : Launch) (D : va_G) (kc : Nat → ClassId) (N : Nat) (adr : Nat → Nat) (cell : Nat → va_E) (h od sz : Nat) (dh : Nat → SD) (hH : HiAt cell adr kc h od sz dh) (hN : h + 78 ≤ N) : MR l yX3_latest wsX3_latest ({ frames := 1, cells := 0, slots := 0, locals := 22 }) D kc N adr cell [.ref (adr h)] (fun (w : Option Nat) (cell1 : Nat → va_E) => (if sz = 0 then none else some (adr (h + 2 + 19 * ((od + (sz - 1)) % 4)))) = w ∧ cell = cell1) := by
  refine met_q (cc := cX3_latest) (maxL := 1) (ret := (some (.object "WordAnchors$State"))) (by decide) rfl (Nat.le_of_ble_eq_true rfl) (lv := [(0, .ref (adr h))]) rfl ?_
  intro Pg Ev Sv Mi args below Me Cd Ar C hr hlk hnm
  have in3 : ∀ w ∈ u_ws RX3 TX3 3, w ∈ wsX3_latest := by decide +kernel
  have f18 := C.2.2.2.2.1 (.fieldLink RX3 18 "WordAnchors$History" "size" "I") (by decide +kernel)
  have hH0 := hH
  obtain ⟨i0, ⟨gg, i1, hg⟩, i2, hod, hsz⟩ := hH
  have litm1 : ((-1) : Int32).toInt = -1 := rfl
  have lit0 : (0 : Int32).toInt = 0 := rfl
  have lit1 : (1 : Int32).toInt = 1 := rfl
  have tn_od : (nI od).toInt = ((od : Nat) : Int) := nI_toInt (by omega)
  have tn_sz : (nI sz).toInt = ((sz : Nat) : Int) := nI_toInt (by omega)
  refine g_aload_n C 0 rfl dX3_latest_0 ?_
  refine g_get C h 3 2 (by omega) i0 rfl in3 (by decide) f18 (fun _ h9 => h9) rfl dX3_latest_1 ?_
  refine g_if_ne C 11 (by decide) dX3_latest_4 (fun c4 => ?_) (fun c4 => ?_)
  · -- taken at 4
    have c4' := i_ne c4
    refine g_aload_n C 0 rfl dX3_latest_11 ?_
    refine g_aload_n C 0 rfl dX3_latest_12 ?_
    refine g_get C h 3 2 (by omega) i0 rfl in3 (by decide) f18 (fun _ h9 => h9) rfl dX3_latest_13 ?_
    refine g_iconst C 1 (by decide) dX3_latest_16 ?_
    refine g_isub C dX3_latest_17 ?_
    refine g_eqst (show ([.int ((nI sz) - 1), .ref (adr h)] : List Value) = ([.int (nI (sz - 1)), .ref (adr h)] : List Value) from by rw [show nI sz - 1 = nI (sz - 1) from pk_sub (b := 1) (by omega)]) ?_
    refine g_Vq C [.int (nI (sz - 1))] h 3 (by omega) i0 rfl (c_X3_fromOldest l D kc N adr cell h od sz dh (sz - 1) hH0 (by omega) (by omega)) (cwV 1 C.2.2.2.2.1 gX3_latest_X3_fromOldest rfl rfl rfl (by decide +kernel) ⟨Nat.le_of_ble_eq_true rfl, Nat.le_of_ble_eq_true rfl⟩) rfl rfl (Nat.le_of_ble_eq_true rfl) (Nat.zero_le _) (Nat.zero_le _) dX3_latest_18 (fun v2 cell2 q2 => ?_)
    obtain ⟨rfl, rfl⟩ := q2
    refine g_eqst (st1 := ([.ref (adr (h + 2 + 19 * ((od + (sz - 1)) % 4)))] : List Value)) rfl ?_
    refine g_aret C hr hlk dX3_latest_21 ?_
    exact ⟨by first | exact if_pos (by omega) | exact if_neg (by omega), rfl⟩
  · -- not taken at 4
    have c4' := i_eq c4
    refine g_null C dX3_latest_7 ?_
    refine g_goto C 21 (by decide) dX3_latest_8 ?_
    refine g_aretN C hr hlk dX3_latest_21 ?_
    exact ⟨by first | exact if_pos (by omega) | exact if_neg (by omega), rfl⟩
set_option maxRecDepth 100000 in
set_option maxHeartbeats 4000000 in
theorem c_X3_forgetLatest (l : Launch) (D : va_G) (kc : Nat → ClassId) (N : Nat) (adr : Nat → Nat) (cell : Nat → va_E) (h od sz : Nat) (dh : Nat → SD) (hH : HiAt cell adr kc h od sz dh) (hN : h + 78 ≤ N) : MV l yX3_forgetLatest wsX3_forgetLatest ({ frames := 0, cells := 0, slots := 0, locals := 0 }) D kc N adr cell [.ref (adr h)] (fun (cell1 : Nat → va_E) => HiAt cell1 adr kc h od (sz - 1) dh ∧ ∀ j : Nat, (j < h ∨ h + 78 ≤ j) → cell1 j = cell j) := by
  refine met_v (cc := cX3_forgetLatest) (maxL := 1) (ret := none) (by decide) rfl (Nat.le_of_ble_eq_true rfl) (lv := [(0, .ref (adr h))]) rfl ?_
  intro Pg Ev Sv Mi args below Me Cd Ar C hr hlk hnm
  have in3 : ∀ w ∈ u_ws RX3 TX3 3, w ∈ wsX3_forgetLatest := by decide +kernel
  have f18 := C.2.2.2.2.1 (.fieldLink RX3 18 "WordAnchors$History" "size" "I") (by decide +kernel)
  have hH0 := hH
  obtain ⟨i0, ⟨gg, i1, hg⟩, i2, hod, hsz⟩ := hH
  have litm1 : ((-1) : Int32).toInt = -1 := rfl
  have lit0 : (0 : Int32).toInt = 0 := rfl
  have lit1 : (1 : Int32).toInt = 1 := rfl
  have tn_od : (nI od).toInt = ((od : Nat) : Int) := nI_toInt (by omega)
  have tn_sz : (nI sz).toInt = ((sz : Nat) : Int) := nI_toInt (by omega)
  refine g_aload_n C 0 rfl dX3_forgetLatest_0 ?_
  refine g_get C h 3 2 (by omega) i0 rfl in3 (by decide) f18 (fun _ h9 => h9) rfl dX3_forgetLatest_1 ?_
  refine g_if_le C 17 (by decide) dX3_forgetLatest_4 (fun c4 => ?_) (fun c4 => ?_)
  · -- taken at 4
    have c4' := i_le c4
    refine g_vret C hr hlk dX3_forgetLatest_17 ?_
    have e0 : sz = 0 := by omega
    subst e0
    exact ⟨hH0, fun _ _ => rfl⟩
  · -- not taken at 4
    have c4' := i_nle c4
    refine g_aload_n C 0 rfl dX3_forgetLatest_7 ?_
    refine g_dup C rfl dX3_forgetLatest_8 ?_
    refine g_get C h 3 2 (by omega) i0 rfl in3 (by decide) f18 (fun _ h9 => h9) rfl dX3_forgetLatest_9 ?_
    refine g_iconst C 1 (by decide) dX3_forgetLatest_12 ?_
    refine g_isub C dX3_forgetLatest_13 ?_
    refine g_eqst (show ([.int ((nI sz) - 1), .ref (adr h)] : List Value) = ([.int (nI (sz - 1)), .ref (adr h)] : List Value) from by rw [show nI sz - 1 = nI (sz - 1) from pk_sub (b := 1) (by omega)]) ?_
    refine g_put C h 3 2 (by omega) i0 rfl in3 tyX3 tyX3_ok nmX3 (by decide) f18 (fun _ h9 => h9) rfl (ty := .int) (by decide +kernel) rfl rfl (Nat.le_of_ble_eq_true rfl) dX3_forgetLatest_14 ?_
    refine g_cell (fun cell2 ec2 => ?_)
    have h_3 : cell2 h = .inr (3, [.ref (adr (h + 1)), .int (nI od), .int (nI (sz - 1))]) := by rw [ec2]; exact va_up_self _ _ _
    have h_4 : cell2 (h + 1) = .inl (kc 3, 4, .inr (.inr (.inr (.inr gg)))) := by rw [ec2, va_up_ne _ _ (by omega)]; exact i1
    have h_5 : HsSt cell2 adr kc h dh := HsSt.frame i2 (fun j h1 h2 => by rw [ec2, va_up_ne _ _ (by omega)])
    have fr_6 : ∀ j : Nat, (j < h ∨ h + 78 ≤ j) → cell2 j = cell j := fun j hj => by rw [ec2, va_up_ne _ _ (by omega)]
    refine g_vret C hr hlk dX3_forgetLatest_17 ?_
    exact ⟨⟨h_3, ⟨gg, h_4, hg⟩, h_5, hod, by omega⟩, fr_6⟩
