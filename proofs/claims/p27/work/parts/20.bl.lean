set_option maxRecDepth 100000 in
set_option maxHeartbeats 4000000 in
theorem c_J6_bitCount_0f7a4 (l : Launch) (D : va_G) (kc : Nat → ClassId) (N : Nat) (adr : Nat → Nat) (cell : Nat → va_E) (x : Int32)  : MI l yJ6_bitCount_0f7a4 wsJ6_bitCount_0f7a4 ({ frames := 0, cells := 0, slots := 0, locals := 0 }) D kc N adr cell [.int x] (fun (w : Int32) (cell1 : Nat → va_E) => bcF x = w ∧ cell = cell1) := by
  refine met_i (cc := cJ6_bitCount_0f7a4) (maxL := 1) (ret := (some .int)) (by decide) rfl (Nat.le_of_ble_eq_true rfl) (lv := [(0, .int x)]) rfl ?_
  intro Pg Ev Sv Mi args below Me Cd Ar C hr hlk hnm
  have k265 := C.2.2.2.2.1 (.constant RJ6 265 (1431655765)) (by decide +kernel)
  have k266 := C.2.2.2.2.1 (.constant RJ6 266 (858993459)) (by decide +kernel)
  have k267 := C.2.2.2.2.1 (.constant RJ6 267 (252645135)) (by decide +kernel)
  have litm1 : ((-1) : Int32).toInt = -1 := rfl
  have lit0 : (0 : Int32).toInt = 0 := rfl
  have lit1 : (1 : Int32).toInt = 1 := rfl
  have lit2 : (2 : Int32).toInt = 2 := rfl
  have lit4 : (4 : Int32).toInt = 4 := rfl
  have lit8 : (8 : Int32).toInt = 8 := rfl
  have lit16 : (16 : Int32).toInt = 16 := rfl
  have lit63 : (63 : Int32).toInt = 63 := rfl
  refine g_iload_n C 0 rfl dJ6_bitCount_0f7a4_0 ?_
  refine g_iload_n C 0 rfl dJ6_bitCount_0f7a4_1 ?_
  refine g_iconst C 1 (by decide) dJ6_bitCount_0f7a4_2 ?_
  refine g_iushr C ((x.toUInt32 >>> ((1 : Int32).toUInt32 &&& Int32.toUInt32 31)).toInt32) rfl dJ6_bitCount_0f7a4_3 ?_
  refine g_ldcw C (1431655765) k265 dJ6_bitCount_0f7a4_4 ?_
  refine g_iand C dJ6_bitCount_0f7a4_7 ?_
  refine g_isub C dJ6_bitCount_0f7a4_8 ?_
  refine g_istore_n C [(0, .int (x - (((x.toUInt32 >>> ((1 : Int32).toUInt32 &&& Int32.toUInt32 31)).toInt32) &&& (1431655765))))] (by decide) rfl dJ6_bitCount_0f7a4_9 ?_
  refine g_iload_n C 0 rfl dJ6_bitCount_0f7a4_10 ?_
  refine g_ldcw C (858993459) k266 dJ6_bitCount_0f7a4_11 ?_
  refine g_iand C dJ6_bitCount_0f7a4_14 ?_
  refine g_iload_n C 0 rfl dJ6_bitCount_0f7a4_15 ?_
  refine g_iconst C 2 (by decide) dJ6_bitCount_0f7a4_16 ?_
  refine g_iushr C (((x - (((x.toUInt32 >>> ((1 : Int32).toUInt32 &&& Int32.toUInt32 31)).toInt32) &&& (1431655765))).toUInt32 >>> ((2 : Int32).toUInt32 &&& Int32.toUInt32 31)).toInt32) rfl dJ6_bitCount_0f7a4_17 ?_
  refine g_ldcw C (858993459) k266 dJ6_bitCount_0f7a4_18 ?_
  refine g_iand C dJ6_bitCount_0f7a4_21 ?_
  refine g_iadd C dJ6_bitCount_0f7a4_22 ?_
  refine g_istore_n C [(0, .int (((x - (((x.toUInt32 >>> ((1 : Int32).toUInt32 &&& Int32.toUInt32 31)).toInt32) &&& (1431655765))) &&& (858993459)) + ((((x - (((x.toUInt32 >>> ((1 : Int32).toUInt32 &&& Int32.toUInt32 31)).toInt32) &&& (1431655765))).toUInt32 >>> ((2 : Int32).toUInt32 &&& Int32.toUInt32 31)).toInt32) &&& (858993459))))] (by decide) rfl dJ6_bitCount_0f7a4_23 ?_
  refine g_iload_n C 0 rfl dJ6_bitCount_0f7a4_24 ?_
  refine g_iload_n C 0 rfl dJ6_bitCount_0f7a4_25 ?_
  refine g_iconst C 4 (by decide) dJ6_bitCount_0f7a4_26 ?_
  refine g_iushr C (((((x - (((x.toUInt32 >>> ((1 : Int32).toUInt32 &&& Int32.toUInt32 31)).toInt32) &&& (1431655765))) &&& (858993459)) + ((((x - (((x.toUInt32 >>> ((1 : Int32).toUInt32 &&& Int32.toUInt32 31)).toInt32) &&& (1431655765))).toUInt32 >>> ((2 : Int32).toUInt32 &&& Int32.toUInt32 31)).toInt32) &&& (858993459))).toUInt32 >>> ((4 : Int32).toUInt32 &&& Int32.toUInt32 31)).toInt32) rfl dJ6_bitCount_0f7a4_27 ?_
  refine g_iadd C dJ6_bitCount_0f7a4_28 ?_
  refine g_ldcw C (252645135) k267 dJ6_bitCount_0f7a4_29 ?_
  refine g_iand C dJ6_bitCount_0f7a4_32 ?_
  refine g_istore_n C [(0, .int (((((x - (((x.toUInt32 >>> ((1 : Int32).toUInt32 &&& Int32.toUInt32 31)).toInt32) &&& (1431655765))) &&& (858993459)) + ((((x - (((x.toUInt32 >>> ((1 : Int32).toUInt32 &&& Int32.toUInt32 31)).toInt32) &&& (1431655765))).toUInt32 >>> ((2 : Int32).toUInt32 &&& Int32.toUInt32 31)).toInt32) &&& (858993459))) + (((((x - (((x.toUInt32 >>> ((1 : Int32).toUInt32 &&& Int32.toUInt32 31)).toInt32) &&& (1431655765))) &&& (858993459)) + ((((x - (((x.toUInt32 >>> ((1 : Int32).toUInt32 &&& Int32.toUInt32 31)).toInt32) &&& (1431655765))).toUInt32 >>> ((2 : Int32).toUInt32 &&& Int32.toUInt32 31)).toInt32) &&& (858993459))).toUInt32 >>> ((4 : Int32).toUInt32 &&& Int32.toUInt32 31)).toInt32)) &&& (252645135)))] (by decide) rfl dJ6_bitCount_0f7a4_33 ?_
  refine g_iload_n C 0 rfl dJ6_bitCount_0f7a4_34 ?_
  refine g_iload_n C 0 rfl dJ6_bitCount_0f7a4_35 ?_
  refine g_bipush C 8 (by decide) dJ6_bitCount_0f7a4_36 ?_
  refine g_iushr C (((((((x - (((x.toUInt32 >>> ((1 : Int32).toUInt32 &&& Int32.toUInt32 31)).toInt32) &&& (1431655765))) &&& (858993459)) + ((((x - (((x.toUInt32 >>> ((1 : Int32).toUInt32 &&& Int32.toUInt32 31)).toInt32) &&& (1431655765))).toUInt32 >>> ((2 : Int32).toUInt32 &&& Int32.toUInt32 31)).toInt32) &&& (858993459))) + (((((x - (((x.toUInt32 >>> ((1 : Int32).toUInt32 &&& Int32.toUInt32 31)).toInt32) &&& (1431655765))) &&& (858993459)) + ((((x - (((x.toUInt32 >>> ((1 : Int32).toUInt32 &&& Int32.toUInt32 31)).toInt32) &&& (1431655765))).toUInt32 >>> ((2 : Int32).toUInt32 &&& Int32.toUInt32 31)).toInt32) &&& (858993459))).toUInt32 >>> ((4 : Int32).toUInt32 &&& Int32.toUInt32 31)).toInt32)) &&& (252645135)).toUInt32 >>> ((8 : Int32).toUInt32 &&& Int32.toUInt32 31)).toInt32) rfl dJ6_bitCount_0f7a4_38 ?_
  refine g_iadd C dJ6_bitCount_0f7a4_39 ?_
  refine g_istore_n C [(0, .int ((((((x - (((x.toUInt32 >>> ((1 : Int32).toUInt32 &&& Int32.toUInt32 31)).toInt32) &&& (1431655765))) &&& (858993459)) + ((((x - (((x.toUInt32 >>> ((1 : Int32).toUInt32 &&& Int32.toUInt32 31)).toInt32) &&& (1431655765))).toUInt32 >>> ((2 : Int32).toUInt32 &&& Int32.toUInt32 31)).toInt32) &&& (858993459))) + (((((x - (((x.toUInt32 >>> ((1 : Int32).toUInt32 &&& Int32.toUInt32 31)).toInt32) &&& (1431655765))) &&& (858993459)) + ((((x - (((x.toUInt32 >>> ((1 : Int32).toUInt32 &&& Int32.toUInt32 31)).toInt32) &&& (1431655765))).toUInt32 >>> ((2 : Int32).toUInt32 &&& Int32.toUInt32 31)).toInt32) &&& (858993459))).toUInt32 >>> ((4 : Int32).toUInt32 &&& Int32.toUInt32 31)).toInt32)) &&& (252645135)) + (((((((x - (((x.toUInt32 >>> ((1 : Int32).toUInt32 &&& Int32.toUInt32 31)).toInt32) &&& (1431655765))) &&& (858993459)) + ((((x - (((x.toUInt32 >>> ((1 : Int32).toUInt32 &&& Int32.toUInt32 31)).toInt32) &&& (1431655765))).toUInt32 >>> ((2 : Int32).toUInt32 &&& Int32.toUInt32 31)).toInt32) &&& (858993459))) + (((((x - (((x.toUInt32 >>> ((1 : Int32).toUInt32 &&& Int32.toUInt32 31)).toInt32) &&& (1431655765))) &&& (858993459)) + ((((x - (((x.toUInt32 >>> ((1 : Int32).toUInt32 &&& Int32.toUInt32 31)).toInt32) &&& (1431655765))).toUInt32 >>> ((2 : Int32).toUInt32 &&& Int32.toUInt32 31)).toInt32) &&& (858993459))).toUInt32 >>> ((4 : Int32).toUInt32 &&& Int32.toUInt32 31)).toInt32)) &&& (252645135)).toUInt32 >>> ((8 : Int32).toUInt32 &&& Int32.toUInt32 31)).toInt32)))] (by decide) rfl dJ6_bitCount_0f7a4_40 ?_
  refine g_iload_n C 0 rfl dJ6_bitCount_0f7a4_41 ?_
  refine g_iload_n C 0 rfl dJ6_bitCount_0f7a4_42 ?_
  refine g_bipush C 16 (by decide) dJ6_bitCount_0f7a4_43 ?_
  refine g_iushr C ((((((((x - (((x.toUInt32 >>> ((1 : Int32).toUInt32 &&& Int32.toUInt32 31)).toInt32) &&& (1431655765))) &&& (858993459)) + ((((x - (((x.toUInt32 >>> ((1 : Int32).toUInt32 &&& Int32.toUInt32 31)).toInt32) &&& (1431655765))).toUInt32 >>> ((2 : Int32).toUInt32 &&& Int32.toUInt32 31)).toInt32) &&& (858993459))) + (((((x - (((x.toUInt32 >>> ((1 : Int32).toUInt32 &&& Int32.toUInt32 31)).toInt32) &&& (1431655765))) &&& (858993459)) + ((((x - (((x.toUInt32 >>> ((1 : Int32).toUInt32 &&& Int32.toUInt32 31)).toInt32) &&& (1431655765))).toUInt32 >>> ((2 : Int32).toUInt32 &&& Int32.toUInt32 31)).toInt32) &&& (858993459))).toUInt32 >>> ((4 : Int32).toUInt32 &&& Int32.toUInt32 31)).toInt32)) &&& (252645135)) + (((((((x - (((x.toUInt32 >>> ((1 : Int32).toUInt32 &&& Int32.toUInt32 31)).toInt32) &&& (1431655765))) &&& (858993459)) + ((((x - (((x.toUInt32 >>> ((1 : Int32).toUInt32 &&& Int32.toUInt32 31)).toInt32) &&& (1431655765))).toUInt32 >>> ((2 : Int32).toUInt32 &&& Int32.toUInt32 31)).toInt32) &&& (858993459))) + (((((x - (((x.toUInt32 >>> ((1 : Int32).toUInt32 &&& Int32.toUInt32 31)).toInt32) &&& (1431655765))) &&& (858993459)) + ((((x - (((x.toUInt32 >>> ((1 : Int32).toUInt32 &&& Int32.toUInt32 31)).toInt32) &&& (1431655765))).toUInt32 >>> ((2 : Int32).toUInt32 &&& Int32.toUInt32 31)).toInt32) &&& (858993459))).toUInt32 >>> ((4 : Int32).toUInt32 &&& Int32.toUInt32 31)).toInt32)) &&& (252645135)).toUInt32 >>> ((8 : Int32).toUInt32 &&& Int32.toUInt32 31)).toInt32)).toUInt32 >>> ((16 : Int32).toUInt32 &&& Int32.toUInt32 31)).toInt32) rfl dJ6_bitCount_0f7a4_45 ?_
  refine g_iadd C dJ6_bitCount_0f7a4_46 ?_
  refine g_istore_n C [(0, .int (((((((x - (((x.toUInt32 >>> ((1 : Int32).toUInt32 &&& Int32.toUInt32 31)).toInt32) &&& (1431655765))) &&& (858993459)) + ((((x - (((x.toUInt32 >>> ((1 : Int32).toUInt32 &&& Int32.toUInt32 31)).toInt32) &&& (1431655765))).toUInt32 >>> ((2 : Int32).toUInt32 &&& Int32.toUInt32 31)).toInt32) &&& (858993459))) + (((((x - (((x.toUInt32 >>> ((1 : Int32).toUInt32 &&& Int32.toUInt32 31)).toInt32) &&& (1431655765))) &&& (858993459)) + ((((x - (((x.toUInt32 >>> ((1 : Int32).toUInt32 &&& Int32.toUInt32 31)).toInt32) &&& (1431655765))).toUInt32 >>> ((2 : Int32).toUInt32 &&& Int32.toUInt32 31)).toInt32) &&& (858993459))).toUInt32 >>> ((4 : Int32).toUInt32 &&& Int32.toUInt32 31)).toInt32)) &&& (252645135)) + (((((((x - (((x.toUInt32 >>> ((1 : Int32).toUInt32 &&& Int32.toUInt32 31)).toInt32) &&& (1431655765))) &&& (858993459)) + ((((x - (((x.toUInt32 >>> ((1 : Int32).toUInt32 &&& Int32.toUInt32 31)).toInt32) &&& (1431655765))).toUInt32 >>> ((2 : Int32).toUInt32 &&& Int32.toUInt32 31)).toInt32) &&& (858993459))) + (((((x - (((x.toUInt32 >>> ((1 : Int32).toUInt32 &&& Int32.toUInt32 31)).toInt32) &&& (1431655765))) &&& (858993459)) + ((((x - (((x.toUInt32 >>> ((1 : Int32).toUInt32 &&& Int32.toUInt32 31)).toInt32) &&& (1431655765))).toUInt32 >>> ((2 : Int32).toUInt32 &&& Int32.toUInt32 31)).toInt32) &&& (858993459))).toUInt32 >>> ((4 : Int32).toUInt32 &&& Int32.toUInt32 31)).toInt32)) &&& (252645135)).toUInt32 >>> ((8 : Int32).toUInt32 &&& Int32.toUInt32 31)).toInt32)) + ((((((((x - (((x.toUInt32 >>> ((1 : Int32).toUInt32 &&& Int32.toUInt32 31)).toInt32) &&& (1431655765))) &&& (858993459)) + ((((x - (((x.toUInt32 >>> ((1 : Int32).toUInt32 &&& Int32.toUInt32 31)).toInt32) &&& (1431655765))).toUInt32 >>> ((2 : Int32).toUInt32 &&& Int32.toUInt32 31)).toInt32) &&& (858993459))) + (((((x - (((x.toUInt32 >>> ((1 : Int32).toUInt32 &&& Int32.toUInt32 31)).toInt32) &&& (1431655765))) &&& (858993459)) + ((((x - (((x.toUInt32 >>> ((1 : Int32).toUInt32 &&& Int32.toUInt32 31)).toInt32) &&& (1431655765))).toUInt32 >>> ((2 : Int32).toUInt32 &&& Int32.toUInt32 31)).toInt32) &&& (858993459))).toUInt32 >>> ((4 : Int32).toUInt32 &&& Int32.toUInt32 31)).toInt32)) &&& (252645135)) + (((((((x - (((x.toUInt32 >>> ((1 : Int32).toUInt32 &&& Int32.toUInt32 31)).toInt32) &&& (1431655765))) &&& (858993459)) + ((((x - (((x.toUInt32 >>> ((1 : Int32).toUInt32 &&& Int32.toUInt32 31)).toInt32) &&& (1431655765))).toUInt32 >>> ((2 : Int32).toUInt32 &&& Int32.toUInt32 31)).toInt32) &&& (858993459))) + (((((x - (((x.toUInt32 >>> ((1 : Int32).toUInt32 &&& Int32.toUInt32 31)).toInt32) &&& (1431655765))) &&& (858993459)) + ((((x - (((x.toUInt32 >>> ((1 : Int32).toUInt32 &&& Int32.toUInt32 31)).toInt32) &&& (1431655765))).toUInt32 >>> ((2 : Int32).toUInt32 &&& Int32.toUInt32 31)).toInt32) &&& (858993459))).toUInt32 >>> ((4 : Int32).toUInt32 &&& Int32.toUInt32 31)).toInt32)) &&& (252645135)).toUInt32 >>> ((8 : Int32).toUInt32 &&& Int32.toUInt32 31)).toInt32)).toUInt32 >>> ((16 : Int32).toUInt32 &&& Int32.toUInt32 31)).toInt32)))] (by decide) rfl dJ6_bitCount_0f7a4_47 ?_
  refine g_iload_n C 0 rfl dJ6_bitCount_0f7a4_48 ?_
  refine g_bipush C 63 (by decide) dJ6_bitCount_0f7a4_49 ?_
  refine g_iand C dJ6_bitCount_0f7a4_51 ?_
  refine g_iret C hr rfl hlk dJ6_bitCount_0f7a4_52 ?_
  exact ⟨rfl, rfl⟩
set_option maxRecDepth 100000 in
set_option maxHeartbeats 4000000 in
theorem c_X1_membersOf (l : Launch) (D : va_G) (kc : Nat → ClassId) (N : Nat) (adr : Nat → Nat) (cell : Nat → va_E) (z sz : Nat) (Sf Mf : Nat → Int32) (x : Int32) (hB : BlAt cell adr kc z sz Sf Mf) (hN : z + 3 ≤ N) : MI l yX1_membersOf wsX1_membersOf ({ frames := 0, cells := 0, slots := 0, locals := 0 }) D kc N adr cell [.ref (adr z), .int x] (fun (w : Int32) (cell1 : Nat → va_E) => whF Mf sz x = w ∧ cell = cell1) := by
  refine met_i (cc := cX1_membersOf) (maxL := 2) (ret := (some .int)) (by decide) rfl (Nat.le_of_ble_eq_true rfl) (lv := [(0, .ref (adr z)), (1, .int x)]) rfl ?_
  intro Pg Ev Sv Mi args below Me Cd Ar C hr hlk hnm
  have in1 : ∀ w ∈ u_ws RX1 TX1 3, w ∈ wsX1_membersOf := by decide +kernel
  have f18 := C.2.2.2.2.1 (.fieldLink RX1 18 "WordAnchors$Blocks" "size" "I") (by decide +kernel)
  have f15 := C.2.2.2.2.1 (.fieldLink RX1 15 "WordAnchors$Blocks" "members" "[I") (by decide +kernel)
  obtain ⟨z0, z1, z2, hz6⟩ := hB
  have litm1 : ((-1) : Int32).toInt = -1 := rfl
  have lit0 : (0 : Int32).toInt = 0 := rfl
  have lit1 : (1 : Int32).toInt = 1 := rfl
  have lit6 : (6 : Int32).toInt = 6 := rfl
  have tn_sz : (nI sz).toInt = ((sz : Nat) : Int) := nI_toInt (by omega)
  refine g_iload_n C 1 rfl dX1_membersOf_0 ?_
  refine g_if_lt C 30 (by decide) dX1_membersOf_1 (fun c1 => ?_) (fun c1 => ?_)
  · -- taken at 1
    have c1' := i_lt c1
    refine g_iconst C 0 (by decide) dX1_membersOf_30 ?_
    refine g_iret C hr rfl hlk dX1_membersOf_31 ?_
    exact ⟨by first | rfl | exact bI_1 (by omega) | exact bI_0 (by omega) | exact if_pos (by omega) | exact if_neg (by omega), rfl⟩
  · -- not taken at 1
    have c1' := i_nlt c1
    refine g_iload_n C 1 rfl dX1_membersOf_4 ?_
    refine g_aload_n C 0 rfl dX1_membersOf_5 ?_
    refine g_get C z 1 2 (by omega) z0 rfl in1 (by decide) f18 (fun _ h9 => h9) rfl dX1_membersOf_6 ?_
    refine g_icmp_ge C 30 (by decide) dX1_membersOf_9 (fun c9 => ?_) (fun c9 => ?_)
    · -- taken at 9
      have c9' := i_le c9
      refine g_iconst C 0 (by decide) dX1_membersOf_30 ?_
      refine g_iret C hr rfl hlk dX1_membersOf_31 ?_
      exact ⟨by first | rfl | exact bI_1 (by omega) | exact bI_0 (by omega) | exact if_pos (by omega) | exact if_neg (by omega), rfl⟩
    · -- not taken at 9
      have c9' := i_nle c9
      refine g_iload_n C 1 rfl dX1_membersOf_12 ?_
      refine g_aload_n C 0 rfl dX1_membersOf_13 ?_
      refine g_get C z 1 1 (by omega) z0 rfl in1 (by decide) f15 (fun _ h9 => h9) rfl dX1_membersOf_14 ?_
      refine g_alen C (z + 2) 0 (by omega) z2 rfl 6 rfl dX1_membersOf_17 ?_
      refine g_icmp_ge C 30 (by decide) dX1_membersOf_18 (fun c18 => ?_) (fun c18 => ?_)
      · -- taken at 18
        have c18' := i_le c18
        refine g_iconst C 0 (by decide) dX1_membersOf_30 ?_
        refine g_iret C hr rfl hlk dX1_membersOf_31 ?_
        exact ⟨by first | rfl | exact bI_1 (by omega) | exact bI_0 (by omega) | exact if_pos (by omega) | exact if_neg (by omega), rfl⟩
      · -- not taken at 18
        have c18' := i_nle c18
        refine g_aload_n C 0 rfl dX1_membersOf_21 ?_
        refine g_get C z 1 1 (by omega) z0 rfl in1 (by decide) f15 (fun _ h9 => h9) rfl dX1_membersOf_22 ?_
        refine g_iload_n C 1 rfl dX1_membersOf_25 ?_
        refine g_iald C (z + 2) (by omega) z2 (vp_in_iff.mpr (by omega)) dX1_membersOf_26 ?_
        refine g_goto C 31 (by decide) dX1_membersOf_27 ?_
        refine g_iret C hr rfl hlk dX1_membersOf_31 ?_
        exact ⟨by first | rfl | exact bI_1 (by omega) | exact bI_0 (by omega) | exact if_pos (by omega) | exact if_neg (by omega), rfl⟩
set_option maxRecDepth 100000 in
set_option maxHeartbeats 4000000 in
theorem c_X1_shiftOf (l : Launch) (D : va_G) (kc : Nat → ClassId) (N : Nat) (adr : Nat → Nat) (cell : Nat → va_E) (z sz : Nat) (Sf Mf : Nat → Int32) (x : Int32) (hB : BlAt cell adr kc z sz Sf Mf) (hN : z + 3 ≤ N) : MI l yX1_shiftOf wsX1_shiftOf ({ frames := 0, cells := 0, slots := 0, locals := 0 }) D kc N adr cell [.ref (adr z), .int x] (fun (w : Int32) (cell1 : Nat → va_E) => whF Sf sz x = w ∧ cell = cell1) := by
  refine met_i (cc := cX1_shiftOf) (maxL := 2) (ret := (some .int)) (by decide) rfl (Nat.le_of_ble_eq_true rfl) (lv := [(0, .ref (adr z)), (1, .int x)]) rfl ?_
  intro Pg Ev Sv Mi args below Me Cd Ar C hr hlk hnm
  have in1 : ∀ w ∈ u_ws RX1 TX1 3, w ∈ wsX1_shiftOf := by decide +kernel
  have f18 := C.2.2.2.2.1 (.fieldLink RX1 18 "WordAnchors$Blocks" "size" "I") (by decide +kernel)
  have f9 := C.2.2.2.2.1 (.fieldLink RX1 9 "WordAnchors$Blocks" "shifts" "[I") (by decide +kernel)
  obtain ⟨z0, z1, z2, hz6⟩ := hB
  have litm1 : ((-1) : Int32).toInt = -1 := rfl
  have lit0 : (0 : Int32).toInt = 0 := rfl
  have lit1 : (1 : Int32).toInt = 1 := rfl
  have lit6 : (6 : Int32).toInt = 6 := rfl
  have tn_sz : (nI sz).toInt = ((sz : Nat) : Int) := nI_toInt (by omega)
  refine g_iload_n C 1 rfl dX1_shiftOf_0 ?_
  refine g_if_lt C 30 (by decide) dX1_shiftOf_1 (fun c1 => ?_) (fun c1 => ?_)
  · -- taken at 1
    have c1' := i_lt c1
    refine g_iconst C 0 (by decide) dX1_shiftOf_30 ?_
    refine g_iret C hr rfl hlk dX1_shiftOf_31 ?_
    exact ⟨by first | rfl | exact bI_1 (by omega) | exact bI_0 (by omega) | exact if_pos (by omega) | exact if_neg (by omega), rfl⟩
  · -- not taken at 1
    have c1' := i_nlt c1
    refine g_iload_n C 1 rfl dX1_shiftOf_4 ?_
    refine g_aload_n C 0 rfl dX1_shiftOf_5 ?_
    refine g_get C z 1 2 (by omega) z0 rfl in1 (by decide) f18 (fun _ h9 => h9) rfl dX1_shiftOf_6 ?_
    refine g_icmp_ge C 30 (by decide) dX1_shiftOf_9 (fun c9 => ?_) (fun c9 => ?_)
    · -- taken at 9
      have c9' := i_le c9
      refine g_iconst C 0 (by decide) dX1_shiftOf_30 ?_
      refine g_iret C hr rfl hlk dX1_shiftOf_31 ?_
      exact ⟨by first | rfl | exact bI_1 (by omega) | exact bI_0 (by omega) | exact if_pos (by omega) | exact if_neg (by omega), rfl⟩
    · -- not taken at 9
      have c9' := i_nle c9
      refine g_iload_n C 1 rfl dX1_shiftOf_12 ?_
      refine g_aload_n C 0 rfl dX1_shiftOf_13 ?_
      refine g_get C z 1 0 (by omega) z0 rfl in1 (by decide) f9 (fun _ h9 => h9) rfl dX1_shiftOf_14 ?_
      refine g_alen C (z + 1) 0 (by omega) z1 rfl 6 rfl dX1_shiftOf_17 ?_
      refine g_icmp_ge C 30 (by decide) dX1_shiftOf_18 (fun c18 => ?_) (fun c18 => ?_)
      · -- taken at 18
        have c18' := i_le c18
        refine g_iconst C 0 (by decide) dX1_shiftOf_30 ?_
        refine g_iret C hr rfl hlk dX1_shiftOf_31 ?_
        exact ⟨by first | rfl | exact bI_1 (by omega) | exact bI_0 (by omega) | exact if_pos (by omega) | exact if_neg (by omega), rfl⟩
      · -- not taken at 18
        have c18' := i_nle c18
        refine g_aload_n C 0 rfl dX1_shiftOf_21 ?_
        refine g_get C z 1 0 (by omega) z0 rfl in1 (by decide) f9 (fun _ h9 => h9) rfl dX1_shiftOf_22 ?_
        refine g_iload_n C 1 rfl dX1_shiftOf_25 ?_
        refine g_iald C (z + 1) (by omega) z1 (vp_in_iff.mpr (by omega)) dX1_shiftOf_26 ?_
        refine g_goto C 31 (by decide) dX1_shiftOf_27 ?_
        refine g_iret C hr rfl hlk dX1_shiftOf_31 ?_
        exact ⟨by first | rfl | exact bI_1 (by omega) | exact bI_0 (by omega) | exact if_pos (by omega) | exact if_neg (by omega), rfl⟩
set_option maxRecDepth 100000 in
set_option maxHeartbeats 4000000 in
theorem c_X1_enter (l : Launch) (D : va_G) (kc : Nat → ClassId) (N : Nat) (adr : Nat → Nat) (cell : Nat → va_E) (z sz : Nat) (Sf Mf : Nat → Int32) (k : Nat) (s : Int32) (hB : BlAt cell adr kc z sz Sf Mf) (hN : z + 3 ≤ N) (hk : k < 6 ∧ sz < 6) : MV l yX1_enter wsX1_enter ({ frames := 1, cells := 0, slots := 0, locals := 21 }) D kc N adr cell [.ref (adr z), .int (nI k), .int s] (fun (cell1 : Nat → va_E) => BlAt cell1 adr kc z (enF k s (sz, Sf, Mf)).1 (enF k s (sz, Sf, Mf)).2.1 (enF k s (sz, Sf, Mf)).2.2 ∧ ∀ j : Nat, (j < z ∨ z + 3 ≤ j) → cell1 j = cell j) := by
  refine met_v (cc := cX1_enter) (maxL := 4) (ret := none) (by decide) rfl (Nat.le_of_ble_eq_true rfl) (lv := [(0, .ref (adr z)), (1, .int (nI k)), (2, .int s)]) rfl ?_
  intro Pg Ev Sv Mi args below Me Cd Ar C hr hlk hnm
  have in1 : ∀ w ∈ u_ws RX1 TX1 3, w ∈ wsX1_enter := by decide +kernel
  have f18 := C.2.2.2.2.1 (.fieldLink RX1 18 "WordAnchors$Blocks" "size" "I") (by decide +kernel)
  have f9 := C.2.2.2.2.1 (.fieldLink RX1 9 "WordAnchors$Blocks" "shifts" "[I") (by decide +kernel)
  have f15 := C.2.2.2.2.1 (.fieldLink RX1 15 "WordAnchors$Blocks" "members" "[I") (by decide +kernel)
  obtain ⟨z0, z1, z2, hz6⟩ := hB
  have litm1 : ((-1) : Int32).toInt = -1 := rfl
  have lit0 : (0 : Int32).toInt = 0 := rfl
  have lit1 : (1 : Int32).toInt = 1 := rfl
  have lit6 : (6 : Int32).toInt = 6 := rfl
  have tn_sz : (nI sz).toInt = ((sz : Nat) : Int) := nI_toInt (by omega)
  have tn_k : (nI k).toInt = ((k : Nat) : Int) := nI_toInt (by omega)
  refine g_iconst C 0 (by decide) dX1_enter_0 ?_
  refine g_istore_n C [(3, .int 0), (0, .ref (adr z)), (1, .int (nI k)), (2, .int s)] (by decide) rfl dX1_enter_1 ?_
  have L2 : ∀ (fu i : Nat) , i ≤ sz → sz < i + fu → (hno : ∀ k1 : Nat, k1 < i → ¬ Sf k1 = s) → G Pg l Ev (headSpec wsX1_enter { frames := 1, cells := 0, slots := 0, locals := 21 }).room Sv Mi args below Me Cd D N adr Ar Sv.heap 4 0 0 (MQ below (va_Qv (fun (cell1 : Nat → va_E) => BlAt cell1 adr kc z (enF k s (sz, Sf, Mf)).1 (enF k s (sz, Sf, Mf)).2.1 (enF k s (sz, Sf, Mf)).2.2 ∧ ∀ j : Nat, (j < z ∨ z + 3 ≤ j) → cell1 j = cell j) (fun (cell1 : Nat → va_E) (t : State) => va_P D vwCl (wld N adr cell1) t.heap) Ar) args Sv 0 0 Ar) cell 2 [(0, .ref (adr z)), (1, .int (nI k)), (2, .int s), (3, .int (nI i))] ([] : List Value) := by
    intro fu
    induction fu with
    | zero => intro i  hle hfu; exact absurd hfu (by omega)
    | succ fu ih =>
      intro i  hle2 hfu2  hno
      have tn_i : (nI i).toInt = ((i : Nat) : Int) := nI_toInt (by omega)
      refine g_iload_n C 3 rfl dX1_enter_2 ?_
      refine g_aload_n C 0 rfl dX1_enter_3 ?_
      refine g_get C z 1 2 (by omega) z0 rfl in1 (by decide) f18 (fun _ h9 => h9) rfl dX1_enter_4 ?_
      refine g_icmp_ge C 25 (by decide) dX1_enter_7 (fun c7 => ?_) (fun c7 => ?_)
      · -- taken at 7
        have c7' := i_le c7
        refine g_iload_n C 3 rfl dX1_enter_25 ?_
        refine g_aload_n C 0 rfl dX1_enter_26 ?_
        refine g_get C z 1 0 (by omega) z0 rfl in1 (by decide) f9 (fun _ h9 => h9) rfl dX1_enter_27 ?_
        refine g_alen C (z + 1) 0 (by omega) z1 rfl 6 rfl dX1_enter_30 ?_
        refine g_icmp_ge C 43 (by decide) dX1_enter_31 (fun c31 => ?_) (fun c31 => ?_)
        · -- taken at 31
          have c31' := i_le c31
          exfalso; omega
        · -- not taken at 31
          have c31' := i_nle c31
          refine g_iload_n C 3 rfl dX1_enter_34 ?_
          refine g_aload_n C 0 rfl dX1_enter_35 ?_
          refine g_get C z 1 1 (by omega) z0 rfl in1 (by decide) f15 (fun _ h9 => h9) rfl dX1_enter_36 ?_
          refine g_alen C (z + 2) 0 (by omega) z2 rfl 6 rfl dX1_enter_39 ?_
          refine g_icmp_lt C 44 (by decide) dX1_enter_40 (fun c40 => ?_) (fun c40 => ?_)
          · -- taken at 40
            have c40' := i_lt c40
            refine g_iload_n C 3 rfl dX1_enter_44 ?_
            refine g_aload_n C 0 rfl dX1_enter_45 ?_
            refine g_get C z 1 2 (by omega) z0 rfl in1 (by decide) f18 (fun _ h9 => h9) rfl dX1_enter_46 ?_
            refine g_icmp_ne C 76 (by decide) dX1_enter_49 (fun c49 => ?_) (fun c49 => ?_)
            · -- taken at 49
              have c49' := i_ne c49
              refine g_aload_n C 0 rfl dX1_enter_76 ?_
              refine g_get C z 1 1 (by omega) z0 rfl in1 (by decide) f15 (fun _ h9 => h9) rfl dX1_enter_77 ?_
              refine g_iload_n C 3 rfl dX1_enter_80 ?_
              refine g_dup2 C rfl rfl dX1_enter_81 ?_
              refine g_iald C (z + 2) (by omega) z2 (vp_in_nI (by omega) (by omega)) dX1_enter_82 ?_
              refine g_eqst (show ([.int (Mf (nI i).toNatClampNeg), .int (nI i), .ref (adr (z + 2))] : List Value) = ([.int (Mf i), .int (nI i), .ref (adr (z + 2))] : List Value) from by rw [nI_clamp (by omega)]) ?_
              refine g_iconst C 1 (by decide) dX1_enter_83 ?_
              refine g_iload_n C 1 rfl dX1_enter_84 ?_
              refine g_ishl C dX1_enter_85 ?_
              refine g_ior C dX1_enter_86 ?_
              refine g_iast C (z + 2) (by omega) z2 (vp_in_nI (by omega) (by omega)) dX1_enter_87 ?_
              refine g_cell (fun cell1 ec1 => ?_)
              have h_2 : cell1 z = .inr (1, [.ref (adr (z + 1)), .ref (adr (z + 2)), .int (nI sz)]) := by rw [ec1, va_up_ne _ _ (by omega)]; exact z0
              have h_3 : cell1 (z + 1) = .inl (kc 0, 6, .inl Sf) := by rw [ec1, va_up_ne _ _ (by omega)]; exact z1
              have h_4 : cell1 (z + 2) = .inl (kc 0, 6, .inl (upd Mf (nI i).toNatClampNeg ((Mf i) ||| (1 <<< ((nI k) &&& 31))))) := by rw [ec1]; exact va_up_self _ _ _
              have fr_5 : ∀ j : Nat, (j < z ∨ z + 3 ≤ j) → cell1 j = cell j := fun j hj => by rw [ec1, va_up_ne _ _ (by omega)]
              have h_6 : cell1 (z + 2) = .inl (kc 0, 6, .inl (upd Mf i ((Mf i) ||| (1 <<< ((nI k) &&& 31))))) := by rw [h_4, nI_clamp (by omega)]
              refine g_vret C hr hlk dX1_enter_88 ?_
              have hfs : fst Sf s sz 0 = i := fst_is (sz := sz) (by omega) (Nat.zero_le _) (by omega) (fun k _ b => hno k b) (fun h => absurd h (by omega))
              have he : enF k s (sz, Sf, Mf) = (sz, Sf, upd Mf i (Mf i ||| ((1 : Int32) <<< (nI k &&& 31)))) := (if_neg (by show ¬ fst Sf s sz 0 = sz; omega)).trans (by show (sz, Sf, upd Mf (fst Sf s sz 0) (Mf (fst Sf s sz 0) ||| ((1 : Int32) <<< (nI k &&& 31)))) = _; rw [hfs])
              rw [he]
              exact ⟨⟨h_2, h_3, h_6, by omega⟩, fr_5⟩
            · -- not taken at 49
              have c49' := i_eq c49
              refine g_aload_n C 0 rfl dX1_enter_52 ?_
              refine g_get C z 1 0 (by omega) z0 rfl in1 (by decide) f9 (fun _ h9 => h9) rfl dX1_enter_53 ?_
              refine g_iload_n C 3 rfl dX1_enter_56 ?_
              refine g_iload_n C 2 rfl dX1_enter_57 ?_
              refine g_iast C (z + 1) (by omega) z1 (vp_in_nI (by omega) (by omega)) dX1_enter_58 ?_
              refine g_cell (fun cell7 ec7 => ?_)
              have h_8 : cell7 z = .inr (1, [.ref (adr (z + 1)), .ref (adr (z + 2)), .int (nI sz)]) := by rw [ec7, va_up_ne _ _ (by omega)]; exact z0
              have h_9 : cell7 (z + 1) = .inl (kc 0, 6, .inl (upd Sf (nI i).toNatClampNeg s)) := by rw [ec7]; exact va_up_self _ _ _
              have h_10 : cell7 (z + 2) = .inl (kc 0, 6, .inl Mf) := by rw [ec7, va_up_ne _ _ (by omega)]; exact z2
              have fr_11 : ∀ j : Nat, (j < z ∨ z + 3 ≤ j) → cell7 j = cell j := fun j hj => by rw [ec7, va_up_ne _ _ (by omega)]
              have h_12 : cell7 (z + 1) = .inl (kc 0, 6, .inl (upd Sf i s)) := by rw [h_9, nI_clamp (by omega)]
              refine g_aload_n C 0 rfl dX1_enter_59 ?_
              refine g_get C z 1 1 (by omega) h_8 rfl in1 (by decide) f15 (fun _ h9 => h9) rfl dX1_enter_60 ?_
              refine g_iload_n C 3 rfl dX1_enter_63 ?_
              refine g_iconst C 0 (by decide) dX1_enter_64 ?_
              refine g_iast C (z + 2) (by omega) h_10 (vp_in_nI (by omega) (by omega)) dX1_enter_65 ?_
              refine g_cell (fun cell13 ec13 => ?_)
              have h_14 : cell13 z = .inr (1, [.ref (adr (z + 1)), .ref (adr (z + 2)), .int (nI sz)]) := by rw [ec13, va_up_ne _ _ (by omega)]; exact h_8
              have h_15 : cell13 (z + 1) = .inl (kc 0, 6, .inl (upd Sf i s)) := by rw [ec13, va_up_ne _ _ (by omega)]; exact h_12
              have h_16 : cell13 (z + 2) = .inl (kc 0, 6, .inl (upd Mf (nI i).toNatClampNeg 0)) := by rw [ec13]; exact va_up_self _ _ _
              have fr_17 : ∀ j : Nat, (j < z ∨ z + 3 ≤ j) → cell13 j = cell j := fun j hj => by rw [ec13, va_up_ne _ _ (by omega)]; exact fr_11 j hj
              have h_18 : cell13 (z + 2) = .inl (kc 0, 6, .inl (upd Mf i 0)) := by rw [h_16, nI_clamp (by omega)]
              refine g_aload_n C 0 rfl dX1_enter_66 ?_
              refine g_dup C rfl dX1_enter_67 ?_
              refine g_get C z 1 2 (by omega) h_14 rfl in1 (by decide) f18 (fun _ h9 => h9) rfl dX1_enter_68 ?_
              refine g_iconst C 1 (by decide) dX1_enter_71 ?_
              refine g_iadd C dX1_enter_72 ?_
              refine g_eqst (show ([.int ((nI sz) + 1), .ref (adr z)] : List Value) = ([.int (nI (sz + 1)), .ref (adr z)] : List Value) from by rw [nI_1]) ?_
              refine g_put C z 1 2 (by omega) h_14 rfl in1 tyX1 tyX1_ok nmX1 (by decide) f18 (fun _ h9 => h9) rfl (ty := .int) (by decide +kernel) rfl rfl (Nat.le_of_ble_eq_true rfl) dX1_enter_73 ?_
              refine g_cell (fun cell20 ec20 => ?_)
              have h_21 : cell20 z = .inr (1, [.ref (adr (z + 1)), .ref (adr (z + 2)), .int (nI (sz + 1))]) := by rw [ec20]; exact va_up_self _ _ _
              have h_22 : cell20 (z + 1) = .inl (kc 0, 6, .inl (upd Sf i s)) := by rw [ec20, va_up_ne _ _ (by omega)]; exact h_15
              have h_23 : cell20 (z + 2) = .inl (kc 0, 6, .inl (upd Mf i 0)) := by rw [ec20, va_up_ne _ _ (by omega)]; exact h_18
              have fr_24 : ∀ j : Nat, (j < z ∨ z + 3 ≤ j) → cell20 j = cell j := fun j hj => by rw [ec20, va_up_ne _ _ (by omega)]; exact fr_17 j hj
              refine g_aload_n C 0 rfl dX1_enter_76 ?_
              refine g_get C z 1 1 (by omega) h_21 rfl in1 (by decide) f15 (fun _ h9 => h9) rfl dX1_enter_77 ?_
              refine g_iload_n C 3 rfl dX1_enter_80 ?_
              refine g_dup2 C rfl rfl dX1_enter_81 ?_
              refine g_iald C (z + 2) (by omega) h_23 (vp_in_nI (by omega) (by omega)) dX1_enter_82 ?_
              refine g_eqst (show ([.int ((upd Mf i 0) (nI i).toNatClampNeg), .int (nI i), .ref (adr (z + 2))] : List Value) = ([.int ((upd Mf i 0) i), .int (nI i), .ref (adr (z + 2))] : List Value) from by rw [nI_clamp (by omega)]) ?_
              refine g_iconst C 1 (by decide) dX1_enter_83 ?_
              refine g_iload_n C 1 rfl dX1_enter_84 ?_
              refine g_ishl C dX1_enter_85 ?_
              refine g_ior C dX1_enter_86 ?_
              refine g_iast C (z + 2) (by omega) h_23 (vp_in_nI (by omega) (by omega)) dX1_enter_87 ?_
              refine g_cell (fun cell25 ec25 => ?_)
              have h_26 : cell25 z = .inr (1, [.ref (adr (z + 1)), .ref (adr (z + 2)), .int (nI (sz + 1))]) := by rw [ec25, va_up_ne _ _ (by omega)]; exact h_21
              have h_27 : cell25 (z + 1) = .inl (kc 0, 6, .inl (upd Sf i s)) := by rw [ec25, va_up_ne _ _ (by omega)]; exact h_22
              have h_28 : cell25 (z + 2) = .inl (kc 0, 6, .inl (upd (upd Mf i 0) (nI i).toNatClampNeg (((upd Mf i 0) i) ||| (1 <<< ((nI k) &&& 31))))) := by rw [ec25]; exact va_up_self _ _ _
              have fr_29 : ∀ j : Nat, (j < z ∨ z + 3 ≤ j) → cell25 j = cell j := fun j hj => by rw [ec25, va_up_ne _ _ (by omega)]; exact fr_24 j hj
              have h_30 : cell25 (z + 2) = .inl (kc 0, 6, .inl (upd (upd Mf i 0) i (((upd Mf i 0) i) ||| (1 <<< ((nI k) &&& 31))))) := by rw [h_28, nI_clamp (by omega)]
              refine g_vret C hr hlk dX1_enter_88 ?_
              have hfs : fst Sf s sz 0 = i := fst_is (sz := sz) (by omega) (Nat.zero_le _) (by omega) (fun k _ b => hno k b) (fun h => absurd h (by omega))
              have hi : i = sz := by omega
              subst hi
              have he : enF k s (i, Sf, Mf) = (i + 1, upd Sf i s, upd (upd Mf i 0) i (0 ||| ((1 : Int32) <<< (nI k &&& 31)))) := if_pos hfs
              rw [he]
              exact ⟨⟨h_26, h_27, (by rw [h_30, upd_s]), by omega⟩, fr_29⟩
          · -- not taken at 40
            have c40' := i_nlt c40
            exfalso; omega
      · -- not taken at 7
        have c7' := i_nle c7
        refine g_aload_n C 0 rfl dX1_enter_10 ?_
        refine g_iload_n C 3 rfl dX1_enter_11 ?_
        refine g_Vi C [.int (nI i)] z 1 (by omega) z0 rfl (c_X1_shiftOf l D kc N adr cell z sz Sf Mf (nI i) ⟨z0, z1, z2, by omega⟩ (by omega)) (cwV 1 C.2.2.2.2.1 gX1_enter_X1_shiftOf rfl rfl rfl (by decide +kernel) ⟨Nat.le_of_ble_eq_true rfl, Nat.le_of_ble_eq_true rfl⟩) rfl rfl (Nat.le_of_ble_eq_true rfl) (Nat.zero_le _) (Nat.zero_le _) dX1_enter_12 (fun v31 cell31 q31 => ?_)
        obtain ⟨rfl, rfl⟩ := q31
        refine g_eqst (st1 := ([.int (Sf i)] : List Value)) (by rw [whF_nI (by omega) (by omega)]) ?_
        refine g_iload_n C 2 rfl dX1_enter_15 ?_
        refine g_icmp_eq C 25 (by decide) dX1_enter_16 (fun c16 => ?_) (fun c16 => ?_)
        · -- taken at 16
          have c16' := i_eq c16
          refine g_iload_n C 3 rfl dX1_enter_25 ?_
          refine g_aload_n C 0 rfl dX1_enter_26 ?_
          refine g_get C z 1 0 (by omega) z0 rfl in1 (by decide) f9 (fun _ h9 => h9) rfl dX1_enter_27 ?_
          refine g_alen C (z + 1) 0 (by omega) z1 rfl 6 rfl dX1_enter_30 ?_
          refine g_icmp_ge C 43 (by decide) dX1_enter_31 (fun c31 => ?_) (fun c31 => ?_)
          · -- taken at 31
            have c31' := i_le c31
            exfalso; omega
          · -- not taken at 31
            have c31' := i_nle c31
            refine g_iload_n C 3 rfl dX1_enter_34 ?_
            refine g_aload_n C 0 rfl dX1_enter_35 ?_
            refine g_get C z 1 1 (by omega) z0 rfl in1 (by decide) f15 (fun _ h9 => h9) rfl dX1_enter_36 ?_
            refine g_alen C (z + 2) 0 (by omega) z2 rfl 6 rfl dX1_enter_39 ?_
            refine g_icmp_lt C 44 (by decide) dX1_enter_40 (fun c40 => ?_) (fun c40 => ?_)
            · -- taken at 40
              have c40' := i_lt c40
              refine g_iload_n C 3 rfl dX1_enter_44 ?_
              refine g_aload_n C 0 rfl dX1_enter_45 ?_
              refine g_get C z 1 2 (by omega) z0 rfl in1 (by decide) f18 (fun _ h9 => h9) rfl dX1_enter_46 ?_
              refine g_icmp_ne C 76 (by decide) dX1_enter_49 (fun c49 => ?_) (fun c49 => ?_)
              · -- taken at 49
                have c49' := i_ne c49
                refine g_aload_n C 0 rfl dX1_enter_76 ?_
                refine g_get C z 1 1 (by omega) z0 rfl in1 (by decide) f15 (fun _ h9 => h9) rfl dX1_enter_77 ?_
                refine g_iload_n C 3 rfl dX1_enter_80 ?_
                refine g_dup2 C rfl rfl dX1_enter_81 ?_
                refine g_iald C (z + 2) (by omega) z2 (vp_in_nI (by omega) (by omega)) dX1_enter_82 ?_
                refine g_eqst (show ([.int (Mf (nI i).toNatClampNeg), .int (nI i), .ref (adr (z + 2))] : List Value) = ([.int (Mf i), .int (nI i), .ref (adr (z + 2))] : List Value) from by rw [nI_clamp (by omega)]) ?_
                refine g_iconst C 1 (by decide) dX1_enter_83 ?_
                refine g_iload_n C 1 rfl dX1_enter_84 ?_
                refine g_ishl C dX1_enter_85 ?_
                refine g_ior C dX1_enter_86 ?_
                refine g_iast C (z + 2) (by omega) z2 (vp_in_nI (by omega) (by omega)) dX1_enter_87 ?_
                refine g_cell (fun cell33 ec33 => ?_)
                have h_34 : cell33 z = .inr (1, [.ref (adr (z + 1)), .ref (adr (z + 2)), .int (nI sz)]) := by rw [ec33, va_up_ne _ _ (by omega)]; exact z0
                have h_35 : cell33 (z + 1) = .inl (kc 0, 6, .inl Sf) := by rw [ec33, va_up_ne _ _ (by omega)]; exact z1
                have h_36 : cell33 (z + 2) = .inl (kc 0, 6, .inl (upd Mf (nI i).toNatClampNeg ((Mf i) ||| (1 <<< ((nI k) &&& 31))))) := by rw [ec33]; exact va_up_self _ _ _
                have fr_37 : ∀ j : Nat, (j < z ∨ z + 3 ≤ j) → cell33 j = cell j := fun j hj => by rw [ec33, va_up_ne _ _ (by omega)]
                have h_38 : cell33 (z + 2) = .inl (kc 0, 6, .inl (upd Mf i ((Mf i) ||| (1 <<< ((nI k) &&& 31))))) := by rw [h_36, nI_clamp (by omega)]
                refine g_vret C hr hlk dX1_enter_88 ?_
                have hfs : fst Sf s sz 0 = i := fst_is (sz := sz) (by omega) (Nat.zero_le _) (by omega) (fun k _ b => hno k b) (fun _ => c16)
                have he : enF k s (sz, Sf, Mf) = (sz, Sf, upd Mf i (Mf i ||| ((1 : Int32) <<< (nI k &&& 31)))) := (if_neg (by show ¬ fst Sf s sz 0 = sz; omega)).trans (by show (sz, Sf, upd Mf (fst Sf s sz 0) (Mf (fst Sf s sz 0) ||| ((1 : Int32) <<< (nI k &&& 31)))) = _; rw [hfs])
                rw [he]
                exact ⟨⟨h_34, h_35, h_38, by omega⟩, fr_37⟩
              · -- not taken at 49
                have c49' := i_eq c49
                refine g_aload_n C 0 rfl dX1_enter_52 ?_
                refine g_get C z 1 0 (by omega) z0 rfl in1 (by decide) f9 (fun _ h9 => h9) rfl dX1_enter_53 ?_
                refine g_iload_n C 3 rfl dX1_enter_56 ?_
                refine g_iload_n C 2 rfl dX1_enter_57 ?_
                refine g_iast C (z + 1) (by omega) z1 (vp_in_nI (by omega) (by omega)) dX1_enter_58 ?_
                refine g_cell (fun cell39 ec39 => ?_)
                have h_40 : cell39 z = .inr (1, [.ref (adr (z + 1)), .ref (adr (z + 2)), .int (nI sz)]) := by rw [ec39, va_up_ne _ _ (by omega)]; exact z0
                have h_41 : cell39 (z + 1) = .inl (kc 0, 6, .inl (upd Sf (nI i).toNatClampNeg s)) := by rw [ec39]; exact va_up_self _ _ _
                have h_42 : cell39 (z + 2) = .inl (kc 0, 6, .inl Mf) := by rw [ec39, va_up_ne _ _ (by omega)]; exact z2
                have fr_43 : ∀ j : Nat, (j < z ∨ z + 3 ≤ j) → cell39 j = cell j := fun j hj => by rw [ec39, va_up_ne _ _ (by omega)]
                have h_44 : cell39 (z + 1) = .inl (kc 0, 6, .inl (upd Sf i s)) := by rw [h_41, nI_clamp (by omega)]
                refine g_aload_n C 0 rfl dX1_enter_59 ?_
                refine g_get C z 1 1 (by omega) h_40 rfl in1 (by decide) f15 (fun _ h9 => h9) rfl dX1_enter_60 ?_
                refine g_iload_n C 3 rfl dX1_enter_63 ?_
                refine g_iconst C 0 (by decide) dX1_enter_64 ?_
                refine g_iast C (z + 2) (by omega) h_42 (vp_in_nI (by omega) (by omega)) dX1_enter_65 ?_
                refine g_cell (fun cell45 ec45 => ?_)
                have h_46 : cell45 z = .inr (1, [.ref (adr (z + 1)), .ref (adr (z + 2)), .int (nI sz)]) := by rw [ec45, va_up_ne _ _ (by omega)]; exact h_40
                have h_47 : cell45 (z + 1) = .inl (kc 0, 6, .inl (upd Sf i s)) := by rw [ec45, va_up_ne _ _ (by omega)]; exact h_44
                have h_48 : cell45 (z + 2) = .inl (kc 0, 6, .inl (upd Mf (nI i).toNatClampNeg 0)) := by rw [ec45]; exact va_up_self _ _ _
                have fr_49 : ∀ j : Nat, (j < z ∨ z + 3 ≤ j) → cell45 j = cell j := fun j hj => by rw [ec45, va_up_ne _ _ (by omega)]; exact fr_43 j hj
                have h_50 : cell45 (z + 2) = .inl (kc 0, 6, .inl (upd Mf i 0)) := by rw [h_48, nI_clamp (by omega)]
                refine g_aload_n C 0 rfl dX1_enter_66 ?_
                refine g_dup C rfl dX1_enter_67 ?_
                refine g_get C z 1 2 (by omega) h_46 rfl in1 (by decide) f18 (fun _ h9 => h9) rfl dX1_enter_68 ?_
                refine g_iconst C 1 (by decide) dX1_enter_71 ?_
                refine g_iadd C dX1_enter_72 ?_
                refine g_eqst (show ([.int ((nI sz) + 1), .ref (adr z)] : List Value) = ([.int (nI (sz + 1)), .ref (adr z)] : List Value) from by rw [nI_1]) ?_
                refine g_put C z 1 2 (by omega) h_46 rfl in1 tyX1 tyX1_ok nmX1 (by decide) f18 (fun _ h9 => h9) rfl (ty := .int) (by decide +kernel) rfl rfl (Nat.le_of_ble_eq_true rfl) dX1_enter_73 ?_
                refine g_cell (fun cell52 ec52 => ?_)
                have h_53 : cell52 z = .inr (1, [.ref (adr (z + 1)), .ref (adr (z + 2)), .int (nI (sz + 1))]) := by rw [ec52]; exact va_up_self _ _ _
                have h_54 : cell52 (z + 1) = .inl (kc 0, 6, .inl (upd Sf i s)) := by rw [ec52, va_up_ne _ _ (by omega)]; exact h_47
                have h_55 : cell52 (z + 2) = .inl (kc 0, 6, .inl (upd Mf i 0)) := by rw [ec52, va_up_ne _ _ (by omega)]; exact h_50
                have fr_56 : ∀ j : Nat, (j < z ∨ z + 3 ≤ j) → cell52 j = cell j := fun j hj => by rw [ec52, va_up_ne _ _ (by omega)]; exact fr_49 j hj
                refine g_aload_n C 0 rfl dX1_enter_76 ?_
                refine g_get C z 1 1 (by omega) h_53 rfl in1 (by decide) f15 (fun _ h9 => h9) rfl dX1_enter_77 ?_
                refine g_iload_n C 3 rfl dX1_enter_80 ?_
                refine g_dup2 C rfl rfl dX1_enter_81 ?_
                refine g_iald C (z + 2) (by omega) h_55 (vp_in_nI (by omega) (by omega)) dX1_enter_82 ?_
                refine g_eqst (show ([.int ((upd Mf i 0) (nI i).toNatClampNeg), .int (nI i), .ref (adr (z + 2))] : List Value) = ([.int ((upd Mf i 0) i), .int (nI i), .ref (adr (z + 2))] : List Value) from by rw [nI_clamp (by omega)]) ?_
                refine g_iconst C 1 (by decide) dX1_enter_83 ?_
                refine g_iload_n C 1 rfl dX1_enter_84 ?_
                refine g_ishl C dX1_enter_85 ?_
                refine g_ior C dX1_enter_86 ?_
                refine g_iast C (z + 2) (by omega) h_55 (vp_in_nI (by omega) (by omega)) dX1_enter_87 ?_
                refine g_cell (fun cell57 ec57 => ?_)
                have h_58 : cell57 z = .inr (1, [.ref (adr (z + 1)), .ref (adr (z + 2)), .int (nI (sz + 1))]) := by rw [ec57, va_up_ne _ _ (by omega)]; exact h_53
                have h_59 : cell57 (z + 1) = .inl (kc 0, 6, .inl (upd Sf i s)) := by rw [ec57, va_up_ne _ _ (by omega)]; exact h_54
                have h_60 : cell57 (z + 2) = .inl (kc 0, 6, .inl (upd (upd Mf i 0) (nI i).toNatClampNeg (((upd Mf i 0) i) ||| (1 <<< ((nI k) &&& 31))))) := by rw [ec57]; exact va_up_self _ _ _
                have fr_61 : ∀ j : Nat, (j < z ∨ z + 3 ≤ j) → cell57 j = cell j := fun j hj => by rw [ec57, va_up_ne _ _ (by omega)]; exact fr_56 j hj
                have h_62 : cell57 (z + 2) = .inl (kc 0, 6, .inl (upd (upd Mf i 0) i (((upd Mf i 0) i) ||| (1 <<< ((nI k) &&& 31))))) := by rw [h_60, nI_clamp (by omega)]
                refine g_vret C hr hlk dX1_enter_88 ?_
                have hfs : fst Sf s sz 0 = i := fst_is (sz := sz) (by omega) (Nat.zero_le _) (by omega) (fun k _ b => hno k b) (fun _ => c16)
                have hi : i = sz := by omega
                subst hi
                have he : enF k s (i, Sf, Mf) = (i + 1, upd Sf i s, upd (upd Mf i 0) i (0 ||| ((1 : Int32) <<< (nI k &&& 31)))) := if_pos hfs
                rw [he]
                exact ⟨⟨h_58, h_59, (by rw [h_62, upd_s]), by omega⟩, fr_61⟩
            · -- not taken at 40
              have c40' := i_nlt c40
              exfalso; omega
        · -- not taken at 16
          have c16' := i_ne c16
          refine g_iinc C 3 [(3, .int (nI (i + 1))), (0, .ref (adr z)), (1, .int (nI k)), (2, .int s)] rfl (iinc_nI i) (by decide) rfl dX1_enter_19 ?_
          refine g_goto C 2 (by decide) dX1_enter_22 ?_
          refine g_sub [1, 2, 3, 0] rfl ?_
          exact ih (i + 1) (by omega) (by omega) (lt_s hno c16)
  refine g_sub [1, 2, 3, 0] rfl ?_
  exact L2 (sz + 1) 0 (by omega) (by omega) (fun _ h => absurd h (Nat.not_lt_zero _))
set_option maxRecDepth 100000 in
set_option maxHeartbeats 4000000 in
theorem c_X1_isAhead (l : Launch) (D : va_G) (kc : Nat → ClassId) (N : Nat) (adr : Nat → Nat) (cell : Nat → va_E) (z sz : Nat) (Sf Mf : Nat → Int32) (a o : Nat) (hB : BlAt cell adr kc z sz Sf Mf) (hN : z + 3 ≤ N) (ha : a < sz ∧ o < sz) : MI l yX1_isAhead wsX1_isAhead ({ frames := 1, cells := 0, slots := 0, locals := 21 }) D kc N adr cell [.ref (adr z), .int (nI a), .int (nI o)] (fun (w : Int32) (cell1 : Nat → va_E) => bI (ahF (sz, Sf, Mf) a o) = w ∧ cell = cell1) := by
  refine met_i (cc := cX1_isAhead) (maxL := 4) (ret := (some .boolean)) (by decide) rfl (Nat.le_of_ble_eq_true rfl) (lv := [(0, .ref (adr z)), (1, .int (nI a)), (2, .int (nI o))]) rfl ?_
  intro Pg Ev Sv Mi args below Me Cd Ar C hr hlk hnm
  obtain ⟨z0, z1, z2, hz6⟩ := hB
  have litm1 : ((-1) : Int32).toInt = -1 := rfl
  have lit0 : (0 : Int32).toInt = 0 := rfl
  have lit1 : (1 : Int32).toInt = 1 := rfl
  have tn_sz : (nI sz).toInt = ((sz : Nat) : Int) := nI_toInt (by omega)
  have tn_a : (nI a).toInt = ((a : Nat) : Int) := nI_toInt (by omega)
  have tn_o : (nI o).toInt = ((o : Nat) : Int) := nI_toInt (by omega)
  refine g_aload_n C 0 rfl dX1_isAhead_0 ?_
  refine g_iload_n C 1 rfl dX1_isAhead_1 ?_
  refine g_Vi C [.int (nI a)] z 1 (by omega) z0 rfl (c_X1_membersOf l D kc N adr cell z sz Sf Mf (nI a) ⟨z0, z1, z2, by omega⟩ (by omega)) (cwV 1 C.2.2.2.2.1 gX1_isAhead_X1_membersOf rfl rfl rfl (by decide +kernel) ⟨Nat.le_of_ble_eq_true rfl, Nat.le_of_ble_eq_true rfl⟩) rfl rfl (Nat.le_of_ble_eq_true rfl) (Nat.zero_le _) (Nat.zero_le _) dX1_isAhead_2 (fun v1 cell1 q1 => ?_)
  obtain ⟨rfl, rfl⟩ := q1
  refine g_eqst (st1 := ([.int (Mf a)] : List Value)) (by rw [whF_nI (by omega) (by omega)]) ?_
  refine g_Si C [.int (Mf a)] (c_J6_bitCount_0f7a4 l D kc N adr cell (Mf a)) (va_cwS 1 C.2.2.2.2.1 gX1_isAhead_J6_bitCount_0f7a4 rfl rfl rfl (by decide +kernel) ⟨Nat.le_of_ble_eq_true rfl, Nat.le_of_ble_eq_true rfl⟩) rfl rfl (Nat.le_of_ble_eq_true rfl) (Nat.zero_le _) (Nat.zero_le _) dX1_isAhead_5 (fun v3 cell3 q3 => ?_)
  obtain ⟨rfl, rfl⟩ := q3
  refine g_aload_n C 0 rfl dX1_isAhead_8 ?_
  refine g_iload_n C 2 rfl dX1_isAhead_9 ?_
  refine g_Vi C [.int (nI o)] z 1 (by omega) z0 rfl (c_X1_membersOf l D kc N adr cell z sz Sf Mf (nI o) ⟨z0, z1, z2, by omega⟩ (by omega)) (cwV 1 C.2.2.2.2.1 gX1_isAhead_X1_membersOf rfl rfl rfl (by decide +kernel) ⟨Nat.le_of_ble_eq_true rfl, Nat.le_of_ble_eq_true rfl⟩) rfl rfl (Nat.le_of_ble_eq_true rfl) (Nat.zero_le _) (Nat.zero_le _) dX1_isAhead_10 (fun v4 cell4 q4 => ?_)
  obtain ⟨rfl, rfl⟩ := q4
  refine g_eqst (st1 := ([.int (Mf o), .int (bcF (Mf a))] : List Value)) (by rw [whF_nI (by omega) (by omega)]) ?_
  refine g_Si C [.int (Mf o)] (c_J6_bitCount_0f7a4 l D kc N adr cell (Mf o)) (va_cwS 1 C.2.2.2.2.1 gX1_isAhead_J6_bitCount_0f7a4 rfl rfl rfl (by decide +kernel) ⟨Nat.le_of_ble_eq_true rfl, Nat.le_of_ble_eq_true rfl⟩) rfl rfl (Nat.le_of_ble_eq_true rfl) (Nat.zero_le _) (Nat.zero_le _) dX1_isAhead_13 (fun v6 cell6 q6 => ?_)
  obtain ⟨rfl, rfl⟩ := q6
  refine g_isub C dX1_isAhead_16 ?_
  refine g_istore_n C [(3, .int ((bcF (Mf a)) - (bcF (Mf o)))), (0, .ref (adr z)), (1, .int (nI a)), (2, .int (nI o))] (by decide) rfl dX1_isAhead_17 ?_
  refine g_iload_n C 0 rfl dX1_isAhead_18 ?_
  refine g_if_gt C 39 (by decide) dX1_isAhead_19 (fun c19 => ?_) (fun c19 => ?_)
  · -- taken at 19
    have c19' := i_lt c19
    refine g_iconst C 1 (by decide) dX1_isAhead_39 ?_
    refine g_goto C 44 (by decide) dX1_isAhead_40 ?_
    refine g_iret C hr rfl hlk dX1_isAhead_44 ?_
    exact ⟨bI_1 (Or.inl c19), rfl⟩
  · -- not taken at 19
    have c19' := i_nlt c19
    refine g_iload_n C 0 rfl dX1_isAhead_22 ?_
    refine g_if_ne C 43 (by decide) dX1_isAhead_23 (fun c23 => ?_) (fun c23 => ?_)
    · -- taken at 23
      have c23' := i_ne c23
      refine g_iconst C 0 (by decide) dX1_isAhead_43 ?_
      refine g_iret C hr rfl hlk dX1_isAhead_44 ?_
      exact ⟨bI_0 (fun h => h.elim c19 (fun h => c23 h.1)), rfl⟩
    · -- not taken at 23
      have c23' := i_eq c23
      refine g_aload_n C 1 rfl dX1_isAhead_26 ?_
      refine g_iload_n C 2 rfl dX1_isAhead_27 ?_
      refine g_Vi C [.int (nI a)] z 1 (by omega) z0 rfl (c_X1_shiftOf l D kc N adr cell z sz Sf Mf (nI a) ⟨z0, z1, z2, by omega⟩ (by omega)) (cwV 1 C.2.2.2.2.1 gX1_isAhead_X1_shiftOf rfl rfl rfl (by decide +kernel) ⟨Nat.le_of_ble_eq_true rfl, Nat.le_of_ble_eq_true rfl⟩) rfl rfl (Nat.le_of_ble_eq_true rfl) (Nat.zero_le _) (Nat.zero_le _) dX1_isAhead_28 (fun v7 cell7 q7 => ?_)
      obtain ⟨rfl, rfl⟩ := q7
      refine g_eqst (st1 := ([.int (Sf a)] : List Value)) (by rw [whF_nI (by omega) (by omega)]) ?_
      refine g_aload_n C 1 rfl dX1_isAhead_31 ?_
      refine g_iload_n C 3 rfl dX1_isAhead_32 ?_
      refine g_Vi C [.int (nI o)] z 1 (by omega) z0 rfl (c_X1_shiftOf l D kc N adr cell z sz Sf Mf (nI o) ⟨z0, z1, z2, by omega⟩ (by omega)) (cwV 1 C.2.2.2.2.1 gX1_isAhead_X1_shiftOf rfl rfl rfl (by decide +kernel) ⟨Nat.le_of_ble_eq_true rfl, Nat.le_of_ble_eq_true rfl⟩) rfl rfl (Nat.le_of_ble_eq_true rfl) (Nat.zero_le _) (Nat.zero_le _) dX1_isAhead_33 (fun v9 cell9 q9 => ?_)
      obtain ⟨rfl, rfl⟩ := q9
      refine g_eqst (st1 := ([.int (Sf o), .int (Sf a)] : List Value)) (by rw [whF_nI (by omega) (by omega)]) ?_
      refine g_icmp_ge C 43 (by decide) dX1_isAhead_36 (fun c36 => ?_) (fun c36 => ?_)
      · -- taken at 36
        have c36' := i_le c36
        refine g_iconst C 0 (by decide) dX1_isAhead_43 ?_
        refine g_iret C hr rfl hlk dX1_isAhead_44 ?_
        exact ⟨bI_0 (fun h => h.elim c19 (fun h => h.2 c36)), rfl⟩
      · -- not taken at 36
        have c36' := i_nle c36
        refine g_iconst C 1 (by decide) dX1_isAhead_39 ?_
        refine g_goto C 44 (by decide) dX1_isAhead_40 ?_
        refine g_iret C hr rfl hlk dX1_isAhead_44 ?_
        exact ⟨bI_1 (Or.inr ⟨c23, c36⟩), rfl⟩
set_option maxRecDepth 100000 in
set_option maxHeartbeats 4000000 in
theorem c_X1_blocksAheadOf (l : Launch) (D : va_G) (kc : Nat → ClassId) (N : Nat) (adr : Nat → Nat) (cell : Nat → va_E) (z sz : Nat) (Sf Mf : Nat → Int32) (o : Nat) (hB : BlAt cell adr kc z sz Sf Mf) (hN : z + 3 ≤ N) (ho : o < sz) : MI l yX1_blocksAheadOf wsX1_blocksAheadOf ({ frames := 2, cells := 0, slots := 0, locals := 44 }) D kc N adr cell [.ref (adr z), .int (nI o)] (fun (w : Int32) (cell1 : Nat → va_E) => nI (abF (sz, Sf, Mf) o) = w ∧ cell = cell1) := by
  refine met_i (cc := cX1_blocksAheadOf) (maxL := 4) (ret := (some .int)) (by decide) rfl (Nat.le_of_ble_eq_true rfl) (lv := [(0, .ref (adr z)), (1, .int (nI o))]) rfl ?_
  intro Pg Ev Sv Mi args below Me Cd Ar C hr hlk hnm
  have in1 : ∀ w ∈ u_ws RX1 TX1 3, w ∈ wsX1_blocksAheadOf := by decide +kernel
  have f18 := C.2.2.2.2.1 (.fieldLink RX1 18 "WordAnchors$Blocks" "size" "I") (by decide +kernel)
  obtain ⟨z0, z1, z2, hz6⟩ := hB
  have litm1 : ((-1) : Int32).toInt = -1 := rfl
  have lit0 : (0 : Int32).toInt = 0 := rfl
  have lit1 : (1 : Int32).toInt = 1 := rfl
  have tn_sz : (nI sz).toInt = ((sz : Nat) : Int) := nI_toInt (by omega)
  have tn_o : (nI o).toInt = ((o : Nat) : Int) := nI_toInt (by omega)
  refine g_iconst C 0 (by decide) dX1_blocksAheadOf_0 ?_
  refine g_istore_n C [(2, .int 0), (0, .ref (adr z)), (1, .int (nI o))] (by decide) rfl dX1_blocksAheadOf_1 ?_
  refine g_iconst C 0 (by decide) dX1_blocksAheadOf_2 ?_
  refine g_istore_n C [(3, .int 0), (2, .int 0), (0, .ref (adr z)), (1, .int (nI o))] (by decide) rfl dX1_blocksAheadOf_3 ?_
  have L4 : ∀ (fu i : Nat) , i ≤ sz → sz < i + fu → G Pg l Ev (headSpec wsX1_blocksAheadOf { frames := 2, cells := 0, slots := 0, locals := 44 }).room Sv Mi args below Me Cd D N adr Ar Sv.heap 4 0 0 (MQ below (va_Qi (fun (w : Int32) (cell1 : Nat → va_E) => nI (abF (sz, Sf, Mf) o) = w ∧ cell = cell1) (fun (cell1 : Nat → va_E) (t : State) => va_P D vwCl (wld N adr cell1) t.heap) Ar) args Sv 0 0 Ar) cell 4 [(0, .ref (adr z)), (1, .int (nI o)), (2, .int (nI (cnt (fun a => ahF (sz, Sf, Mf) a o) i))), (3, .int (nI i))] ([] : List Value) := by
    intro fu
    induction fu with
    | zero => intro i  hle hfu; exact absurd hfu (by omega)
    | succ fu ih =>
      intro i  hle4 hfu4  
      have tn_i : (nI i).toInt = ((i : Nat) : Int) := nI_toInt (by omega)
      refine g_iload_n C 3 rfl dX1_blocksAheadOf_4 ?_
      refine g_aload_n C 0 rfl dX1_blocksAheadOf_5 ?_
      refine g_get C z 1 2 (by omega) z0 rfl in1 (by decide) f18 (fun _ h9 => h9) rfl dX1_blocksAheadOf_6 ?_
      refine g_icmp_ge C 30 (by decide) dX1_blocksAheadOf_9 (fun c9 => ?_) (fun c9 => ?_)
      · -- taken at 9
        have c9' := i_le c9
        obtain rfl : sz = i := by omega
        refine g_iload_n C 2 rfl dX1_blocksAheadOf_30 ?_
        refine g_iret C hr rfl hlk dX1_blocksAheadOf_31 ?_
        exact ⟨rfl, rfl⟩
      · -- not taken at 9
        have c9' := i_nle c9
        refine g_aload_n C 0 rfl dX1_blocksAheadOf_12 ?_
        refine g_iload_n C 3 rfl dX1_blocksAheadOf_13 ?_
        refine g_iload_n C 1 rfl dX1_blocksAheadOf_14 ?_
        refine g_Vi C [.int (nI i), .int (nI o)] z 1 (by omega) z0 rfl (c_X1_isAhead l D kc N adr cell z sz Sf Mf i o ⟨z0, z1, z2, by omega⟩ (by omega) (by omega)) (cwV 2 C.2.2.2.2.1 gX1_blocksAheadOf_X1_isAhead rfl rfl rfl (by decide +kernel) ⟨Nat.le_of_ble_eq_true rfl, Nat.le_of_ble_eq_true rfl⟩) rfl rfl (Nat.le_of_ble_eq_true rfl) (Nat.zero_le _) (Nat.zero_le _) dX1_blocksAheadOf_15 (fun v1 cell1 q1 => ?_)
        obtain ⟨rfl, rfl⟩ := q1
        refine g_if_eq C 24 (by decide) dX1_blocksAheadOf_18 (fun c18 => ?_) (fun c18 => ?_)
        · -- taken at 18
          have c18' := bI_bf c18
          refine g_iinc C 3 [(3, .int (nI (i + 1))), (0, .ref (adr z)), (1, .int (nI o)), (2, .int (nI (cnt (fun a => ahF (sz, Sf, Mf) a o) i)))] rfl (iinc_nI i) (by decide) rfl dX1_blocksAheadOf_24 ?_
          refine g_goto C 4 (by decide) dX1_blocksAheadOf_27 ?_
          refine g_sub [1, 2, 3, 0] rfl ?_
          have ev_2 : nI (cnt (fun a => ahF (sz, Sf, Mf) a o) i) = nI (cnt (fun a => ahF (sz, Sf, Mf) a o) (i + 1)) := by first | exact cnt_yes c18' | exact cnt_no (by rw [c18']; decide)
          refine g_eqlv (lv1 := [(0, .ref (adr z)), (1, .int (nI o)), (2, .int (nI (cnt (fun a => ahF (sz, Sf, Mf) a o) (i + 1)))), (3, .int (nI (i + 1)))]) (congrArg (fun z0 : Int32 => ([(0, .ref (adr z)), (1, .int (nI o)), (2, .int z0), (3, .int (nI (i + 1)))] : List (Nat × Value))) ev_2) ?_
          exact ih (i + 1) (by omega) (by omega) 
        · -- not taken at 18
          have c18' := bI_bt c18
          refine g_iinc C 2 [(2, .int (nI (cnt (fun a => ahF (sz, Sf, Mf) a o) i + 1))), (0, .ref (adr z)), (1, .int (nI o)), (3, .int (nI i))] rfl (iinc_nI (cnt (fun a => ahF (sz, Sf, Mf) a o) i)) (by decide) rfl dX1_blocksAheadOf_21 ?_
          refine g_iinc C 3 [(3, .int (nI (i + 1))), (2, .int (nI (cnt (fun a => ahF (sz, Sf, Mf) a o) i + 1))), (0, .ref (adr z)), (1, .int (nI o))] rfl (iinc_nI i) (by decide) rfl dX1_blocksAheadOf_24 ?_
          refine g_goto C 4 (by decide) dX1_blocksAheadOf_27 ?_
          refine g_sub [2, 3, 1, 0] rfl ?_
          have ev_3 : nI (cnt (fun a => ahF (sz, Sf, Mf) a o) i + 1) = nI (cnt (fun a => ahF (sz, Sf, Mf) a o) (i + 1)) := by first | exact cnt_yes c18' | exact cnt_no (by rw [c18']; decide)
          refine g_eqlv (lv1 := [(0, .ref (adr z)), (1, .int (nI o)), (2, .int (nI (cnt (fun a => ahF (sz, Sf, Mf) a o) (i + 1)))), (3, .int (nI (i + 1)))]) (congrArg (fun z0 : Int32 => ([(0, .ref (adr z)), (1, .int (nI o)), (2, .int z0), (3, .int (nI (i + 1)))] : List (Nat × Value))) ev_3) ?_
          exact ih (i + 1) (by omega) (by omega) 
  refine g_sub [2, 3, 1, 0] rfl ?_
  have ev_4 : 0 = nI (cnt (fun a => ahF (sz, Sf, Mf) a o) 0) := by rfl
  refine g_eqlv (lv1 := [(0, .ref (adr z)), (1, .int (nI o)), (2, .int (nI (cnt (fun a => ahF (sz, Sf, Mf) a o) 0))), (3, .int 0)]) (congrArg (fun z0 : Int32 => ([(0, .ref (adr z)), (1, .int (nI o)), (2, .int z0), (3, .int 0)] : List (Nat × Value))) ev_4) ?_
  exact L4 (sz + 1) 0 (by omega) (by omega) 
set_option maxRecDepth 100000 in
set_option maxHeartbeats 4000000 in
theorem c_X1_inOrder (l : Launch) (D : va_G) (kc : Nat → ClassId) (N : Nat) (adr : Nat → Nat) (cell : Nat → va_E) (z sz : Nat) (Sf Mf : Nat → Int32) (x : Int32) (hB : BlAt cell adr kc z sz Sf Mf) (hN : z + 3 ≤ N) : MI l yX1_inOrder wsX1_inOrder ({ frames := 3, cells := 0, slots := 0, locals := 67 }) D kc N adr cell [.ref (adr z), .int x] (fun (w : Int32) (cell1 : Nat → va_E) => ioF (sz, Sf, Mf) x sz 0 = w ∧ cell = cell1) := by
  refine met_i (cc := cX1_inOrder) (maxL := 3) (ret := (some .int)) (by decide) rfl (Nat.le_of_ble_eq_true rfl) (lv := [(0, .ref (adr z)), (1, .int x)]) rfl ?_
  intro Pg Ev Sv Mi args below Me Cd Ar C hr hlk hnm
  have in1 : ∀ w ∈ u_ws RX1 TX1 3, w ∈ wsX1_inOrder := by decide +kernel
  have f18 := C.2.2.2.2.1 (.fieldLink RX1 18 "WordAnchors$Blocks" "size" "I") (by decide +kernel)
  obtain ⟨z0, z1, z2, hz6⟩ := hB
  have litm1 : ((-1) : Int32).toInt = -1 := rfl
  have lit0 : (0 : Int32).toInt = 0 := rfl
  have lit1 : (1 : Int32).toInt = 1 := rfl
  have tn_sz : (nI sz).toInt = ((sz : Nat) : Int) := nI_toInt (by omega)
  refine g_iconst C 0 (by decide) dX1_inOrder_0 ?_
  refine g_istore_n C [(2, .int 0), (0, .ref (adr z)), (1, .int x)] (by decide) rfl dX1_inOrder_1 ?_
  have L2 : ∀ (fu i : Nat) , i ≤ sz → sz < i + fu → (hno : ∀ k1 : Nat, k1 < i → ¬ nI (abF (sz, Sf, Mf) k1) = x) → G Pg l Ev (headSpec wsX1_inOrder { frames := 3, cells := 0, slots := 0, locals := 67 }).room Sv Mi args below Me Cd D N adr Ar Sv.heap 3 0 0 (MQ below (va_Qi (fun (w : Int32) (cell1 : Nat → va_E) => ioF (sz, Sf, Mf) x sz 0 = w ∧ cell = cell1) (fun (cell1 : Nat → va_E) (t : State) => va_P D vwCl (wld N adr cell1) t.heap) Ar) args Sv 0 0 Ar) cell 2 [(0, .ref (adr z)), (1, .int x), (2, .int (nI i))] ([] : List Value) := by
    intro fu
    induction fu with
    | zero => intro i  hle hfu; exact absurd hfu (by omega)
    | succ fu ih =>
      intro i  hle2 hfu2  hno
      have tn_i : (nI i).toInt = ((i : Nat) : Int) := nI_toInt (by omega)
      refine g_iload_n C 2 rfl dX1_inOrder_2 ?_
      refine g_aload_n C 0 rfl dX1_inOrder_3 ?_
      refine g_get C z 1 2 (by omega) z0 rfl in1 (by decide) f18 (fun _ h9 => h9) rfl dX1_inOrder_4 ?_
      refine g_icmp_ge C 27 (by decide) dX1_inOrder_7 (fun c7 => ?_) (fun c7 => ?_)
      · -- taken at 7
        have c7' := i_le c7
        obtain rfl : sz = i := by omega
        refine g_iconst C (-1) (by decide) dX1_inOrder_27 ?_
        refine g_iret C hr rfl hlk dX1_inOrder_28 ?_
        exact ⟨io_no (B := (sz, Sf, Mf)) (Nat.zero_add _) (fun k _ b => hno k b), rfl⟩
      · -- not taken at 7
        have c7' := i_nle c7
        refine g_aload_n C 0 rfl dX1_inOrder_10 ?_
        refine g_iload_n C 2 rfl dX1_inOrder_11 ?_
        refine g_Vi C [.int (nI i)] z 1 (by omega) z0 rfl (c_X1_blocksAheadOf l D kc N adr cell z sz Sf Mf i ⟨z0, z1, z2, by omega⟩ (by omega) (by omega)) (cwV 1 C.2.2.2.2.1 gX1_inOrder_X1_blocksAheadOf rfl rfl rfl (by decide +kernel) ⟨Nat.le_of_ble_eq_true rfl, Nat.le_of_ble_eq_true rfl⟩) rfl rfl (Nat.le_of_ble_eq_true rfl) (Nat.zero_le _) (Nat.zero_le _) dX1_inOrder_12 (fun v1 cell1 q1 => ?_)
        obtain ⟨rfl, rfl⟩ := q1
        refine g_iload_n C 1 rfl dX1_inOrder_15 ?_
        refine g_icmp_ne C 21 (by decide) dX1_inOrder_16 (fun c16 => ?_) (fun c16 => ?_)
        · -- taken at 16
          have c16' := i_ne c16
          refine g_iinc C 2 [(2, .int (nI (i + 1))), (0, .ref (adr z)), (1, .int x)] rfl (iinc_nI i) (by decide) rfl dX1_inOrder_21 ?_
          refine g_goto C 2 (by decide) dX1_inOrder_24 ?_
          refine g_sub [1, 2, 0] rfl ?_
          exact ih (i + 1) (by omega) (by omega) (lt_s hno c16)
        · -- not taken at 16
          have c16' := i_eq c16
          refine g_iload_n C 2 rfl dX1_inOrder_19 ?_
          refine g_iret C hr rfl hlk dX1_inOrder_20 ?_
          exact ⟨io_is (B := (sz, Sf, Mf)) (Nat.zero_add _) (Nat.zero_le _) (by show i < sz; omega) (fun k _ b => hno k b) c16, rfl⟩
  refine g_sub [1, 2, 0] rfl ?_
  exact L2 (sz + 1) 0 (by omega) (by omega) (fun _ h => absurd h (Nat.not_lt_zero _))
