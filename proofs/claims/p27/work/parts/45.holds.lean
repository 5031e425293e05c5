set_option maxRecDepth 100000 in
set_option maxHeartbeats 4000000 in
theorem c_L_holds (l : Launch) (D : va_G) (kc : Nat → ClassId) (N : Nat) (adr : Nat → Nat) (cell : Nat → va_E) (σ : SD) (hn : Nat) (hi : Nat → SD) (L : Nat) (ch : Nat → Int32)  (hX : XAt cell adr kc σ hn hi L ch) (hI : Inv σ) (hN : 125 ≤ N) : MI l yL_holds wsL_holds ({ frames := 7, cells := 0, slots := 0, locals := 166 }) D kc N adr cell [.ref (adr 0)] (fun (v : Int32) (cell1 : Nat → va_E) => 1 = v ∧ cell = cell1) := by
  refine met_i (cc := cL_holds) (maxL := 14) (ret := (some .boolean)) (by decide) rfl (Nat.le_of_ble_eq_true rfl) (lv := [(0, .ref (adr 0))]) rfl ?_
  intro Pg Ev Sv Mi args below Me Cd Ar C hr hlk hnm
  have hm := hI.1.2.1
  have hnn := hI.1.1
  have litm1 : ((-1) : Int32).toInt = -1 := rfl
  have lit0 : (0 : Int32).toInt = 0 := rfl
  have lit1 : (1 : Int32).toInt = 1 := rfl
  have lit2 : (2 : Int32).toInt = 2 := rfl
  have lit3 : (3 : Int32).toInt = 3 := rfl
  have lit4 : (4 : Int32).toInt = 4 := rfl
  have lit5 : (5 : Int32).toInt = 5 := rfl
  have lit8 : (8 : Int32).toInt = 8 := rfl
  have lit9 : (9 : Int32).toInt = 9 := rfl
  have lit11 : (11 : Int32).toInt = 11 := rfl
  have lit20 : (20 : Int32).toInt = 20 := rfl
  have lit21 : (21 : Int32).toInt = 21 := rfl
  have lit22 : (22 : Int32).toInt = 22 := rfl
  have lit40 : (40 : Int32).toInt = 40 := rfl
  have tn___1 : (nI σ.1).toInt = ((σ.1 : Nat) : Int) := nI_toInt (by omega)
  have tn___2_1 : (nI σ.2.1).toInt = ((σ.2.1 : Nat) : Int) := nI_toInt (by omega)
  refine g_aload_n C 0 rfl dL_holds_0 ?_
  refine g_iconst C 0 (by decide) dL_holds_1 ?_
  refine g_Vi C [.int 0] 0 6 (by omega) hX.1 rfl (c_X6_count l D kc N adr cell σ hn hi L ch 0 hX hI.1 hN) (cwV 1 C.2.2.2.2.1 gL_holds_X6_count rfl rfl rfl (by decide +kernel) ⟨Nat.le_of_ble_eq_true rfl, Nat.le_of_ble_eq_true rfl⟩) rfl rfl (Nat.le_of_ble_eq_true rfl) (Nat.zero_le _) (Nat.zero_le _) dL_holds_2 (fun v1 cell1 q1 => ?_)
  obtain ⟨rfl, rfl⟩ := q1
  refine g_eqst (st1 := ([.int (nI (σ.1))] : List Value)) (by rw [show countR σ hn L 0 = nI (σ.1) from count_0]) ?_
  refine g_istore_n C [(1, .int (nI (σ.1))), (0, .ref (adr 0))] (by decide) rfl dL_holds_5 ?_
  refine g_iconst C 1 (by decide) dL_holds_6 ?_
  refine g_aload_n C 1 rfl dL_holds_7 ?_
  refine g_iconst C 1 (by decide) dL_holds_8 ?_
  refine g_Vi C [.int 1] 0 6 (by omega) hX.1 rfl (c_X6_count l D kc N adr cell σ hn hi L ch 1 hX hI.1 hN) (cwV 1 C.2.2.2.2.1 gL_holds_X6_count rfl rfl rfl (by decide +kernel) ⟨Nat.le_of_ble_eq_true rfl, Nat.le_of_ble_eq_true rfl⟩) rfl rfl (Nat.le_of_ble_eq_true rfl) (Nat.zero_le _) (Nat.zero_le _) dL_holds_9 (fun v2 cell2 q2 => ?_)
  obtain ⟨rfl, rfl⟩ := q2
  refine g_eqst (st1 := ([.int (nI (σ.2.1)), .int 1] : List Value)) (by rw [show countR σ hn L 1 = nI (σ.2.1) from count_1]) ?_
  refine g_ishl C dL_holds_12 ?_
  refine g_iconst C 1 (by decide) dL_holds_13 ?_
  refine g_isub C dL_holds_14 ?_
  refine g_top (fun xa2 exa2 => ?_)
  refine g_istore_n C [(2, .int xa2), (1, .int (nI (σ.1))), (0, .ref (adr 0))] (by decide) rfl dL_holds_15 ?_
  refine g_aload_n C 2 rfl dL_holds_16 ?_
  refine g_bipush C 20 (by decide) dL_holds_17 ?_
  refine g_Vi C [.int 20] 0 6 (by omega) hX.1 rfl (c_X6_count l D kc N adr cell σ hn hi L ch 20 hX hI.1 hN) (cwV 1 C.2.2.2.2.1 gL_holds_X6_count rfl rfl rfl (by decide +kernel) ⟨Nat.le_of_ble_eq_true rfl, Nat.le_of_ble_eq_true rfl⟩) rfl rfl (Nat.le_of_ble_eq_true rfl) (Nat.zero_le _) (Nat.zero_le _) dL_holds_19 (fun v4 cell4 q4 => ?_)
  obtain ⟨rfl, rfl⟩ := q4
  refine g_eqst (st1 := ([.int (σ.2.2.2.2.2.2.1 0)] : List Value)) (by rw [show countR σ hn L 20 = σ.2.2.2.2.2.2.1 0 from count_20]) ?_
  refine g_iconst C 2 (by decide) dL_holds_22 ?_
  refine g_aload_n C 2 rfl dL_holds_23 ?_
  refine g_bipush C 21 (by decide) dL_holds_24 ?_
  refine g_Vi C [.int 21] 0 6 (by omega) hX.1 rfl (c_X6_count l D kc N adr cell σ hn hi L ch 21 hX hI.1 hN) (cwV 1 C.2.2.2.2.1 gL_holds_X6_count rfl rfl rfl (by decide +kernel) ⟨Nat.le_of_ble_eq_true rfl, Nat.le_of_ble_eq_true rfl⟩) rfl rfl (Nat.le_of_ble_eq_true rfl) (Nat.zero_le _) (Nat.zero_le _) dL_holds_26 (fun v5 cell5 q5 => ?_)
  obtain ⟨rfl, rfl⟩ := q5
  refine g_eqst (st1 := ([.int (σ.2.2.2.2.2.2.1 1), .int 2, .int (σ.2.2.2.2.2.2.1 0)] : List Value)) (by rw [show countR σ hn L 21 = σ.2.2.2.2.2.2.1 1 from count_21]) ?_
  refine g_imul C dL_holds_29 ?_
  refine g_iadd C dL_holds_30 ?_
  refine g_iconst C 2 (by decide) dL_holds_31 ?_
  refine g_aload_n C 2 rfl dL_holds_32 ?_
  refine g_bipush C 22 (by decide) dL_holds_33 ?_
  refine g_Vi C [.int 22] 0 6 (by omega) hX.1 rfl (c_X6_count l D kc N adr cell σ hn hi L ch 22 hX hI.1 hN) (cwV 1 C.2.2.2.2.1 gL_holds_X6_count rfl rfl rfl (by decide +kernel) ⟨Nat.le_of_ble_eq_true rfl, Nat.le_of_ble_eq_true rfl⟩) rfl rfl (Nat.le_of_ble_eq_true rfl) (Nat.zero_le _) (Nat.zero_le _) dL_holds_35 (fun v6 cell6 q6 => ?_)
  obtain ⟨rfl, rfl⟩ := q6
  refine g_eqst (st1 := ([.int (σ.2.2.2.2.2.2.1 2), .int 2, .int ((σ.2.2.2.2.2.2.1 0) + (2 * (σ.2.2.2.2.2.2.1 1)))] : List Value)) (by rw [show countR σ hn L 22 = σ.2.2.2.2.2.2.1 2 from count_22]) ?_
  refine g_imul C dL_holds_38 ?_
  refine g_iadd C dL_holds_39 ?_
  refine g_top (fun xf6 exf6 => ?_)
  refine g_istore_n C [(3, .int xf6), (2, .int xa2), (1, .int (nI (σ.1))), (0, .ref (adr 0))] (by decide) rfl dL_holds_40 ?_
  have hf3 : xf6 = fullF σ.2.2.2.2.2.2.1 := exf6
  have hcl := cnt_le (fun p => !seenF σ.2.2.2.1 (σ.2.2.2.1 p) p) σ.1
  have tc : (nI (cnt (fun p => !seenF σ.2.2.2.1 (σ.2.2.2.1 p) p) σ.1)).toInt = (cnt (fun p => !seenF σ.2.2.2.1 (σ.2.2.2.1 p) p) σ.1 : Nat) := nI_toInt (by omega)
  refine g_iload_n C 2 rfl dL_holds_41 ?_
  refine g_bipush C 40 (by decide) dL_holds_42 ?_
  refine g_icmp_gt C 145 (by decide) dL_holds_44 (fun c44 => ?_) (fun c44 => ?_)
  · -- taken at 44
    have c44' := i_lt c44
    exfalso; omega
  · -- not taken at 44
    have c44' := i_nlt c44
    refine g_aload_n C 3 rfl dL_holds_47 ?_
    refine g_iconst C 2 (by decide) dL_holds_48 ?_
    refine g_Vi C [.int 2] 0 6 (by omega) hX.1 rfl (c_X6_count l D kc N adr cell σ hn hi L ch 2 hX hI.1 hN) (cwV 1 C.2.2.2.2.1 gL_holds_X6_count rfl rfl rfl (by decide +kernel) ⟨Nat.le_of_ble_eq_true rfl, Nat.le_of_ble_eq_true rfl⟩) rfl rfl (Nat.le_of_ble_eq_true rfl) (Nat.zero_le _) (Nat.zero_le _) dL_holds_49 (fun v8 cell8 q8 => ?_)
    obtain ⟨rfl, rfl⟩ := q8
    refine g_eqst (st1 := ([.int (nI (cnt (fun p => !seenF σ.2.2.2.1 (σ.2.2.2.1 p) p) σ.1))] : List Value)) (by rw [show countR σ hn L 2 = nI (cnt (fun p => !seenF σ.2.2.2.1 (σ.2.2.2.1 p) p) σ.1) from count_2]) ?_
    refine g_iload_n C 2 rfl dL_holds_52 ?_
    refine g_icmp_gt C 145 (by decide) dL_holds_53 (fun c53 => ?_) (fun c53 => ?_)
    · -- taken at 53
      have c53' := i_lt c53
      exfalso; omega
    · -- not taken at 53
      have c53' := i_nlt c53
      refine g_aload_n C 3 rfl dL_holds_56 ?_
      refine g_iconst C 0 (by decide) dL_holds_57 ?_
      refine g_Vi C [.int 0] 0 6 (by omega) hX.1 rfl (c_X6_anchors l D kc N adr cell σ hn hi L ch 0 hX hI.1 hN) (cwV 1 C.2.2.2.2.1 gL_holds_X6_anchors rfl rfl rfl (by decide +kernel) ⟨Nat.le_of_ble_eq_true rfl, Nat.le_of_ble_eq_true rfl⟩) rfl rfl (Nat.le_of_ble_eq_true rfl) (Nat.zero_le _) (Nat.zero_le _) dL_holds_58 (fun v9 cell9 q9 => ?_)
      obtain ⟨rfl, rfl⟩ := q9
      refine g_eqst (st1 := ([.int (aKs σ 0 σ.2.1)] : List Value)) (by rw [anchors_x (σ := σ) (x := 0) (by decide)]) ?_
      refine g_aload_n C 3 rfl dL_holds_61 ?_
      refine g_iconst C 1 (by decide) dL_holds_62 ?_
      refine g_Vi C [.int 1] 0 6 (by omega) hX.1 rfl (c_X6_anchors l D kc N adr cell σ hn hi L ch 1 hX hI.1 hN) (cwV 1 C.2.2.2.2.1 gL_holds_X6_anchors rfl rfl rfl (by decide +kernel) ⟨Nat.le_of_ble_eq_true rfl, Nat.le_of_ble_eq_true rfl⟩) rfl rfl (Nat.le_of_ble_eq_true rfl) (Nat.zero_le _) (Nat.zero_le _) dL_holds_63 (fun v10 cell10 q10 => ?_)
      obtain ⟨rfl, rfl⟩ := q10
      refine g_eqst (st1 := ([.int (aKs σ 1 σ.2.1), .int (aKs σ 0 σ.2.1)] : List Value)) (by rw [anchors_x (σ := σ) (x := 1) (by decide)]) ?_
      refine g_ior C dL_holds_66 ?_
      refine g_aload_n C 3 rfl dL_holds_67 ?_
      refine g_iconst C 2 (by decide) dL_holds_68 ?_
      refine g_Vi C [.int 2] 0 6 (by omega) hX.1 rfl (c_X6_anchors l D kc N adr cell σ hn hi L ch 2 hX hI.1 hN) (cwV 1 C.2.2.2.2.1 gL_holds_X6_anchors rfl rfl rfl (by decide +kernel) ⟨Nat.le_of_ble_eq_true rfl, Nat.le_of_ble_eq_true rfl⟩) rfl rfl (Nat.le_of_ble_eq_true rfl) (Nat.zero_le _) (Nat.zero_le _) dL_holds_69 (fun v11 cell11 q11 => ?_)
      obtain ⟨rfl, rfl⟩ := q11
      refine g_eqst (st1 := ([.int (aKs σ 2 σ.2.1), .int ((aKs σ 0 σ.2.1) ||| (aKs σ 1 σ.2.1))] : List Value)) (by rw [anchors_x (σ := σ) (x := 2) (by decide)]) ?_
      refine g_ior C dL_holds_72 ?_
      refine g_iload_n C 1 rfl dL_holds_73 ?_
      refine g_icmp_ne C 145 (by decide) dL_holds_74 (fun c74 => ?_) (fun c74 => ?_)
      · -- taken at 74
        have c74' := i_ne c74
        exact False.elim (c74 ((bits_all hm).trans exa2.symm))
      · -- not taken at 74
        have c74' := i_eq c74
        refine g_aload_n C 3 rfl dL_holds_77 ?_
        refine g_iconst C 0 (by decide) dL_holds_78 ?_
        refine g_Vi C [.int 0] 0 6 (by omega) hX.1 rfl (c_X6_anchors l D kc N adr cell σ hn hi L ch 0 hX hI.1 hN) (cwV 1 C.2.2.2.2.1 gL_holds_X6_anchors rfl rfl rfl (by decide +kernel) ⟨Nat.le_of_ble_eq_true rfl, Nat.le_of_ble_eq_true rfl⟩) rfl rfl (Nat.le_of_ble_eq_true rfl) (Nat.zero_le _) (Nat.zero_le _) dL_holds_79 (fun v12 cell12 q12 => ?_)
        obtain ⟨rfl, rfl⟩ := q12
        refine g_eqst (st1 := ([.int (aKs σ 0 σ.2.1)] : List Value)) (by rw [anchors_x (σ := σ) (x := 0) (by decide)]) ?_
        refine g_aload_n C 3 rfl dL_holds_82 ?_
        refine g_iconst C 1 (by decide) dL_holds_83 ?_
        refine g_Vi C [.int 1] 0 6 (by omega) hX.1 rfl (c_X6_anchors l D kc N adr cell σ hn hi L ch 1 hX hI.1 hN) (cwV 1 C.2.2.2.2.1 gL_holds_X6_anchors rfl rfl rfl (by decide +kernel) ⟨Nat.le_of_ble_eq_true rfl, Nat.le_of_ble_eq_true rfl⟩) rfl rfl (Nat.le_of_ble_eq_true rfl) (Nat.zero_le _) (Nat.zero_le _) dL_holds_84 (fun v13 cell13 q13 => ?_)
        obtain ⟨rfl, rfl⟩ := q13
        refine g_eqst (st1 := ([.int (aKs σ 1 σ.2.1), .int (aKs σ 0 σ.2.1)] : List Value)) (by rw [anchors_x (σ := σ) (x := 1) (by decide)]) ?_
        refine g_iand C dL_holds_87 ?_
        refine g_if_ne C 145 (by decide) dL_holds_88 (fun c88 => ?_) (fun c88 => ?_)
        · -- taken at 88
          have c88' := i_ne c88
          exact False.elim (c88 (bits_01 hm))
        · -- not taken at 88
          have c88' := i_eq c88
          refine g_aload_n C 3 rfl dL_holds_91 ?_
          refine g_iconst C 2 (by decide) dL_holds_92 ?_
          refine g_Vi C [.int 2] 0 6 (by omega) hX.1 rfl (c_X6_anchors l D kc N adr cell σ hn hi L ch 2 hX hI.1 hN) (cwV 1 C.2.2.2.2.1 gL_holds_X6_anchors rfl rfl rfl (by decide +kernel) ⟨Nat.le_of_ble_eq_true rfl, Nat.le_of_ble_eq_true rfl⟩) rfl rfl (Nat.le_of_ble_eq_true rfl) (Nat.zero_le _) (Nat.zero_le _) dL_holds_93 (fun v14 cell14 q14 => ?_)
          obtain ⟨rfl, rfl⟩ := q14
          refine g_eqst (st1 := ([.int (aKs σ 2 σ.2.1)] : List Value)) (by rw [anchors_x (σ := σ) (x := 2) (by decide)]) ?_
          refine g_aload_n C 3 rfl dL_holds_96 ?_
          refine g_iconst C 0 (by decide) dL_holds_97 ?_
          refine g_Vi C [.int 0] 0 6 (by omega) hX.1 rfl (c_X6_anchors l D kc N adr cell σ hn hi L ch 0 hX hI.1 hN) (cwV 1 C.2.2.2.2.1 gL_holds_X6_anchors rfl rfl rfl (by decide +kernel) ⟨Nat.le_of_ble_eq_true rfl, Nat.le_of_ble_eq_true rfl⟩) rfl rfl (Nat.le_of_ble_eq_true rfl) (Nat.zero_le _) (Nat.zero_le _) dL_holds_98 (fun v15 cell15 q15 => ?_)
          obtain ⟨rfl, rfl⟩ := q15
          refine g_eqst (st1 := ([.int (aKs σ 0 σ.2.1), .int (aKs σ 2 σ.2.1)] : List Value)) (by rw [anchors_x (σ := σ) (x := 0) (by decide)]) ?_
          refine g_aload_n C 3 rfl dL_holds_101 ?_
          refine g_iconst C 1 (by decide) dL_holds_102 ?_
          refine g_Vi C [.int 1] 0 6 (by omega) hX.1 rfl (c_X6_anchors l D kc N adr cell σ hn hi L ch 1 hX hI.1 hN) (cwV 1 C.2.2.2.2.1 gL_holds_X6_anchors rfl rfl rfl (by decide +kernel) ⟨Nat.le_of_ble_eq_true rfl, Nat.le_of_ble_eq_true rfl⟩) rfl rfl (Nat.le_of_ble_eq_true rfl) (Nat.zero_le _) (Nat.zero_le _) dL_holds_103 (fun v16 cell16 q16 => ?_)
          obtain ⟨rfl, rfl⟩ := q16
          refine g_eqst (st1 := ([.int (aKs σ 1 σ.2.1), .int (aKs σ 0 σ.2.1), .int (aKs σ 2 σ.2.1)] : List Value)) (by rw [anchors_x (σ := σ) (x := 1) (by decide)]) ?_
          refine g_ior C dL_holds_106 ?_
          refine g_iand C dL_holds_107 ?_
          refine g_if_ne C 145 (by decide) dL_holds_108 (fun c108 => ?_) (fun c108 => ?_)
          · -- taken at 108
            have c108' := i_ne c108
            exact False.elim (c108 (bits_2 hm))
          · -- not taken at 108
            have c108' := i_eq c108
            refine g_aload_n C 3 rfl dL_holds_111 ?_
            refine g_iconst C 3 (by decide) dL_holds_112 ?_
            refine g_Vi C [.int 3] 0 6 (by omega) hX.1 rfl (c_X6_anchors l D kc N adr cell σ hn hi L ch 3 hX hI.1 hN) (cwV 1 C.2.2.2.2.1 gL_holds_X6_anchors rfl rfl rfl (by decide +kernel) ⟨Nat.le_of_ble_eq_true rfl, Nat.le_of_ble_eq_true rfl⟩) rfl rfl (Nat.le_of_ble_eq_true rfl) (Nat.zero_le _) (Nat.zero_le _) dL_holds_113 (fun v17 cell17 q17 => ?_)
            obtain ⟨rfl, rfl⟩ := q17
            refine g_eqst (st1 := ([.int (aKs σ 3 σ.2.1)] : List Value)) (by rw [anchors_x (σ := σ) (x := 3) (by decide)]) ?_
            refine g_aload_n C 3 rfl dL_holds_116 ?_
            refine g_iconst C 4 (by decide) dL_holds_117 ?_
            refine g_Vi C [.int 4] 0 6 (by omega) hX.1 rfl (c_X6_anchors l D kc N adr cell σ hn hi L ch 4 hX hI.1 hN) (cwV 1 C.2.2.2.2.1 gL_holds_X6_anchors rfl rfl rfl (by decide +kernel) ⟨Nat.le_of_ble_eq_true rfl, Nat.le_of_ble_eq_true rfl⟩) rfl rfl (Nat.le_of_ble_eq_true rfl) (Nat.zero_le _) (Nat.zero_le _) dL_holds_118 (fun v18 cell18 q18 => ?_)
            obtain ⟨rfl, rfl⟩ := q18
            refine g_eqst (st1 := ([.int (aKs σ 4 σ.2.1), .int (aKs σ 3 σ.2.1)] : List Value)) (by rw [anchors_x (σ := σ) (x := 4) (by decide)]) ?_
            refine g_iand C dL_holds_121 ?_
            refine g_if_ne C 145 (by decide) dL_holds_122 (fun c122 => ?_) (fun c122 => ?_)
            · -- taken at 122
              have c122' := i_ne c122
              exact False.elim (c122 (bits_34 hm))
            · -- not taken at 122
              have c122' := i_eq c122
              refine g_aload_n C 3 rfl dL_holds_125 ?_
              refine g_iconst C 5 (by decide) dL_holds_126 ?_
              refine g_Vi C [.int 5] 0 6 (by omega) hX.1 rfl (c_X6_anchors l D kc N adr cell σ hn hi L ch 5 hX hI.1 hN) (cwV 1 C.2.2.2.2.1 gL_holds_X6_anchors rfl rfl rfl (by decide +kernel) ⟨Nat.le_of_ble_eq_true rfl, Nat.le_of_ble_eq_true rfl⟩) rfl rfl (Nat.le_of_ble_eq_true rfl) (Nat.zero_le _) (Nat.zero_le _) dL_holds_127 (fun v19 cell19 q19 => ?_)
              obtain ⟨rfl, rfl⟩ := q19
              refine g_eqst (st1 := ([.int (aKs σ 5 σ.2.1)] : List Value)) (by rw [anchors_x (σ := σ) (x := 5) (by decide)]) ?_
              refine g_aload_n C 3 rfl dL_holds_130 ?_
              refine g_iconst C 2 (by decide) dL_holds_131 ?_
              refine g_Vi C [.int 2] 0 6 (by omega) hX.1 rfl (c_X6_anchors l D kc N adr cell σ hn hi L ch 2 hX hI.1 hN) (cwV 1 C.2.2.2.2.1 gL_holds_X6_anchors rfl rfl rfl (by decide +kernel) ⟨Nat.le_of_ble_eq_true rfl, Nat.le_of_ble_eq_true rfl⟩) rfl rfl (Nat.le_of_ble_eq_true rfl) (Nat.zero_le _) (Nat.zero_le _) dL_holds_132 (fun v20 cell20 q20 => ?_)
              obtain ⟨rfl, rfl⟩ := q20
              refine g_eqst (st1 := ([.int (aKs σ 2 σ.2.1), .int (aKs σ 5 σ.2.1)] : List Value)) (by rw [anchors_x (σ := σ) (x := 2) (by decide)]) ?_
              refine g_iconst C (-1) (by decide) dL_holds_135 ?_
              refine g_ixor C dL_holds_136 ?_
              refine g_iand C dL_holds_137 ?_
              refine g_if_ne C 145 (by decide) dL_holds_138 (fun c138 => ?_) (fun c138 => ?_)
              · -- taken at 138
                have c138' := i_ne c138
                exact False.elim (c138 (bits_5 hm))
              · -- not taken at 138
                have c138' := i_eq c138
                refine g_iconst C 1 (by decide) dL_holds_141 ?_
                refine g_goto C 146 (by decide) dL_holds_142 ?_
                refine g_istore C [(4, .int 1), (3, .int xf6), (2, .int xa2), (1, .int (nI (σ.1))), (0, .ref (adr 0))] (by decide) rfl dL_holds_146 ?_
                refine g_iconst C 0 (by decide) dL_holds_148 ?_
                refine g_istore C [(5, .int 0), (4, .int 1), (3, .int xf6), (2, .int xa2), (1, .int (nI (σ.1))), (0, .ref (adr 0))] (by decide) rfl dL_holds_149 ?_
                have L151 : ∀ (fu i : Nat) , i ≤ σ.2.1 → σ.2.1 < i + fu → G Pg l Ev (headSpec wsL_holds { frames := 7, cells := 0, slots := 0, locals := 166 }).room Sv Mi args below Me Cd D N adr Ar Sv.heap 14 0 0 (MQ below (va_Qi (fun (v : Int32) (cell1 : Nat → va_E) => 1 = v ∧ cell = cell1) (fun (cell1 : Nat → va_E) (t : State) => va_P D vwCl (wld N adr cell1) t.heap) Ar) args Sv 0 0 Ar) cell 151 [(0, .ref (adr 0)), (1, .int (nI (σ.1))), (2, .int xa2), (3, .int xf6), (4, .int 1), (5, .int (nI i))] ([] : List Value) := by
                  intro fu
                  induction fu with
                  | zero => intro i  hle hfu; exact absurd hfu (by omega)
                  | succ fu ih =>
                    intro i  hle151 hfu151  
                    have tn_i : (nI i).toInt = ((i : Nat) : Int) := nI_toInt (by omega)
                    refine g_iload C 5 rfl dL_holds_151 ?_
                    refine g_aload_n C 0 rfl dL_holds_153 ?_
                    refine g_iconst C 1 (by decide) dL_holds_154 ?_
                    refine g_Vi C [.int 1] 0 6 (by omega) hX.1 rfl (c_X6_count l D kc N adr cell σ hn hi L ch 1 hX hI.1 hN) (cwV 1 C.2.2.2.2.1 gL_holds_X6_count rfl rfl rfl (by decide +kernel) ⟨Nat.le_of_ble_eq_true rfl, Nat.le_of_ble_eq_true rfl⟩) rfl rfl (Nat.le_of_ble_eq_true rfl) (Nat.zero_le _) (Nat.zero_le _) dL_holds_155 (fun v21 cell21 q21 => ?_)
                    obtain ⟨rfl, rfl⟩ := q21
                    refine g_eqst (st1 := ([.int (nI (σ.2.1)), .int (nI i)] : List Value)) (by rw [show countR σ hn L 1 = nI (σ.2.1) from count_1]) ?_
                    refine g_icmp_ge C 477 (by decide) dL_holds_158 (fun c158 => ?_) (fun c158 => ?_)
                    · -- taken at 158
                      have c158' := i_le c158
                      refine g_iload C 4 rfl dL_holds_477 ?_
                      refine g_iret C hr rfl hlk dL_holds_479 ?_
                      exact ⟨rfl, rfl⟩
                    · -- not taken at 158
                      have c158' := i_nle c158
                      refine g_iload C 4 rfl dL_holds_161 ?_
                      refine g_if_eq C 477 (by decide) dL_holds_163 (fun c163 => ?_) (fun c163 => ?_)
                      · -- taken at 163
                        have c163' := i_eq c163
                        exact absurd c163 (by decide)
                      · -- not taken at 163
                        have c163' := i_ne c163
                        have him : i < σ.2.1 := by omega
                        obtain ⟨x6, x7, x8, x9, e6, e7, e8, e9, f1, f2, f3, f4, f5, f6, f7, f8, f9⟩ := holds_facts hI him
                        refine g_aload_n C 0 rfl dL_holds_166 ?_
                        refine g_iload C 5 rfl dL_holds_167 ?_
                        refine g_iconst C 1 (by decide) dL_holds_169 ?_
                        refine g_Vi C [.int (nI i), .int 1] 0 6 (by omega) hX.1 rfl (c_X6_anchorOf l D kc N adr cell σ hn hi L ch (nI i) 1 hX hI.1 hN) (cwV 2 C.2.2.2.2.1 gL_holds_X6_anchorOf rfl rfl rfl (by decide +kernel) ⟨Nat.le_of_ble_eq_true rfl, Nat.le_of_ble_eq_true rfl⟩) rfl rfl (Nat.le_of_ble_eq_true rfl) (Nat.zero_le _) (Nat.zero_le _) dL_holds_170 (fun v22 cell22 q22 => ?_)
                        obtain ⟨rfl, rfl⟩ := q22
                        refine g_eqst (st1 := ([.int x6] : List Value)) (by rw [e6]) ?_
                        refine g_istore C [(6, .int x6), (0, .ref (adr 0)), (1, .int (nI (σ.1))), (2, .int xa2), (3, .int xf6), (4, .int 1), (5, .int (nI i))] (by decide) rfl dL_holds_173 ?_
                        refine g_aload_n C 1 rfl dL_holds_175 ?_
                        refine g_iload C 6 rfl dL_holds_176 ?_
                        refine g_bipush C 8 (by decide) dL_holds_178 ?_
                        refine g_Vi C [.int (nI i), .int 8] 0 6 (by omega) hX.1 rfl (c_X6_anchorOf l D kc N adr cell σ hn hi L ch (nI i) 8 hX hI.1 hN) (cwV 2 C.2.2.2.2.1 gL_holds_X6_anchorOf rfl rfl rfl (by decide +kernel) ⟨Nat.le_of_ble_eq_true rfl, Nat.le_of_ble_eq_true rfl⟩) rfl rfl (Nat.le_of_ble_eq_true rfl) (Nat.zero_le _) (Nat.zero_le _) dL_holds_180 (fun v23 cell23 q23 => ?_)
                        obtain ⟨rfl, rfl⟩ := q23
                        refine g_eqst (st1 := ([.int x7] : List Value)) (by rw [e7]) ?_
                        refine g_istore C [(7, .int x7), (6, .int x6), (0, .ref (adr 0)), (1, .int (nI (σ.1))), (2, .int xa2), (3, .int xf6), (4, .int 1), (5, .int (nI i))] (by decide) rfl dL_holds_183 ?_
                        refine g_aload_n C 2 rfl dL_holds_185 ?_
                        refine g_iload C 7 rfl dL_holds_186 ?_
                        refine g_bipush C 9 (by decide) dL_holds_188 ?_
                        refine g_Vi C [.int (nI i), .int 9] 0 6 (by omega) hX.1 rfl (c_X6_anchorOf l D kc N adr cell σ hn hi L ch (nI i) 9 hX hI.1 hN) (cwV 2 C.2.2.2.2.1 gL_holds_X6_anchorOf rfl rfl rfl (by decide +kernel) ⟨Nat.le_of_ble_eq_true rfl, Nat.le_of_ble_eq_true rfl⟩) rfl rfl (Nat.le_of_ble_eq_true rfl) (Nat.zero_le _) (Nat.zero_le _) dL_holds_190 (fun v24 cell24 q24 => ?_)
                        obtain ⟨rfl, rfl⟩ := q24
                        refine g_eqst (st1 := ([.int x8] : List Value)) (by rw [e8]) ?_
                        refine g_istore C [(8, .int x8), (7, .int x7), (6, .int x6), (0, .ref (adr 0)), (1, .int (nI (σ.1))), (2, .int xa2), (3, .int xf6), (4, .int 1), (5, .int (nI i))] (by decide) rfl dL_holds_193 ?_
                        refine g_aload_n C 3 rfl dL_holds_195 ?_
                        refine g_iload C 8 rfl dL_holds_196 ?_
                        refine g_bipush C 11 (by decide) dL_holds_198 ?_
                        refine g_Vi C [.int (nI i), .int 11] 0 6 (by omega) hX.1 rfl (c_X6_anchorOf l D kc N adr cell σ hn hi L ch (nI i) 11 hX hI.1 hN) (cwV 2 C.2.2.2.2.1 gL_holds_X6_anchorOf rfl rfl rfl (by decide +kernel) ⟨Nat.le_of_ble_eq_true rfl, Nat.le_of_ble_eq_true rfl⟩) rfl rfl (Nat.le_of_ble_eq_true rfl) (Nat.zero_le _) (Nat.zero_le _) dL_holds_200 (fun v25 cell25 q25 => ?_)
                        obtain ⟨rfl, rfl⟩ := q25
                        refine g_eqst (st1 := ([.int x9] : List Value)) (by rw [e9]) ?_
                        refine g_istore C [(9, .int x9), (8, .int x8), (7, .int x7), (6, .int x6), (0, .ref (adr 0)), (1, .int (nI (σ.1))), (2, .int xa2), (3, .int xf6), (4, .int 1), (5, .int (nI i))] (by decide) rfl dL_holds_203 ?_
                        have J325 : G Pg l Ev (headSpec wsL_holds { frames := 7, cells := 0, slots := 0, locals := 166 }).room Sv Mi args below Me Cd D N adr Ar Sv.heap 14 0 0 (MQ below (va_Qi (fun (v : Int32) (cell1 : Nat → va_E) => 1 = v ∧ cell = cell1) (fun (cell1 : Nat → va_E) (t : State) => va_P D vwCl (wld N adr cell1) t.heap) Ar) args Sv 0 0 Ar) cell 325 [(0, .ref (adr 0)), (1, .int (nI (σ.1))), (2, .int xa2), (3, .int xf6), (4, .int 1), (5, .int (nI i)), (6, .int x6), (7, .int x7), (8, .int x8), (9, .int x9)] ([] : List Value) := by
                          refine g_iconst C 0 (by decide) dL_holds_325 ?_
                          refine g_istore C [(10, .int 0), (0, .ref (adr 0)), (1, .int (nI (σ.1))), (2, .int xa2), (3, .int xf6), (4, .int 1), (5, .int (nI i)), (6, .int x6), (7, .int x7), (8, .int x8), (9, .int x9)] (by decide) rfl dL_holds_326 ?_
                          have L328 : ∀ (fu j : Nat) , j ≤ σ.1 → σ.1 < j + fu → G Pg l Ev (headSpec wsL_holds { frames := 7, cells := 0, slots := 0, locals := 166 }).room Sv Mi args below Me Cd D N adr Ar Sv.heap 14 0 0 (MQ below (va_Qi (fun (v : Int32) (cell1 : Nat → va_E) => 1 = v ∧ cell = cell1) (fun (cell1 : Nat → va_E) (t : State) => va_P D vwCl (wld N adr cell1) t.heap) Ar) args Sv 0 0 Ar) cell 328 [(0, .ref (adr 0)), (1, .int (nI (σ.1))), (2, .int xa2), (3, .int xf6), (4, .int 1), (5, .int (nI i)), (6, .int x6), (7, .int x7), (8, .int x8), (9, .int x9), (10, .int (nI j))] ([] : List Value) := by
                            intro fu
                            induction fu with
                            | zero => intro j  hle hfu; exact absurd hfu (by omega)
                            | succ fu ih328 =>
                              intro j  hle328 hfu328  
                              have tn_j : (nI j).toInt = ((j : Nat) : Int) := nI_toInt (by omega)
                              refine g_iload C 10 rfl dL_holds_328 ?_
                              refine g_iload_n C 1 rfl dL_holds_330 ?_
                              refine g_icmp_ge C 471 (by decide) dL_holds_331 (fun c331 => ?_) (fun c331 => ?_)
                              · -- taken at 331
                                have c331' := i_le c331
                                refine g_iinc C 5 [(5, .int (nI (i + 1))), (0, .ref (adr 0)), (1, .int (nI (σ.1))), (2, .int xa2), (3, .int xf6), (4, .int 1), (6, .int x6), (7, .int x7), (8, .int x8), (9, .int x9), (10, .int (nI j))] rfl (iinc_nI i) (by decide) rfl dL_holds_471 ?_
                                refine g_goto C 151 (by decide) dL_holds_474 ?_
                                refine g_sub [1, 2, 3, 4, 5, 0] rfl ?_
                                exact ih (i + 1) (by omega) (by omega) 
                              · -- not taken at 331
                                have c331' := i_nle c331
                                refine g_iload C 4 rfl dL_holds_334 ?_
                                refine g_if_eq C 471 (by decide) dL_holds_336 (fun c336 => ?_) (fun c336 => ?_)
                                · -- taken at 336
                                  have c336' := i_eq c336
                                  exact absurd c336 (by decide)
                                · -- not taken at 336
                                  have c336' := i_ne c336
                                  have hjn : j < σ.1 := by omega
                                  obtain ⟨db, dp, g1, g2, g3⟩ := f6 j hjn
                                  refine g_aload_n C 0 rfl dL_holds_339 ?_
                                  refine g_iload C 5 rfl dL_holds_340 ?_
                                  refine g_iload C 10 rfl dL_holds_342 ?_
                                  refine g_Vi C [.int (nI i), .int (nI j)] 0 6 (by omega) hX.1 rfl (c_X6_score l D kc N adr cell σ hn hi L ch (nI i) (nI j) hX hI.1 hN) (cwV 2 C.2.2.2.2.1 gL_holds_X6_score rfl rfl rfl (by decide +kernel) ⟨Nat.le_of_ble_eq_true rfl, Nat.le_of_ble_eq_true rfl⟩) rfl rfl (Nat.le_of_ble_eq_true rfl) (Nat.zero_le _) (Nat.zero_le _) dL_holds_344 (fun v26 cell26 q26 => ?_)
                                  obtain ⟨rfl, rfl⟩ := q26
                                  refine g_eqst (st1 := ([.int (aS σ i (nI j))] : List Value)) (by rw [score_in him hm hjn hnn]) ?_
                                  refine g_istore C [(11, .int (aS σ i (nI j))), (0, .ref (adr 0)), (1, .int (nI (σ.1))), (2, .int xa2), (3, .int xf6), (4, .int 1), (5, .int (nI i)), (6, .int x6), (7, .int x7), (8, .int x8), (9, .int x9), (10, .int (nI j))] (by decide) rfl dL_holds_347 ?_
                                  refine g_iload C 11 rfl dL_holds_349 ?_
                                  refine g_aload_n C 1 rfl dL_holds_351 ?_
                                  refine g_iload C 6 rfl dL_holds_352 ?_
                                  refine g_iconst C 0 (by decide) dL_holds_354 ?_
                                  refine g_Vi C [.int (nI i), .int 0] 0 6 (by omega) hX.1 rfl (c_X6_anchorOf l D kc N adr cell σ hn hi L ch (nI i) 0 hX hI.1 hN) (cwV 2 C.2.2.2.2.1 gL_holds_X6_anchorOf rfl rfl rfl (by decide +kernel) ⟨Nat.le_of_ble_eq_true rfl, Nat.le_of_ble_eq_true rfl⟩) rfl rfl (Nat.le_of_ble_eq_true rfl) (Nat.zero_le _) (Nat.zero_le _) dL_holds_355 (fun v27 cell27 q27 => ?_)
                                  obtain ⟨rfl, rfl⟩ := q27
                                  refine g_eqst (st1 := ([.int (σ.2.2.2.2.2.2.2.1 i), .int (nI j)] : List Value)) (by rw [anc_0 him hm]) ?_
                                  refine g_icmp_ge C 374 (by decide) dL_holds_358 (fun c358 => ?_) (fun c358 => ?_)
                                  · -- taken at 358
                                    have c358' := i_le c358
                                    refine g_iload C 11 rfl dL_holds_374 ?_
                                    refine g_aload_n C 1 rfl dL_holds_376 ?_
                                    refine g_iload C 6 rfl dL_holds_377 ?_
                                    refine g_iconst C 0 (by decide) dL_holds_379 ?_
                                    refine g_Vi C [.int (nI i), .int 0] 0 6 (by omega) hX.1 rfl (c_X6_anchorOf l D kc N adr cell σ hn hi L ch (nI i) 0 hX hI.1 hN) (cwV 2 C.2.2.2.2.1 gL_holds_X6_anchorOf rfl rfl rfl (by decide +kernel) ⟨Nat.le_of_ble_eq_true rfl, Nat.le_of_ble_eq_true rfl⟩) rfl rfl (Nat.le_of_ble_eq_true rfl) (Nat.zero_le _) (Nat.zero_le _) dL_holds_380 (fun v28 cell28 q28 => ?_)
                                    obtain ⟨rfl, rfl⟩ := q28
                                    refine g_eqst (st1 := ([.int (σ.2.2.2.2.2.2.2.1 i), .int (nI j)] : List Value)) (by rw [anc_0 him hm]) ?_
                                    refine g_isub C dL_holds_383 ?_
                                    have ta_29 : ((nI j) - (σ.2.2.2.2.2.2.2.1 i)).toInt = (nI j).toInt - (σ.2.2.2.2.2.2.2.1 i).toInt := t_sub (by omega) (by omega)
                                    refine g_istore C [(12, .int ((nI j) - (σ.2.2.2.2.2.2.2.1 i))), (11, .int (aS σ i (nI j))), (0, .ref (adr 0)), (1, .int (nI (σ.1))), (2, .int xa2), (3, .int xf6), (4, .int 1), (5, .int (nI i)), (6, .int x6), (7, .int x7), (8, .int x8), (9, .int x9), (10, .int (nI j))] (by decide) rfl dL_holds_384 ?_
                                    refine g_iload C 9 rfl dL_holds_386 ?_
                                    refine g_aload_n C 2 rfl dL_holds_388 ?_
                                    refine g_iload C 7 rfl dL_holds_389 ?_
                                    refine g_iconst C 0 (by decide) dL_holds_391 ?_
                                    refine g_Vi C [.int (nI i), .int 0] 0 6 (by omega) hX.1 rfl (c_X6_anchorOf l D kc N adr cell σ hn hi L ch (nI i) 0 hX hI.1 hN) (cwV 2 C.2.2.2.2.1 gL_holds_X6_anchorOf rfl rfl rfl (by decide +kernel) ⟨Nat.le_of_ble_eq_true rfl, Nat.le_of_ble_eq_true rfl⟩) rfl rfl (Nat.le_of_ble_eq_true rfl) (Nat.zero_le _) (Nat.zero_le _) dL_holds_392 (fun v30 cell30 q30 => ?_)
                                    obtain ⟨rfl, rfl⟩ := q30
                                    refine g_eqst (st1 := ([.int (σ.2.2.2.2.2.2.2.1 i), .int x7] : List Value)) (by rw [anc_0 him hm]) ?_
                                    refine g_icmp_ge C 411 (by decide) dL_holds_395 (fun c395 => ?_) (fun c395 => ?_)
                                    · -- taken at 395
                                      have c395' := i_le c395
                                      refine g_iload C 9 rfl dL_holds_411 ?_
                                      refine g_aload_n C 2 rfl dL_holds_413 ?_
                                      refine g_iload C 7 rfl dL_holds_414 ?_
                                      refine g_iconst C 0 (by decide) dL_holds_416 ?_
                                      refine g_Vi C [.int (nI i), .int 0] 0 6 (by omega) hX.1 rfl (c_X6_anchorOf l D kc N adr cell σ hn hi L ch (nI i) 0 hX hI.1 hN) (cwV 2 C.2.2.2.2.1 gL_holds_X6_anchorOf rfl rfl rfl (by decide +kernel) ⟨Nat.le_of_ble_eq_true rfl, Nat.le_of_ble_eq_true rfl⟩) rfl rfl (Nat.le_of_ble_eq_true rfl) (Nat.zero_le _) (Nat.zero_le _) dL_holds_417 (fun v31 cell31 q31 => ?_)
                                      obtain ⟨rfl, rfl⟩ := q31
                                      refine g_eqst (st1 := ([.int (σ.2.2.2.2.2.2.2.1 i), .int x7] : List Value)) (by rw [anc_0 him hm]) ?_
                                      refine g_isub C dL_holds_420 ?_
                                      have ta_32 : (x7 - (σ.2.2.2.2.2.2.2.1 i)).toInt = x7.toInt - (σ.2.2.2.2.2.2.2.1 i).toInt := t_sub (by omega) (by omega)
                                      refine g_istore C [(13, .int (x7 - (σ.2.2.2.2.2.2.2.1 i))), (12, .int ((nI j) - (σ.2.2.2.2.2.2.2.1 i))), (11, .int (aS σ i (nI j))), (0, .ref (adr 0)), (1, .int (nI (σ.1))), (2, .int xa2), (3, .int xf6), (4, .int 1), (5, .int (nI i)), (6, .int x6), (7, .int x7), (8, .int x8), (9, .int x9), (10, .int (nI j))] (by decide) rfl dL_holds_421 ?_
                                      refine g_iload C 2 rfl dL_holds_423 ?_
                                      refine g_iload C 11 rfl dL_holds_425 ?_
                                      refine g_icmp_lt C 458 (by decide) dL_holds_427 (fun c427 => ?_) (fun c427 => ?_)
                                      · -- taken at 427
                                        have c427' := i_lt c427
                                        refine g_iconst C 1 (by decide) dL_holds_458 ?_
                                        refine g_goto C 463 (by decide) dL_holds_459 ?_
                                        refine g_istore C [(4, .int 1), (13, .int (x7 - (σ.2.2.2.2.2.2.2.1 i))), (12, .int ((nI j) - (σ.2.2.2.2.2.2.2.1 i))), (11, .int (aS σ i (nI j))), (0, .ref (adr 0)), (1, .int (nI (σ.1))), (2, .int xa2), (3, .int xf6), (5, .int (nI i)), (6, .int x6), (7, .int x7), (8, .int x8), (9, .int x9), (10, .int (nI j))] (by decide) rfl dL_holds_463 ?_
                                        refine g_iinc C 13 [(10, .int (nI (j + 1))), (4, .int 1), (13, .int (x7 - (σ.2.2.2.2.2.2.2.1 i))), (12, .int ((nI j) - (σ.2.2.2.2.2.2.2.1 i))), (11, .int (aS σ i (nI j))), (0, .ref (adr 0)), (1, .int (nI (σ.1))), (2, .int xa2), (3, .int xf6), (5, .int (nI i)), (6, .int x6), (7, .int x7), (8, .int x8), (9, .int x9)] rfl (iinc_nI j) (by decide) rfl dL_holds_465 ?_
                                        refine g_goto C 328 (by decide) dL_holds_468 ?_
                                        refine g_sub [5, 6, 7, 8, 1, 9, 10, 11, 12, 13, 0] rfl ?_
                                        exact ih328 (j + 1) (by omega) (by omega) 
                                      · -- not taken at 427
                                        have c427' := i_nlt c427
                                        refine g_iload C 2 rfl dL_holds_430 ?_
                                        refine g_iload C 11 rfl dL_holds_432 ?_
                                        refine g_icmp_ne C 462 (by decide) dL_holds_434 (fun c434 => ?_) (fun c434 => ?_)
                                        · -- taken at 434
                                          have c434' := i_ne c434
                                          exfalso; omega --done
                                        · -- not taken at 434
                                          have c434' := i_eq c434
                                          refine g_iload C 1 rfl dL_holds_437 ?_
                                          refine g_iload C 0 rfl dL_holds_439 ?_
                                          refine g_icmp_gt C 458 (by decide) dL_holds_441 (fun c441 => ?_) (fun c441 => ?_)
                                          · -- taken at 441
                                            have c441' := i_lt c441
                                            refine g_iconst C 1 (by decide) dL_holds_458 ?_
                                            refine g_goto C 463 (by decide) dL_holds_459 ?_
                                            refine g_istore C [(4, .int 1), (13, .int (x7 - (σ.2.2.2.2.2.2.2.1 i))), (12, .int ((nI j) - (σ.2.2.2.2.2.2.2.1 i))), (11, .int (aS σ i (nI j))), (0, .ref (adr 0)), (1, .int (nI (σ.1))), (2, .int xa2), (3, .int xf6), (5, .int (nI i)), (6, .int x6), (7, .int x7), (8, .int x8), (9, .int x9), (10, .int (nI j))] (by decide) rfl dL_holds_463 ?_
                                            refine g_iinc C 13 [(10, .int (nI (j + 1))), (4, .int 1), (13, .int (x7 - (σ.2.2.2.2.2.2.2.1 i))), (12, .int ((nI j) - (σ.2.2.2.2.2.2.2.1 i))), (11, .int (aS σ i (nI j))), (0, .ref (adr 0)), (1, .int (nI (σ.1))), (2, .int xa2), (3, .int xf6), (5, .int (nI i)), (6, .int x6), (7, .int x7), (8, .int x8), (9, .int x9)] rfl (iinc_nI j) (by decide) rfl dL_holds_465 ?_
                                            refine g_goto C 328 (by decide) dL_holds_468 ?_
                                            refine g_sub [5, 6, 7, 8, 1, 9, 10, 11, 12, 13, 0] rfl ?_
                                            exact ih328 (j + 1) (by omega) (by omega) 
                                          · -- not taken at 441
                                            have c441' := i_nlt c441
                                            refine g_iload C 1 rfl dL_holds_444 ?_
                                            refine g_iload C 0 rfl dL_holds_446 ?_
                                            refine g_icmp_ne C 462 (by decide) dL_holds_448 (fun c448 => ?_) (fun c448 => ?_)
                                            · -- taken at 448
                                              have c448' := i_ne c448
                                              exfalso; omega --done
                                            · -- not taken at 448
                                              have c448' := i_eq c448
                                              refine g_iload C 13 rfl dL_holds_451 ?_
                                              refine g_iload C 10 rfl dL_holds_453 ?_
                                              refine g_icmp_lt C 462 (by decide) dL_holds_455 (fun c455 => ?_) (fun c455 => ?_)
                                              · -- taken at 455
                                                have c455' := i_lt c455
                                                exfalso; omega --done
                                              · -- not taken at 455
                                                have c455' := i_nlt c455
                                                refine g_iconst C 1 (by decide) dL_holds_458 ?_
                                                refine g_goto C 463 (by decide) dL_holds_459 ?_
                                                refine g_istore C [(4, .int 1), (13, .int (x7 - (σ.2.2.2.2.2.2.2.1 i))), (12, .int ((nI j) - (σ.2.2.2.2.2.2.2.1 i))), (11, .int (aS σ i (nI j))), (0, .ref (adr 0)), (1, .int (nI (σ.1))), (2, .int xa2), (3, .int xf6), (5, .int (nI i)), (6, .int x6), (7, .int x7), (8, .int x8), (9, .int x9), (10, .int (nI j))] (by decide) rfl dL_holds_463 ?_
                                                refine g_iinc C 13 [(10, .int (nI (j + 1))), (4, .int 1), (13, .int (x7 - (σ.2.2.2.2.2.2.2.1 i))), (12, .int ((nI j) - (σ.2.2.2.2.2.2.2.1 i))), (11, .int (aS σ i (nI j))), (0, .ref (adr 0)), (1, .int (nI (σ.1))), (2, .int xa2), (3, .int xf6), (5, .int (nI i)), (6, .int x6), (7, .int x7), (8, .int x8), (9, .int x9)] rfl (iinc_nI j) (by decide) rfl dL_holds_465 ?_
                                                refine g_goto C 328 (by decide) dL_holds_468 ?_
                                                refine g_sub [5, 6, 7, 8, 1, 9, 10, 11, 12, 13, 0] rfl ?_
                                                exact ih328 (j + 1) (by omega) (by omega) 
                                    · -- not taken at 395
                                      have c395' := i_nle c395
                                      refine g_aload_n C 2 rfl dL_holds_398 ?_
                                      refine g_iload C 7 rfl dL_holds_399 ?_
                                      refine g_iconst C 0 (by decide) dL_holds_401 ?_
                                      refine g_Vi C [.int (nI i), .int 0] 0 6 (by omega) hX.1 rfl (c_X6_anchorOf l D kc N adr cell σ hn hi L ch (nI i) 0 hX hI.1 hN) (cwV 2 C.2.2.2.2.1 gL_holds_X6_anchorOf rfl rfl rfl (by decide +kernel) ⟨Nat.le_of_ble_eq_true rfl, Nat.le_of_ble_eq_true rfl⟩) rfl rfl (Nat.le_of_ble_eq_true rfl) (Nat.zero_le _) (Nat.zero_le _) dL_holds_402 (fun v33 cell33 q33 => ?_)
                                      obtain ⟨rfl, rfl⟩ := q33
                                      refine g_eqst (st1 := ([.int (σ.2.2.2.2.2.2.2.1 i)] : List Value)) (by rw [anc_0 him hm]) ?_
                                      refine g_iload C 9 rfl dL_holds_405 ?_
                                      refine g_isub C dL_holds_407 ?_
                                      have ta_34 : ((σ.2.2.2.2.2.2.2.1 i) - x7).toInt = (σ.2.2.2.2.2.2.2.1 i).toInt - x7.toInt := t_sub (by omega) (by omega)
                                      refine g_goto C 421 (by decide) dL_holds_408 ?_
                                      refine g_istore C [(13, .int ((σ.2.2.2.2.2.2.2.1 i) - x7)), (12, .int ((nI j) - (σ.2.2.2.2.2.2.2.1 i))), (11, .int (aS σ i (nI j))), (0, .ref (adr 0)), (1, .int (nI (σ.1))), (2, .int xa2), (3, .int xf6), (4, .int 1), (5, .int (nI i)), (6, .int x6), (7, .int x7), (8, .int x8), (9, .int x9), (10, .int (nI j))] (by decide) rfl dL_holds_421 ?_
                                      refine g_iload C 2 rfl dL_holds_423 ?_
                                      refine g_iload C 11 rfl dL_holds_425 ?_
                                      refine g_icmp_lt C 458 (by decide) dL_holds_427 (fun c427 => ?_) (fun c427 => ?_)
                                      · -- taken at 427
                                        have c427' := i_lt c427
                                        refine g_iconst C 1 (by decide) dL_holds_458 ?_
                                        refine g_goto C 463 (by decide) dL_holds_459 ?_
                                        refine g_istore C [(4, .int 1), (13, .int ((σ.2.2.2.2.2.2.2.1 i) - x7)), (12, .int ((nI j) - (σ.2.2.2.2.2.2.2.1 i))), (11, .int (aS σ i (nI j))), (0, .ref (adr 0)), (1, .int (nI (σ.1))), (2, .int xa2), (3, .int xf6), (5, .int (nI i)), (6, .int x6), (7, .int x7), (8, .int x8), (9, .int x9), (10, .int (nI j))] (by decide) rfl dL_holds_463 ?_
                                        refine g_iinc C 13 [(10, .int (nI (j + 1))), (4, .int 1), (13, .int ((σ.2.2.2.2.2.2.2.1 i) - x7)), (12, .int ((nI j) - (σ.2.2.2.2.2.2.2.1 i))), (11, .int (aS σ i (nI j))), (0, .ref (adr 0)), (1, .int (nI (σ.1))), (2, .int xa2), (3, .int xf6), (5, .int (nI i)), (6, .int x6), (7, .int x7), (8, .int x8), (9, .int x9)] rfl (iinc_nI j) (by decide) rfl dL_holds_465 ?_
                                        refine g_goto C 328 (by decide) dL_holds_468 ?_
                                        refine g_sub [5, 6, 7, 8, 1, 9, 10, 11, 12, 13, 0] rfl ?_
                                        exact ih328 (j + 1) (by omega) (by omega) 
                                      · -- not taken at 427
                                        have c427' := i_nlt c427
                                        refine g_iload C 2 rfl dL_holds_430 ?_
                                        refine g_iload C 11 rfl dL_holds_432 ?_
                                        refine g_icmp_ne C 462 (by decide) dL_holds_434 (fun c434 => ?_) (fun c434 => ?_)
                                        · -- taken at 434
                                          have c434' := i_ne c434
                                          exfalso; omega --done
                                        · -- not taken at 434
                                          have c434' := i_eq c434
                                          refine g_iload C 1 rfl dL_holds_437 ?_
                                          refine g_iload C 0 rfl dL_holds_439 ?_
                                          refine g_icmp_gt C 458 (by decide) dL_holds_441 (fun c441 => ?_) (fun c441 => ?_)
                                          · -- taken at 441
                                            have c441' := i_lt c441
                                            refine g_iconst C 1 (by decide) dL_holds_458 ?_
                                            refine g_goto C 463 (by decide) dL_holds_459 ?_
                                            refine g_istore C [(4, .int 1), (13, .int ((σ.2.2.2.2.2.2.2.1 i) - x7)), (12, .int ((nI j) - (σ.2.2.2.2.2.2.2.1 i))), (11, .int (aS σ i (nI j))), (0, .ref (adr 0)), (1, .int (nI (σ.1))), (2, .int xa2), (3, .int xf6), (5, .int (nI i)), (6, .int x6), (7, .int x7), (8, .int x8), (9, .int x9), (10, .int (nI j))] (by decide) rfl dL_holds_463 ?_
                                            refine g_iinc C 13 [(10, .int (nI (j + 1))), (4, .int 1), (13, .int ((σ.2.2.2.2.2.2.2.1 i) - x7)), (12, .int ((nI j) - (σ.2.2.2.2.2.2.2.1 i))), (11, .int (aS σ i (nI j))), (0, .ref (adr 0)), (1, .int (nI (σ.1))), (2, .int xa2), (3, .int xf6), (5, .int (nI i)), (6, .int x6), (7, .int x7), (8, .int x8), (9, .int x9)] rfl (iinc_nI j) (by decide) rfl dL_holds_465 ?_
                                            refine g_goto C 328 (by decide) dL_holds_468 ?_
                                            refine g_sub [5, 6, 7, 8, 1, 9, 10, 11, 12, 13, 0] rfl ?_
                                            exact ih328 (j + 1) (by omega) (by omega) 
                                          · -- not taken at 441
                                            have c441' := i_nlt c441
                                            refine g_iload C 1 rfl dL_holds_444 ?_
                                            refine g_iload C 0 rfl dL_holds_446 ?_
                                            refine g_icmp_ne C 462 (by decide) dL_holds_448 (fun c448 => ?_) (fun c448 => ?_)
                                            · -- taken at 448
                                              have c448' := i_ne c448
                                              exfalso; omega --done
                                            · -- not taken at 448
                                              have c448' := i_eq c448
                                              refine g_iload C 13 rfl dL_holds_451 ?_
                                              refine g_iload C 10 rfl dL_holds_453 ?_
                                              refine g_icmp_lt C 462 (by decide) dL_holds_455 (fun c455 => ?_) (fun c455 => ?_)
                                              · -- taken at 455
                                                have c455' := i_lt c455
                                                exfalso; omega --done
                                              · -- not taken at 455
                                                have c455' := i_nlt c455
                                                refine g_iconst C 1 (by decide) dL_holds_458 ?_
                                                refine g_goto C 463 (by decide) dL_holds_459 ?_
                                                refine g_istore C [(4, .int 1), (13, .int ((σ.2.2.2.2.2.2.2.1 i) - x7)), (12, .int ((nI j) - (σ.2.2.2.2.2.2.2.1 i))), (11, .int (aS σ i (nI j))), (0, .ref (adr 0)), (1, .int (nI (σ.1))), (2, .int xa2), (3, .int xf6), (5, .int (nI i)), (6, .int x6), (7, .int x7), (8, .int x8), (9, .int x9), (10, .int (nI j))] (by decide) rfl dL_holds_463 ?_
                                                refine g_iinc C 13 [(10, .int (nI (j + 1))), (4, .int 1), (13, .int ((σ.2.2.2.2.2.2.2.1 i) - x7)), (12, .int ((nI j) - (σ.2.2.2.2.2.2.2.1 i))), (11, .int (aS σ i (nI j))), (0, .ref (adr 0)), (1, .int (nI (σ.1))), (2, .int xa2), (3, .int xf6), (5, .int (nI i)), (6, .int x6), (7, .int x7), (8, .int x8), (9, .int x9)] rfl (iinc_nI j) (by decide) rfl dL_holds_465 ?_
                                                refine g_goto C 328 (by decide) dL_holds_468 ?_
                                                refine g_sub [5, 6, 7, 8, 1, 9, 10, 11, 12, 13, 0] rfl ?_
                                                exact ih328 (j + 1) (by omega) (by omega) 
                                  · -- not taken at 358
                                    have c358' := i_nle c358
                                    refine g_aload_n C 1 rfl dL_holds_361 ?_
                                    refine g_iload C 6 rfl dL_holds_362 ?_
                                    refine g_iconst C 0 (by decide) dL_holds_364 ?_
                                    refine g_Vi C [.int (nI i), .int 0] 0 6 (by omega) hX.1 rfl (c_X6_anchorOf l D kc N adr cell σ hn hi L ch (nI i) 0 hX hI.1 hN) (cwV 2 C.2.2.2.2.1 gL_holds_X6_anchorOf rfl rfl rfl (by decide +kernel) ⟨Nat.le_of_ble_eq_true rfl, Nat.le_of_ble_eq_true rfl⟩) rfl rfl (Nat.le_of_ble_eq_true rfl) (Nat.zero_le _) (Nat.zero_le _) dL_holds_365 (fun v35 cell35 q35 => ?_)
                                    obtain ⟨rfl, rfl⟩ := q35
                                    refine g_eqst (st1 := ([.int (σ.2.2.2.2.2.2.2.1 i)] : List Value)) (by rw [anc_0 him hm]) ?_
                                    refine g_iload C 11 rfl dL_holds_368 ?_
                                    refine g_isub C dL_holds_370 ?_
                                    have ta_36 : ((σ.2.2.2.2.2.2.2.1 i) - (nI j)).toInt = (σ.2.2.2.2.2.2.2.1 i).toInt - (nI j).toInt := t_sub (by omega) (by omega)
                                    refine g_goto C 384 (by decide) dL_holds_371 ?_
                                    refine g_istore C [(12, .int ((σ.2.2.2.2.2.2.2.1 i) - (nI j))), (11, .int (aS σ i (nI j))), (0, .ref (adr 0)), (1, .int (nI (σ.1))), (2, .int xa2), (3, .int xf6), (4, .int 1), (5, .int (nI i)), (6, .int x6), (7, .int x7), (8, .int x8), (9, .int x9), (10, .int (nI j))] (by decide) rfl dL_holds_384 ?_
                                    refine g_iload C 9 rfl dL_holds_386 ?_
                                    refine g_aload_n C 2 rfl dL_holds_388 ?_
                                    refine g_iload C 7 rfl dL_holds_389 ?_
                                    refine g_iconst C 0 (by decide) dL_holds_391 ?_
                                    refine g_Vi C [.int (nI i), .int 0] 0 6 (by omega) hX.1 rfl (c_X6_anchorOf l D kc N adr cell σ hn hi L ch (nI i) 0 hX hI.1 hN) (cwV 2 C.2.2.2.2.1 gL_holds_X6_anchorOf rfl rfl rfl (by decide +kernel) ⟨Nat.le_of_ble_eq_true rfl, Nat.le_of_ble_eq_true rfl⟩) rfl rfl (Nat.le_of_ble_eq_true rfl) (Nat.zero_le _) (Nat.zero_le _) dL_holds_392 (fun v37 cell37 q37 => ?_)
                                    obtain ⟨rfl, rfl⟩ := q37
                                    refine g_eqst (st1 := ([.int (σ.2.2.2.2.2.2.2.1 i), .int x7] : List Value)) (by rw [anc_0 him hm]) ?_
                                    refine g_icmp_ge C 411 (by decide) dL_holds_395 (fun c395 => ?_) (fun c395 => ?_)
                                    · -- taken at 395
                                      have c395' := i_le c395
                                      refine g_iload C 9 rfl dL_holds_411 ?_
                                      refine g_aload_n C 2 rfl dL_holds_413 ?_
                                      refine g_iload C 7 rfl dL_holds_414 ?_
                                      refine g_iconst C 0 (by decide) dL_holds_416 ?_
                                      refine g_Vi C [.int (nI i), .int 0] 0 6 (by omega) hX.1 rfl (c_X6_anchorOf l D kc N adr cell σ hn hi L ch (nI i) 0 hX hI.1 hN) (cwV 2 C.2.2.2.2.1 gL_holds_X6_anchorOf rfl rfl rfl (by decide +kernel) ⟨Nat.le_of_ble_eq_true rfl, Nat.le_of_ble_eq_true rfl⟩) rfl rfl (Nat.le_of_ble_eq_true rfl) (Nat.zero_le _) (Nat.zero_le _) dL_holds_417 (fun v38 cell38 q38 => ?_)
                                      obtain ⟨rfl, rfl⟩ := q38
                                      refine g_eqst (st1 := ([.int (σ.2.2.2.2.2.2.2.1 i), .int x7] : List Value)) (by rw [anc_0 him hm]) ?_
                                      refine g_isub C dL_holds_420 ?_
                                      have ta_39 : (x7 - (σ.2.2.2.2.2.2.2.1 i)).toInt = x7.toInt - (σ.2.2.2.2.2.2.2.1 i).toInt := t_sub (by omega) (by omega)
                                      refine g_istore C [(13, .int (x7 - (σ.2.2.2.2.2.2.2.1 i))), (12, .int ((σ.2.2.2.2.2.2.2.1 i) - (nI j))), (11, .int (aS σ i (nI j))), (0, .ref (adr 0)), (1, .int (nI (σ.1))), (2, .int xa2), (3, .int xf6), (4, .int 1), (5, .int (nI i)), (6, .int x6), (7, .int x7), (8, .int x8), (9, .int x9), (10, .int (nI j))] (by decide) rfl dL_holds_421 ?_
                                      refine g_iload C 2 rfl dL_holds_423 ?_
                                      refine g_iload C 11 rfl dL_holds_425 ?_
                                      refine g_icmp_lt C 458 (by decide) dL_holds_427 (fun c427 => ?_) (fun c427 => ?_)
                                      · -- taken at 427
                                        have c427' := i_lt c427
                                        refine g_iconst C 1 (by decide) dL_holds_458 ?_
                                        refine g_goto C 463 (by decide) dL_holds_459 ?_
                                        refine g_istore C [(4, .int 1), (13, .int (x7 - (σ.2.2.2.2.2.2.2.1 i))), (12, .int ((σ.2.2.2.2.2.2.2.1 i) - (nI j))), (11, .int (aS σ i (nI j))), (0, .ref (adr 0)), (1, .int (nI (σ.1))), (2, .int xa2), (3, .int xf6), (5, .int (nI i)), (6, .int x6), (7, .int x7), (8, .int x8), (9, .int x9), (10, .int (nI j))] (by decide) rfl dL_holds_463 ?_
                                        refine g_iinc C 13 [(10, .int (nI (j + 1))), (4, .int 1), (13, .int (x7 - (σ.2.2.2.2.2.2.2.1 i))), (12, .int ((σ.2.2.2.2.2.2.2.1 i) - (nI j))), (11, .int (aS σ i (nI j))), (0, .ref (adr 0)), (1, .int (nI (σ.1))), (2, .int xa2), (3, .int xf6), (5, .int (nI i)), (6, .int x6), (7, .int x7), (8, .int x8), (9, .int x9)] rfl (iinc_nI j) (by decide) rfl dL_holds_465 ?_
                                        refine g_goto C 328 (by decide) dL_holds_468 ?_
                                        refine g_sub [5, 6, 7, 8, 1, 9, 10, 11, 12, 13, 0] rfl ?_
                                        exact ih328 (j + 1) (by omega) (by omega) 
                                      · -- not taken at 427
                                        have c427' := i_nlt c427
                                        refine g_iload C 2 rfl dL_holds_430 ?_
                                        refine g_iload C 11 rfl dL_holds_432 ?_
                                        refine g_icmp_ne C 462 (by decide) dL_holds_434 (fun c434 => ?_) (fun c434 => ?_)
                                        · -- taken at 434
                                          have c434' := i_ne c434
                                          exfalso; omega --done
                                        · -- not taken at 434
                                          have c434' := i_eq c434
                                          refine g_iload C 1 rfl dL_holds_437 ?_
                                          refine g_iload C 0 rfl dL_holds_439 ?_
                                          refine g_icmp_gt C 458 (by decide) dL_holds_441 (fun c441 => ?_) (fun c441 => ?_)
                                          · -- taken at 441
                                            have c441' := i_lt c441
                                            refine g_iconst C 1 (by decide) dL_holds_458 ?_
                                            refine g_goto C 463 (by decide) dL_holds_459 ?_
                                            refine g_istore C [(4, .int 1), (13, .int (x7 - (σ.2.2.2.2.2.2.2.1 i))), (12, .int ((σ.2.2.2.2.2.2.2.1 i) - (nI j))), (11, .int (aS σ i (nI j))), (0, .ref (adr 0)), (1, .int (nI (σ.1))), (2, .int xa2), (3, .int xf6), (5, .int (nI i)), (6, .int x6), (7, .int x7), (8, .int x8), (9, .int x9), (10, .int (nI j))] (by decide) rfl dL_holds_463 ?_
                                            refine g_iinc C 13 [(10, .int (nI (j + 1))), (4, .int 1), (13, .int (x7 - (σ.2.2.2.2.2.2.2.1 i))), (12, .int ((σ.2.2.2.2.2.2.2.1 i) - (nI j))), (11, .int (aS σ i (nI j))), (0, .ref (adr 0)), (1, .int (nI (σ.1))), (2, .int xa2), (3, .int xf6), (5, .int (nI i)), (6, .int x6), (7, .int x7), (8, .int x8), (9, .int x9)] rfl (iinc_nI j) (by decide) rfl dL_holds_465 ?_
                                            refine g_goto C 328 (by decide) dL_holds_468 ?_
                                            refine g_sub [5, 6, 7, 8, 1, 9, 10, 11, 12, 13, 0] rfl ?_
                                            exact ih328 (j + 1) (by omega) (by omega) 
                                          · -- not taken at 441
                                            have c441' := i_nlt c441
                                            refine g_iload C 1 rfl dL_holds_444 ?_
                                            refine g_iload C 0 rfl dL_holds_446 ?_
                                            refine g_icmp_ne C 462 (by decide) dL_holds_448 (fun c448 => ?_) (fun c448 => ?_)
                                            · -- taken at 448
                                              have c448' := i_ne c448
                                              exfalso; omega --done
                                            · -- not taken at 448
                                              have c448' := i_eq c448
                                              refine g_iload C 13 rfl dL_holds_451 ?_
                                              refine g_iload C 10 rfl dL_holds_453 ?_
                                              refine g_icmp_lt C 462 (by decide) dL_holds_455 (fun c455 => ?_) (fun c455 => ?_)
                                              · -- taken at 455
                                                have c455' := i_lt c455
                                                exfalso; omega --done
                                              · -- not taken at 455
                                                have c455' := i_nlt c455
                                                refine g_iconst C 1 (by decide) dL_holds_458 ?_
                                                refine g_goto C 463 (by decide) dL_holds_459 ?_
                                                refine g_istore C [(4, .int 1), (13, .int (x7 - (σ.2.2.2.2.2.2.2.1 i))), (12, .int ((σ.2.2.2.2.2.2.2.1 i) - (nI j))), (11, .int (aS σ i (nI j))), (0, .ref (adr 0)), (1, .int (nI (σ.1))), (2, .int xa2), (3, .int xf6), (5, .int (nI i)), (6, .int x6), (7, .int x7), (8, .int x8), (9, .int x9), (10, .int (nI j))] (by decide) rfl dL_holds_463 ?_
                                                refine g_iinc C 13 [(10, .int (nI (j + 1))), (4, .int 1), (13, .int (x7 - (σ.2.2.2.2.2.2.2.1 i))), (12, .int ((σ.2.2.2.2.2.2.2.1 i) - (nI j))), (11, .int (aS σ i (nI j))), (0, .ref (adr 0)), (1, .int (nI (σ.1))), (2, .int xa2), (3, .int xf6), (5, .int (nI i)), (6, .int x6), (7, .int x7), (8, .int x8), (9, .int x9)] rfl (iinc_nI j) (by decide) rfl dL_holds_465 ?_
                                                refine g_goto C 328 (by decide) dL_holds_468 ?_
                                                refine g_sub [5, 6, 7, 8, 1, 9, 10, 11, 12, 13, 0] rfl ?_
                                                exact ih328 (j + 1) (by omega) (by omega) 
                                    · -- not taken at 395
                                      have c395' := i_nle c395
                                      refine g_aload_n C 2 rfl dL_holds_398 ?_
                                      refine g_iload C 7 rfl dL_holds_399 ?_
                                      refine g_iconst C 0 (by decide) dL_holds_401 ?_
                                      refine g_Vi C [.int (nI i), .int 0] 0 6 (by omega) hX.1 rfl (c_X6_anchorOf l D kc N adr cell σ hn hi L ch (nI i) 0 hX hI.1 hN) (cwV 2 C.2.2.2.2.1 gL_holds_X6_anchorOf rfl rfl rfl (by decide +kernel) ⟨Nat.le_of_ble_eq_true rfl, Nat.le_of_ble_eq_true rfl⟩) rfl rfl (Nat.le_of_ble_eq_true rfl) (Nat.zero_le _) (Nat.zero_le _) dL_holds_402 (fun v40 cell40 q40 => ?_)
                                      obtain ⟨rfl, rfl⟩ := q40
                                      refine g_eqst (st1 := ([.int (σ.2.2.2.2.2.2.2.1 i)] : List Value)) (by rw [anc_0 him hm]) ?_
                                      refine g_iload C 9 rfl dL_holds_405 ?_
                                      refine g_isub C dL_holds_407 ?_
                                      have ta_41 : ((σ.2.2.2.2.2.2.2.1 i) - x7).toInt = (σ.2.2.2.2.2.2.2.1 i).toInt - x7.toInt := t_sub (by omega) (by omega)
                                      refine g_goto C 421 (by decide) dL_holds_408 ?_
                                      refine g_istore C [(13, .int ((σ.2.2.2.2.2.2.2.1 i) - x7)), (12, .int ((σ.2.2.2.2.2.2.2.1 i) - (nI j))), (11, .int (aS σ i (nI j))), (0, .ref (adr 0)), (1, .int (nI (σ.1))), (2, .int xa2), (3, .int xf6), (4, .int 1), (5, .int (nI i)), (6, .int x6), (7, .int x7), (8, .int x8), (9, .int x9), (10, .int (nI j))] (by decide) rfl dL_holds_421 ?_
                                      refine g_iload C 2 rfl dL_holds_423 ?_
                                      refine g_iload C 11 rfl dL_holds_425 ?_
                                      refine g_icmp_lt C 458 (by decide) dL_holds_427 (fun c427 => ?_) (fun c427 => ?_)
                                      · -- taken at 427
                                        have c427' := i_lt c427
                                        refine g_iconst C 1 (by decide) dL_holds_458 ?_
                                        refine g_goto C 463 (by decide) dL_holds_459 ?_
                                        refine g_istore C [(4, .int 1), (13, .int ((σ.2.2.2.2.2.2.2.1 i) - x7)), (12, .int ((σ.2.2.2.2.2.2.2.1 i) - (nI j))), (11, .int (aS σ i (nI j))), (0, .ref (adr 0)), (1, .int (nI (σ.1))), (2, .int xa2), (3, .int xf6), (5, .int (nI i)), (6, .int x6), (7, .int x7), (8, .int x8), (9, .int x9), (10, .int (nI j))] (by decide) rfl dL_holds_463 ?_
                                        refine g_iinc C 13 [(10, .int (nI (j + 1))), (4, .int 1), (13, .int ((σ.2.2.2.2.2.2.2.1 i) - x7)), (12, .int ((σ.2.2.2.2.2.2.2.1 i) - (nI j))), (11, .int (aS σ i (nI j))), (0, .ref (adr 0)), (1, .int (nI (σ.1))), (2, .int xa2), (3, .int xf6), (5, .int (nI i)), (6, .int x6), (7, .int x7), (8, .int x8), (9, .int x9)] rfl (iinc_nI j) (by decide) rfl dL_holds_465 ?_
                                        refine g_goto C 328 (by decide) dL_holds_468 ?_
                                        refine g_sub [5, 6, 7, 8, 1, 9, 10, 11, 12, 13, 0] rfl ?_
                                        exact ih328 (j + 1) (by omega) (by omega) 
                                      · -- not taken at 427
                                        have c427' := i_nlt c427
                                        refine g_iload C 2 rfl dL_holds_430 ?_
                                        refine g_iload C 11 rfl dL_holds_432 ?_
                                        refine g_icmp_ne C 462 (by decide) dL_holds_434 (fun c434 => ?_) (fun c434 => ?_)
                                        · -- taken at 434
                                          have c434' := i_ne c434
                                          exfalso; omega --done
                                        · -- not taken at 434
                                          have c434' := i_eq c434
                                          refine g_iload C 1 rfl dL_holds_437 ?_
                                          refine g_iload C 0 rfl dL_holds_439 ?_
                                          refine g_icmp_gt C 458 (by decide) dL_holds_441 (fun c441 => ?_) (fun c441 => ?_)
                                          · -- taken at 441
                                            have c441' := i_lt c441
                                            refine g_iconst C 1 (by decide) dL_holds_458 ?_
                                            refine g_goto C 463 (by decide) dL_holds_459 ?_
                                            refine g_istore C [(4, .int 1), (13, .int ((σ.2.2.2.2.2.2.2.1 i) - x7)), (12, .int ((σ.2.2.2.2.2.2.2.1 i) - (nI j))), (11, .int (aS σ i (nI j))), (0, .ref (adr 0)), (1, .int (nI (σ.1))), (2, .int xa2), (3, .int xf6), (5, .int (nI i)), (6, .int x6), (7, .int x7), (8, .int x8), (9, .int x9), (10, .int (nI j))] (by decide) rfl dL_holds_463 ?_
                                            refine g_iinc C 13 [(10, .int (nI (j + 1))), (4, .int 1), (13, .int ((σ.2.2.2.2.2.2.2.1 i) - x7)), (12, .int ((σ.2.2.2.2.2.2.2.1 i) - (nI j))), (11, .int (aS σ i (nI j))), (0, .ref (adr 0)), (1, .int (nI (σ.1))), (2, .int xa2), (3, .int xf6), (5, .int (nI i)), (6, .int x6), (7, .int x7), (8, .int x8), (9, .int x9)] rfl (iinc_nI j) (by decide) rfl dL_holds_465 ?_
                                            refine g_goto C 328 (by decide) dL_holds_468 ?_
                                            refine g_sub [5, 6, 7, 8, 1, 9, 10, 11, 12, 13, 0] rfl ?_
                                            exact ih328 (j + 1) (by omega) (by omega) 
                                          · -- not taken at 441
                                            have c441' := i_nlt c441
                                            refine g_iload C 1 rfl dL_holds_444 ?_
                                            refine g_iload C 0 rfl dL_holds_446 ?_
                                            refine g_icmp_ne C 462 (by decide) dL_holds_448 (fun c448 => ?_) (fun c448 => ?_)
                                            · -- taken at 448
                                              have c448' := i_ne c448
                                              exfalso; omega --done
                                            · -- not taken at 448
                                              have c448' := i_eq c448
                                              refine g_iload C 13 rfl dL_holds_451 ?_
                                              refine g_iload C 10 rfl dL_holds_453 ?_
                                              refine g_icmp_lt C 462 (by decide) dL_holds_455 (fun c455 => ?_) (fun c455 => ?_)
                                              · -- taken at 455
                                                have c455' := i_lt c455
                                                exfalso; omega --done
                                              · -- not taken at 455
                                                have c455' := i_nlt c455
                                                refine g_iconst C 1 (by decide) dL_holds_458 ?_
                                                refine g_goto C 463 (by decide) dL_holds_459 ?_
                                                refine g_istore C [(4, .int 1), (13, .int ((σ.2.2.2.2.2.2.2.1 i) - x7)), (12, .int ((σ.2.2.2.2.2.2.2.1 i) - (nI j))), (11, .int (aS σ i (nI j))), (0, .ref (adr 0)), (1, .int (nI (σ.1))), (2, .int xa2), (3, .int xf6), (5, .int (nI i)), (6, .int x6), (7, .int x7), (8, .int x8), (9, .int x9), (10, .int (nI j))] (by decide) rfl dL_holds_463 ?_
                                                refine g_iinc C 13 [(10, .int (nI (j + 1))), (4, .int 1), (13, .int ((σ.2.2.2.2.2.2.2.1 i) - x7)), (12, .int ((σ.2.2.2.2.2.2.2.1 i) - (nI j))), (11, .int (aS σ i (nI j))), (0, .ref (adr 0)), (1, .int (nI (σ.1))), (2, .int xa2), (3, .int xf6), (5, .int (nI i)), (6, .int x6), (7, .int x7), (8, .int x8), (9, .int x9)] rfl (iinc_nI j) (by decide) rfl dL_holds_465 ?_
                                                refine g_goto C 328 (by decide) dL_holds_468 ?_
                                                refine g_sub [5, 6, 7, 8, 1, 9, 10, 11, 12, 13, 0] rfl ?_
                                                exact ih328 (j + 1) (by omega) (by omega) 
                          refine g_sub [1, 2, 3, 4, 5, 6, 7, 8, 9, 10, 0] rfl ?_
                          exact L328 (σ.1 + 1) 0 (by omega) (by omega) 
                        refine g_iload_n C 5 rfl dL_holds_205 ?_
                        refine g_if_ne C 213 (by decide) dL_holds_206 (fun c206 => ?_) (fun c206 => ?_)
                        · -- taken at 206
                          have c206' := i_ne c206
                          refine g_iconst C 0 (by decide) dL_holds_213 ?_
                          refine g_iload C 2 rfl dL_holds_214 ?_
                          refine g_if_ge C 223 (by decide) dL_holds_216 (fun c216 => ?_) (fun c216 => ?_)
                          · -- taken at 216
                            have c216' := i_le c216
                            refine g_iconst C 0 (by decide) dL_holds_223 ?_
                            refine g_icmp_ne C 322 (by decide) dL_holds_224 (fun c224 => ?_) (fun c224 => ?_)
                            · -- taken at 224
                              have c224' := i_ne c224
                              exact False.elim (c224 rfl)
                            · -- not taken at 224
                              have c224' := i_eq c224
                              refine g_iload_n C 5 rfl dL_holds_227 ?_
                              refine g_iconst C 2 (by decide) dL_holds_228 ?_
                              refine g_icmp_ge C 236 (by decide) dL_holds_229 (fun c229 => ?_) (fun c229 => ?_)
                              · -- taken at 229
                                have c229' := i_le c229
                                refine g_iconst C 0 (by decide) dL_holds_236 ?_
                                refine g_iload C 0 rfl dL_holds_237 ?_
                                refine g_if_ge C 246 (by decide) dL_holds_239 (fun c239 => ?_) (fun c239 => ?_)
                                · -- taken at 239
                                  have c239' := i_le c239
                                  refine g_iconst C 0 (by decide) dL_holds_246 ?_
                                  refine g_icmp_ne C 322 (by decide) dL_holds_247 (fun c247 => ?_) (fun c247 => ?_)
                                  · -- taken at 247
                                    have c247' := i_ne c247
                                    exact False.elim (c247 rfl)
                                  · -- not taken at 247
                                    have c247' := i_eq c247
                                    refine g_iload C 3 rfl dL_holds_250 ?_
                                    refine g_if_lt C 277 (by decide) dL_holds_252 (fun c252 => ?_) (fun c252 => ?_)
                                    · -- taken at 252
                                      have c252' := i_lt c252
                                      refine g_iload C 1 rfl dL_holds_277 ?_
                                      refine g_iload_n C 7 rfl dL_holds_279 ?_
                                      refine g_icmp_gt C 322 (by decide) dL_holds_280 (fun c280 => ?_) (fun c280 => ?_)
                                      · -- taken at 280
                                        have c280' := i_lt c280
                                        exfalso; have h3 : (xf6).toInt = (fullF σ.2.2.2.2.2.2.1).toInt := i_eq hf3; omega
                                      · -- not taken at 280
                                        have c280' := i_nlt c280
                                        refine g_iload C 0 rfl dL_holds_283 ?_
                                        refine g_iload C 1 rfl dL_holds_285 ?_
                                        refine g_icmp_gt C 322 (by decide) dL_holds_287 (fun c287 => ?_) (fun c287 => ?_)
                                        · -- taken at 287
                                          have c287' := i_lt c287
                                          exfalso; omega
                                        · -- not taken at 287
                                          have c287' := i_nlt c287
                                          refine g_iload C 2 rfl dL_holds_290 ?_
                                          refine g_if_lt C 308 (by decide) dL_holds_292 (fun c292 => ?_) (fun c292 => ?_)
                                          · -- taken at 292
                                            have c292' := i_lt c292
                                            refine g_aload_n C 4 rfl dL_holds_308 ?_
                                            refine g_iload C 9 rfl dL_holds_309 ?_
                                            refine g_iconst C 4 (by decide) dL_holds_311 ?_
                                            refine g_Vi C [.int (nI i), .int 4] 0 6 (by omega) hX.1 rfl (c_X6_anchorOf l D kc N adr cell σ hn hi L ch (nI i) 4 hX hI.1 hN) (cwV 2 C.2.2.2.2.1 gL_holds_X6_anchorOf rfl rfl rfl (by decide +kernel) ⟨Nat.le_of_ble_eq_true rfl, Nat.le_of_ble_eq_true rfl⟩) rfl rfl (Nat.le_of_ble_eq_true rfl) (Nat.zero_le _) (Nat.zero_le _) dL_holds_312 (fun v42 cell42 q42 => ?_)
                                            obtain ⟨rfl, rfl⟩ := q42
                                            refine g_eqst (st1 := ([.int (σ.2.2.2.2.2.2.2.2.2 i 2)] : List Value)) (by rw [anc_4 hI him]) ?_
                                            refine g_if_lt C 322 (by decide) dL_holds_315 (fun c315 => ?_) (fun c315 => ?_)
                                            · -- taken at 315
                                              have c315' := i_lt c315
                                              exfalso; omega
                                            · -- not taken at 315
                                              have c315' := i_nlt c315
                                              refine g_iconst C 1 (by decide) dL_holds_318 ?_
                                              refine g_goto C 323 (by decide) dL_holds_319 ?_
                                              refine g_istore C [(4, .int 1), (9, .int x9), (8, .int x8), (7, .int x7), (6, .int x6), (0, .ref (adr 0)), (1, .int (nI (σ.1))), (2, .int xa2), (3, .int xf6), (5, .int (nI i))] (by decide) rfl dL_holds_323 ?_
                                              refine g_sub [5, 6, 7, 8, 0, 9, 4, 3, 2, 1] rfl ?_
                                              exact J325
                                          · -- not taken at 292
                                            have c292' := i_nlt c292
                                            refine g_aload_n C 4 rfl dL_holds_295 ?_
                                            refine g_iload C 9 rfl dL_holds_296 ?_
                                            refine g_iload C 2 rfl dL_holds_298 ?_
                                            refine g_Vi C [.int (nI i), .int x7] 0 6 (by omega) hX.1 rfl (c_X6_score l D kc N adr cell σ hn hi L ch (nI i) x7 hX hI.1 hN) (cwV 2 C.2.2.2.2.1 gL_holds_X6_score rfl rfl rfl (by decide +kernel) ⟨Nat.le_of_ble_eq_true rfl, Nat.le_of_ble_eq_true rfl⟩) rfl rfl (Nat.le_of_ble_eq_true rfl) (Nat.zero_le _) (Nat.zero_le _) dL_holds_300 (fun v43 cell43 q43 => ?_)
                                            obtain ⟨rfl, rfl⟩ := q43
                                            refine g_eqst (st1 := ([.int x8] : List Value)) (by rw [f5 (by omega)]) ?_
                                            refine g_iload C 1 rfl dL_holds_303 ?_
                                            refine g_icmp_ne C 322 (by decide) dL_holds_305 (fun c305 => ?_) (fun c305 => ?_)
                                            · -- taken at 305
                                              have c305' := i_ne c305
                                              exact False.elim (c305 rfl)
                                            · -- not taken at 305
                                              have c305' := i_eq c305
                                              refine g_aload_n C 4 rfl dL_holds_308 ?_
                                              refine g_iload C 9 rfl dL_holds_309 ?_
                                              refine g_iconst C 4 (by decide) dL_holds_311 ?_
                                              refine g_Vi C [.int (nI i), .int 4] 0 6 (by omega) hX.1 rfl (c_X6_anchorOf l D kc N adr cell σ hn hi L ch (nI i) 4 hX hI.1 hN) (cwV 2 C.2.2.2.2.1 gL_holds_X6_anchorOf rfl rfl rfl (by decide +kernel) ⟨Nat.le_of_ble_eq_true rfl, Nat.le_of_ble_eq_true rfl⟩) rfl rfl (Nat.le_of_ble_eq_true rfl) (Nat.zero_le _) (Nat.zero_le _) dL_holds_312 (fun v44 cell44 q44 => ?_)
                                              obtain ⟨rfl, rfl⟩ := q44
                                              refine g_eqst (st1 := ([.int (σ.2.2.2.2.2.2.2.2.2 i 2)] : List Value)) (by rw [anc_4 hI him]) ?_
                                              refine g_if_lt C 322 (by decide) dL_holds_315 (fun c315 => ?_) (fun c315 => ?_)
                                              · -- taken at 315
                                                have c315' := i_lt c315
                                                exfalso; omega
                                              · -- not taken at 315
                                                have c315' := i_nlt c315
                                                refine g_iconst C 1 (by decide) dL_holds_318 ?_
                                                refine g_goto C 323 (by decide) dL_holds_319 ?_
                                                refine g_istore C [(4, .int 1), (9, .int x9), (8, .int x8), (7, .int x7), (6, .int x6), (0, .ref (adr 0)), (1, .int (nI (σ.1))), (2, .int xa2), (3, .int xf6), (5, .int (nI i))] (by decide) rfl dL_holds_323 ?_
                                                refine g_sub [5, 6, 7, 8, 0, 9, 4, 3, 2, 1] rfl ?_
                                                exact J325
                                    · -- not taken at 252
                                      have c252' := i_nlt c252
                                      have hW6 : wordAtR σ x6 = σ.2.2.2.2.2.2.2.2.2 i 2 := (f1.resolve_left (by omega)).2
                                      refine g_iload C 3 rfl dL_holds_255 ?_
                                      refine g_iload_n C 5 rfl dL_holds_257 ?_
                                      refine g_icmp_ge C 322 (by decide) dL_holds_258 (fun c258 => ?_) (fun c258 => ?_)
                                      · -- taken at 258
                                        have c258' := i_le c258
                                        exfalso; omega
                                      · -- not taken at 258
                                        have c258' := i_nle c258
                                        refine g_aload_n C 4 rfl dL_holds_261 ?_
                                        refine g_iload C 3 rfl dL_holds_262 ?_
                                        refine g_Vi C [.int x6] 0 6 (by omega) hX.1 rfl (c_X6_wordAt l D kc N adr cell σ hn hi L ch x6 hX hI.1 hN) (cwV 1 C.2.2.2.2.1 gL_holds_X6_wordAt rfl rfl rfl (by decide +kernel) ⟨Nat.le_of_ble_eq_true rfl, Nat.le_of_ble_eq_true rfl⟩) rfl rfl (Nat.le_of_ble_eq_true rfl) (Nat.zero_le _) (Nat.zero_le _) dL_holds_264 (fun v45 cell45 q45 => ?_)
                                        obtain ⟨rfl, rfl⟩ := q45
                                        refine g_eqst (st1 := ([.int (σ.2.2.2.2.2.2.2.2.2 i 2)] : List Value)) (by rw [hW6]) ?_
                                        refine g_aload_n C 4 rfl dL_holds_267 ?_
                                        refine g_iload C 9 rfl dL_holds_268 ?_
                                        refine g_iconst C 4 (by decide) dL_holds_270 ?_
                                        refine g_Vi C [.int (nI i), .int 4] 0 6 (by omega) hX.1 rfl (c_X6_anchorOf l D kc N adr cell σ hn hi L ch (nI i) 4 hX hI.1 hN) (cwV 2 C.2.2.2.2.1 gL_holds_X6_anchorOf rfl rfl rfl (by decide +kernel) ⟨Nat.le_of_ble_eq_true rfl, Nat.le_of_ble_eq_true rfl⟩) rfl rfl (Nat.le_of_ble_eq_true rfl) (Nat.zero_le _) (Nat.zero_le _) dL_holds_271 (fun v46 cell46 q46 => ?_)
                                        obtain ⟨rfl, rfl⟩ := q46
                                        refine g_eqst (st1 := ([.int (σ.2.2.2.2.2.2.2.2.2 i 2), .int (σ.2.2.2.2.2.2.2.2.2 i 2)] : List Value)) (by rw [anc_4 hI him]) ?_
                                        refine g_icmp_ne C 322 (by decide) dL_holds_274 (fun c274 => ?_) (fun c274 => ?_)
                                        · -- taken at 274
                                          have c274' := i_ne c274
                                          exact False.elim (c274 rfl)
                                        · -- not taken at 274
                                          have c274' := i_eq c274
                                          refine g_iload C 1 rfl dL_holds_277 ?_
                                          refine g_iload_n C 7 rfl dL_holds_279 ?_
                                          refine g_icmp_gt C 322 (by decide) dL_holds_280 (fun c280 => ?_) (fun c280 => ?_)
                                          · -- taken at 280
                                            have c280' := i_lt c280
                                            exfalso; have h3 : (xf6).toInt = (fullF σ.2.2.2.2.2.2.1).toInt := i_eq hf3; omega
                                          · -- not taken at 280
                                            have c280' := i_nlt c280
                                            refine g_iload C 0 rfl dL_holds_283 ?_
                                            refine g_iload C 1 rfl dL_holds_285 ?_
                                            refine g_icmp_gt C 322 (by decide) dL_holds_287 (fun c287 => ?_) (fun c287 => ?_)
                                            · -- taken at 287
                                              have c287' := i_lt c287
                                              exfalso; omega
                                            · -- not taken at 287
                                              have c287' := i_nlt c287
                                              refine g_iload C 2 rfl dL_holds_290 ?_
                                              refine g_if_lt C 308 (by decide) dL_holds_292 (fun c292 => ?_) (fun c292 => ?_)
                                              · -- taken at 292
                                                have c292' := i_lt c292
                                                refine g_aload_n C 4 rfl dL_holds_308 ?_
                                                refine g_iload C 9 rfl dL_holds_309 ?_
                                                refine g_iconst C 4 (by decide) dL_holds_311 ?_
                                                refine g_Vi C [.int (nI i), .int 4] 0 6 (by omega) hX.1 rfl (c_X6_anchorOf l D kc N adr cell σ hn hi L ch (nI i) 4 hX hI.1 hN) (cwV 2 C.2.2.2.2.1 gL_holds_X6_anchorOf rfl rfl rfl (by decide +kernel) ⟨Nat.le_of_ble_eq_true rfl, Nat.le_of_ble_eq_true rfl⟩) rfl rfl (Nat.le_of_ble_eq_true rfl) (Nat.zero_le _) (Nat.zero_le _) dL_holds_312 (fun v47 cell47 q47 => ?_)
                                                obtain ⟨rfl, rfl⟩ := q47
                                                refine g_eqst (st1 := ([.int (σ.2.2.2.2.2.2.2.2.2 i 2)] : List Value)) (by rw [anc_4 hI him]) ?_
                                                refine g_if_lt C 322 (by decide) dL_holds_315 (fun c315 => ?_) (fun c315 => ?_)
                                                · -- taken at 315
                                                  have c315' := i_lt c315
                                                  exfalso; omega
                                                · -- not taken at 315
                                                  have c315' := i_nlt c315
                                                  refine g_iconst C 1 (by decide) dL_holds_318 ?_
                                                  refine g_goto C 323 (by decide) dL_holds_319 ?_
                                                  refine g_istore C [(4, .int 1), (9, .int x9), (8, .int x8), (7, .int x7), (6, .int x6), (0, .ref (adr 0)), (1, .int (nI (σ.1))), (2, .int xa2), (3, .int xf6), (5, .int (nI i))] (by decide) rfl dL_holds_323 ?_
                                                  refine g_sub [5, 6, 7, 8, 0, 9, 4, 3, 2, 1] rfl ?_
                                                  exact J325
                                              · -- not taken at 292
                                                have c292' := i_nlt c292
                                                refine g_aload_n C 4 rfl dL_holds_295 ?_
                                                refine g_iload C 9 rfl dL_holds_296 ?_
                                                refine g_iload C 2 rfl dL_holds_298 ?_
                                                refine g_Vi C [.int (nI i), .int x7] 0 6 (by omega) hX.1 rfl (c_X6_score l D kc N adr cell σ hn hi L ch (nI i) x7 hX hI.1 hN) (cwV 2 C.2.2.2.2.1 gL_holds_X6_score rfl rfl rfl (by decide +kernel) ⟨Nat.le_of_ble_eq_true rfl, Nat.le_of_ble_eq_true rfl⟩) rfl rfl (Nat.le_of_ble_eq_true rfl) (Nat.zero_le _) (Nat.zero_le _) dL_holds_300 (fun v48 cell48 q48 => ?_)
                                                obtain ⟨rfl, rfl⟩ := q48
                                                refine g_eqst (st1 := ([.int x8] : List Value)) (by rw [f5 (by omega)]) ?_
                                                refine g_iload C 1 rfl dL_holds_303 ?_
                                                refine g_icmp_ne C 322 (by decide) dL_holds_305 (fun c305 => ?_) (fun c305 => ?_)
                                                · -- taken at 305
                                                  have c305' := i_ne c305
                                                  exact False.elim (c305 rfl)
                                                · -- not taken at 305
                                                  have c305' := i_eq c305
                                                  refine g_aload_n C 4 rfl dL_holds_308 ?_
                                                  refine g_iload C 9 rfl dL_holds_309 ?_
                                                  refine g_iconst C 4 (by decide) dL_holds_311 ?_
                                                  refine g_Vi C [.int (nI i), .int 4] 0 6 (by omega) hX.1 rfl (c_X6_anchorOf l D kc N adr cell σ hn hi L ch (nI i) 4 hX hI.1 hN) (cwV 2 C.2.2.2.2.1 gL_holds_X6_anchorOf rfl rfl rfl (by decide +kernel) ⟨Nat.le_of_ble_eq_true rfl, Nat.le_of_ble_eq_true rfl⟩) rfl rfl (Nat.le_of_ble_eq_true rfl) (Nat.zero_le _) (Nat.zero_le _) dL_holds_312 (fun v49 cell49 q49 => ?_)
                                                  obtain ⟨rfl, rfl⟩ := q49
                                                  refine g_eqst (st1 := ([.int (σ.2.2.2.2.2.2.2.2.2 i 2)] : List Value)) (by rw [anc_4 hI him]) ?_
                                                  refine g_if_lt C 322 (by decide) dL_holds_315 (fun c315 => ?_) (fun c315 => ?_)
                                                  · -- taken at 315
                                                    have c315' := i_lt c315
                                                    exfalso; omega
                                                  · -- not taken at 315
                                                    have c315' := i_nlt c315
                                                    refine g_iconst C 1 (by decide) dL_holds_318 ?_
                                                    refine g_goto C 323 (by decide) dL_holds_319 ?_
                                                    refine g_istore C [(4, .int 1), (9, .int x9), (8, .int x8), (7, .int x7), (6, .int x6), (0, .ref (adr 0)), (1, .int (nI (σ.1))), (2, .int xa2), (3, .int xf6), (5, .int (nI i))] (by decide) rfl dL_holds_323 ?_
                                                    refine g_sub [5, 6, 7, 8, 0, 9, 4, 3, 2, 1] rfl ?_
                                                    exact J325
                                · -- not taken at 239
                                  have c239' := i_nle c239
                                  exfalso; omega --done
                              · -- not taken at 229
                                have c229' := i_nle c229
                                refine g_iconst C 1 (by decide) dL_holds_232 ?_
                                refine g_goto C 237 (by decide) dL_holds_233 ?_
                                refine g_iload C 0 rfl dL_holds_237 ?_
                                refine g_if_ge C 246 (by decide) dL_holds_239 (fun c239 => ?_) (fun c239 => ?_)
                                · -- taken at 239
                                  have c239' := i_le c239
                                  exfalso; omega --done
                                · -- not taken at 239
                                  have c239' := i_nle c239
                                  refine g_iconst C 1 (by decide) dL_holds_242 ?_
                                  refine g_goto C 247 (by decide) dL_holds_243 ?_
                                  refine g_icmp_ne C 322 (by decide) dL_holds_247 (fun c247 => ?_) (fun c247 => ?_)
                                  · -- taken at 247
                                    have c247' := i_ne c247
                                    exact False.elim (c247 rfl)
                                  · -- not taken at 247
                                    have c247' := i_eq c247
                                    refine g_iload C 3 rfl dL_holds_250 ?_
                                    refine g_if_lt C 277 (by decide) dL_holds_252 (fun c252 => ?_) (fun c252 => ?_)
                                    · -- taken at 252
                                      have c252' := i_lt c252
                                      refine g_iload C 1 rfl dL_holds_277 ?_
                                      refine g_iload_n C 7 rfl dL_holds_279 ?_
                                      refine g_icmp_gt C 322 (by decide) dL_holds_280 (fun c280 => ?_) (fun c280 => ?_)
                                      · -- taken at 280
                                        have c280' := i_lt c280
                                        exfalso; have h3 : (xf6).toInt = (fullF σ.2.2.2.2.2.2.1).toInt := i_eq hf3; omega
                                      · -- not taken at 280
                                        have c280' := i_nlt c280
                                        refine g_iload C 0 rfl dL_holds_283 ?_
                                        refine g_iload C 1 rfl dL_holds_285 ?_
                                        refine g_icmp_gt C 322 (by decide) dL_holds_287 (fun c287 => ?_) (fun c287 => ?_)
                                        · -- taken at 287
                                          have c287' := i_lt c287
                                          exfalso; omega
                                        · -- not taken at 287
                                          have c287' := i_nlt c287
                                          refine g_iload C 2 rfl dL_holds_290 ?_
                                          refine g_if_lt C 308 (by decide) dL_holds_292 (fun c292 => ?_) (fun c292 => ?_)
                                          · -- taken at 292
                                            have c292' := i_lt c292
                                            refine g_aload_n C 4 rfl dL_holds_308 ?_
                                            refine g_iload C 9 rfl dL_holds_309 ?_
                                            refine g_iconst C 4 (by decide) dL_holds_311 ?_
                                            refine g_Vi C [.int (nI i), .int 4] 0 6 (by omega) hX.1 rfl (c_X6_anchorOf l D kc N adr cell σ hn hi L ch (nI i) 4 hX hI.1 hN) (cwV 2 C.2.2.2.2.1 gL_holds_X6_anchorOf rfl rfl rfl (by decide +kernel) ⟨Nat.le_of_ble_eq_true rfl, Nat.le_of_ble_eq_true rfl⟩) rfl rfl (Nat.le_of_ble_eq_true rfl) (Nat.zero_le _) (Nat.zero_le _) dL_holds_312 (fun v50 cell50 q50 => ?_)
                                            obtain ⟨rfl, rfl⟩ := q50
                                            refine g_eqst (st1 := ([.int (σ.2.2.2.2.2.2.2.2.2 i 2)] : List Value)) (by rw [anc_4 hI him]) ?_
                                            refine g_if_lt C 322 (by decide) dL_holds_315 (fun c315 => ?_) (fun c315 => ?_)
                                            · -- taken at 315
                                              have c315' := i_lt c315
                                              exfalso; omega
                                            · -- not taken at 315
                                              have c315' := i_nlt c315
                                              refine g_iconst C 1 (by decide) dL_holds_318 ?_
                                              refine g_goto C 323 (by decide) dL_holds_319 ?_
                                              refine g_istore C [(4, .int 1), (9, .int x9), (8, .int x8), (7, .int x7), (6, .int x6), (0, .ref (adr 0)), (1, .int (nI (σ.1))), (2, .int xa2), (3, .int xf6), (5, .int (nI i))] (by decide) rfl dL_holds_323 ?_
                                              refine g_sub [5, 6, 7, 8, 0, 9, 4, 3, 2, 1] rfl ?_
                                              exact J325
                                          · -- not taken at 292
                                            have c292' := i_nlt c292
                                            refine g_aload_n C 4 rfl dL_holds_295 ?_
                                            refine g_iload C 9 rfl dL_holds_296 ?_
                                            refine g_iload C 2 rfl dL_holds_298 ?_
                                            refine g_Vi C [.int (nI i), .int x7] 0 6 (by omega) hX.1 rfl (c_X6_score l D kc N adr cell σ hn hi L ch (nI i) x7 hX hI.1 hN) (cwV 2 C.2.2.2.2.1 gL_holds_X6_score rfl rfl rfl (by decide +kernel) ⟨Nat.le_of_ble_eq_true rfl, Nat.le_of_ble_eq_true rfl⟩) rfl rfl (Nat.le_of_ble_eq_true rfl) (Nat.zero_le _) (Nat.zero_le _) dL_holds_300 (fun v51 cell51 q51 => ?_)
                                            obtain ⟨rfl, rfl⟩ := q51
                                            refine g_eqst (st1 := ([.int x8] : List Value)) (by rw [f5 (by omega)]) ?_
                                            refine g_iload C 1 rfl dL_holds_303 ?_
                                            refine g_icmp_ne C 322 (by decide) dL_holds_305 (fun c305 => ?_) (fun c305 => ?_)
                                            · -- taken at 305
                                              have c305' := i_ne c305
                                              exact False.elim (c305 rfl)
                                            · -- not taken at 305
                                              have c305' := i_eq c305
                                              refine g_aload_n C 4 rfl dL_holds_308 ?_
                                              refine g_iload C 9 rfl dL_holds_309 ?_
                                              refine g_iconst C 4 (by decide) dL_holds_311 ?_
                                              refine g_Vi C [.int (nI i), .int 4] 0 6 (by omega) hX.1 rfl (c_X6_anchorOf l D kc N adr cell σ hn hi L ch (nI i) 4 hX hI.1 hN) (cwV 2 C.2.2.2.2.1 gL_holds_X6_anchorOf rfl rfl rfl (by decide +kernel) ⟨Nat.le_of_ble_eq_true rfl, Nat.le_of_ble_eq_true rfl⟩) rfl rfl (Nat.le_of_ble_eq_true rfl) (Nat.zero_le _) (Nat.zero_le _) dL_holds_312 (fun v52 cell52 q52 => ?_)
                                              obtain ⟨rfl, rfl⟩ := q52
                                              refine g_eqst (st1 := ([.int (σ.2.2.2.2.2.2.2.2.2 i 2)] : List Value)) (by rw [anc_4 hI him]) ?_
                                              refine g_if_lt C 322 (by decide) dL_holds_315 (fun c315 => ?_) (fun c315 => ?_)
                                              · -- taken at 315
                                                have c315' := i_lt c315
                                                exfalso; omega
                                              · -- not taken at 315
                                                have c315' := i_nlt c315
                                                refine g_iconst C 1 (by decide) dL_holds_318 ?_
                                                refine g_goto C 323 (by decide) dL_holds_319 ?_
                                                refine g_istore C [(4, .int 1), (9, .int x9), (8, .int x8), (7, .int x7), (6, .int x6), (0, .ref (adr 0)), (1, .int (nI (σ.1))), (2, .int xa2), (3, .int xf6), (5, .int (nI i))] (by decide) rfl dL_holds_323 ?_
                                                refine g_sub [5, 6, 7, 8, 0, 9, 4, 3, 2, 1] rfl ?_
                                                exact J325
                                    · -- not taken at 252
                                      have c252' := i_nlt c252
                                      have hW6 : wordAtR σ x6 = σ.2.2.2.2.2.2.2.2.2 i 2 := (f1.resolve_left (by omega)).2
                                      refine g_iload C 3 rfl dL_holds_255 ?_
                                      refine g_iload_n C 5 rfl dL_holds_257 ?_
                                      refine g_icmp_ge C 322 (by decide) dL_holds_258 (fun c258 => ?_) (fun c258 => ?_)
                                      · -- taken at 258
                                        have c258' := i_le c258
                                        exfalso; omega
                                      · -- not taken at 258
                                        have c258' := i_nle c258
                                        refine g_aload_n C 4 rfl dL_holds_261 ?_
                                        refine g_iload C 3 rfl dL_holds_262 ?_
                                        refine g_Vi C [.int x6] 0 6 (by omega) hX.1 rfl (c_X6_wordAt l D kc N adr cell σ hn hi L ch x6 hX hI.1 hN) (cwV 1 C.2.2.2.2.1 gL_holds_X6_wordAt rfl rfl rfl (by decide +kernel) ⟨Nat.le_of_ble_eq_true rfl, Nat.le_of_ble_eq_true rfl⟩) rfl rfl (Nat.le_of_ble_eq_true rfl) (Nat.zero_le _) (Nat.zero_le _) dL_holds_264 (fun v53 cell53 q53 => ?_)
                                        obtain ⟨rfl, rfl⟩ := q53
                                        refine g_eqst (st1 := ([.int (σ.2.2.2.2.2.2.2.2.2 i 2)] : List Value)) (by rw [hW6]) ?_
                                        refine g_aload_n C 4 rfl dL_holds_267 ?_
                                        refine g_iload C 9 rfl dL_holds_268 ?_
                                        refine g_iconst C 4 (by decide) dL_holds_270 ?_
                                        refine g_Vi C [.int (nI i), .int 4] 0 6 (by omega) hX.1 rfl (c_X6_anchorOf l D kc N adr cell σ hn hi L ch (nI i) 4 hX hI.1 hN) (cwV 2 C.2.2.2.2.1 gL_holds_X6_anchorOf rfl rfl rfl (by decide +kernel) ⟨Nat.le_of_ble_eq_true rfl, Nat.le_of_ble_eq_true rfl⟩) rfl rfl (Nat.le_of_ble_eq_true rfl) (Nat.zero_le _) (Nat.zero_le _) dL_holds_271 (fun v54 cell54 q54 => ?_)
                                        obtain ⟨rfl, rfl⟩ := q54
                                        refine g_eqst (st1 := ([.int (σ.2.2.2.2.2.2.2.2.2 i 2), .int (σ.2.2.2.2.2.2.2.2.2 i 2)] : List Value)) (by rw [anc_4 hI him]) ?_
                                        refine g_icmp_ne C 322 (by decide) dL_holds_274 (fun c274 => ?_) (fun c274 => ?_)
                                        · -- taken at 274
                                          have c274' := i_ne c274
                                          exact False.elim (c274 rfl)
                                        · -- not taken at 274
                                          have c274' := i_eq c274
                                          refine g_iload C 1 rfl dL_holds_277 ?_
                                          refine g_iload_n C 7 rfl dL_holds_279 ?_
                                          refine g_icmp_gt C 322 (by decide) dL_holds_280 (fun c280 => ?_) (fun c280 => ?_)
                                          · -- taken at 280
                                            have c280' := i_lt c280
                                            exfalso; have h3 : (xf6).toInt = (fullF σ.2.2.2.2.2.2.1).toInt := i_eq hf3; omega
                                          · -- not taken at 280
                                            have c280' := i_nlt c280
                                            refine g_iload C 0 rfl dL_holds_283 ?_
                                            refine g_iload C 1 rfl dL_holds_285 ?_
                                            refine g_icmp_gt C 322 (by decide) dL_holds_287 (fun c287 => ?_) (fun c287 => ?_)
                                            · -- taken at 287
                                              have c287' := i_lt c287
                                              exfalso; omega
                                            · -- not taken at 287
                                              have c287' := i_nlt c287
                                              refine g_iload C 2 rfl dL_holds_290 ?_
                                              refine g_if_lt C 308 (by decide) dL_holds_292 (fun c292 => ?_) (fun c292 => ?_)
                                              · -- taken at 292
                                                have c292' := i_lt c292
                                                refine g_aload_n C 4 rfl dL_holds_308 ?_
                                                refine g_iload C 9 rfl dL_holds_309 ?_
                                                refine g_iconst C 4 (by decide) dL_holds_311 ?_
                                                refine g_Vi C [.int (nI i), .int 4] 0 6 (by omega) hX.1 rfl (c_X6_anchorOf l D kc N adr cell σ hn hi L ch (nI i) 4 hX hI.1 hN) (cwV 2 C.2.2.2.2.1 gL_holds_X6_anchorOf rfl rfl rfl (by decide +kernel) ⟨Nat.le_of_ble_eq_true rfl, Nat.le_of_ble_eq_true rfl⟩) rfl rfl (Nat.le_of_ble_eq_true rfl) (Nat.zero_le _) (Nat.zero_le _) dL_holds_312 (fun v55 cell55 q55 => ?_)
                                                obtain ⟨rfl, rfl⟩ := q55
                                                refine g_eqst (st1 := ([.int (σ.2.2.2.2.2.2.2.2.2 i 2)] : List Value)) (by rw [anc_4 hI him]) ?_
                                                refine g_if_lt C 322 (by decide) dL_holds_315 (fun c315 => ?_) (fun c315 => ?_)
                                                · -- taken at 315
                                                  have c315' := i_lt c315
                                                  exfalso; omega
                                                · -- not taken at 315
                                                  have c315' := i_nlt c315
                                                  refine g_iconst C 1 (by decide) dL_holds_318 ?_
                                                  refine g_goto C 323 (by decide) dL_holds_319 ?_
                                                  refine g_istore C [(4, .int 1), (9, .int x9), (8, .int x8), (7, .int x7), (6, .int x6), (0, .ref (adr 0)), (1, .int (nI (σ.1))), (2, .int xa2), (3, .int xf6), (5, .int (nI i))] (by decide) rfl dL_holds_323 ?_
                                                  refine g_sub [5, 6, 7, 8, 0, 9, 4, 3, 2, 1] rfl ?_
                                                  exact J325
                                              · -- not taken at 292
                                                have c292' := i_nlt c292
                                                refine g_aload_n C 4 rfl dL_holds_295 ?_
                                                refine g_iload C 9 rfl dL_holds_296 ?_
                                                refine g_iload C 2 rfl dL_holds_298 ?_
                                                refine g_Vi C [.int (nI i), .int x7] 0 6 (by omega) hX.1 rfl (c_X6_score l D kc N adr cell σ hn hi L ch (nI i) x7 hX hI.1 hN) (cwV 2 C.2.2.2.2.1 gL_holds_X6_score rfl rfl rfl (by decide +kernel) ⟨Nat.le_of_ble_eq_true rfl, Nat.le_of_ble_eq_true rfl⟩) rfl rfl (Nat.le_of_ble_eq_true rfl) (Nat.zero_le _) (Nat.zero_le _) dL_holds_300 (fun v56 cell56 q56 => ?_)
                                                obtain ⟨rfl, rfl⟩ := q56
                                                refine g_eqst (st1 := ([.int x8] : List Value)) (by rw [f5 (by omega)]) ?_
                                                refine g_iload C 1 rfl dL_holds_303 ?_
                                                refine g_icmp_ne C 322 (by decide) dL_holds_305 (fun c305 => ?_) (fun c305 => ?_)
                                                · -- taken at 305
                                                  have c305' := i_ne c305
                                                  exact False.elim (c305 rfl)
                                                · -- not taken at 305
                                                  have c305' := i_eq c305
                                                  refine g_aload_n C 4 rfl dL_holds_308 ?_
                                                  refine g_iload C 9 rfl dL_holds_309 ?_
                                                  refine g_iconst C 4 (by decide) dL_holds_311 ?_
                                                  refine g_Vi C [.int (nI i), .int 4] 0 6 (by omega) hX.1 rfl (c_X6_anchorOf l D kc N adr cell σ hn hi L ch (nI i) 4 hX hI.1 hN) (cwV 2 C.2.2.2.2.1 gL_holds_X6_anchorOf rfl rfl rfl (by decide +kernel) ⟨Nat.le_of_ble_eq_true rfl, Nat.le_of_ble_eq_true rfl⟩) rfl rfl (Nat.le_of_ble_eq_true rfl) (Nat.zero_le _) (Nat.zero_le _) dL_holds_312 (fun v57 cell57 q57 => ?_)
                                                  obtain ⟨rfl, rfl⟩ := q57
                                                  refine g_eqst (st1 := ([.int (σ.2.2.2.2.2.2.2.2.2 i 2)] : List Value)) (by rw [anc_4 hI him]) ?_
                                                  refine g_if_lt C 322 (by decide) dL_holds_315 (fun c315 => ?_) (fun c315 => ?_)
                                                  · -- taken at 315
                                                    have c315' := i_lt c315
                                                    exfalso; omega
                                                  · -- not taken at 315
                                                    have c315' := i_nlt c315
                                                    refine g_iconst C 1 (by decide) dL_holds_318 ?_
                                                    refine g_goto C 323 (by decide) dL_holds_319 ?_
                                                    refine g_istore C [(4, .int 1), (9, .int x9), (8, .int x8), (7, .int x7), (6, .int x6), (0, .ref (adr 0)), (1, .int (nI (σ.1))), (2, .int xa2), (3, .int xf6), (5, .int (nI i))] (by decide) rfl dL_holds_323 ?_
                                                    refine g_sub [5, 6, 7, 8, 0, 9, 4, 3, 2, 1] rfl ?_
                                                    exact J325
                          · -- not taken at 216
                            have c216' := i_nle c216
                            exfalso; omega --done
                        · -- not taken at 206
                          have c206' := i_eq c206
                          refine g_iconst C 1 (by decide) dL_holds_209 ?_
                          refine g_goto C 214 (by decide) dL_holds_210 ?_
                          refine g_iload C 2 rfl dL_holds_214 ?_
                          refine g_if_ge C 223 (by decide) dL_holds_216 (fun c216 => ?_) (fun c216 => ?_)
                          · -- taken at 216
                            have c216' := i_le c216
                            exfalso; omega --done
                          · -- not taken at 216
                            have c216' := i_nle c216
                            refine g_iconst C 1 (by decide) dL_holds_219 ?_
                            refine g_goto C 224 (by decide) dL_holds_220 ?_
                            refine g_icmp_ne C 322 (by decide) dL_holds_224 (fun c224 => ?_) (fun c224 => ?_)
                            · -- taken at 224
                              have c224' := i_ne c224
                              exact False.elim (c224 rfl)
                            · -- not taken at 224
                              have c224' := i_eq c224
                              refine g_iload_n C 5 rfl dL_holds_227 ?_
                              refine g_iconst C 2 (by decide) dL_holds_228 ?_
                              refine g_icmp_ge C 236 (by decide) dL_holds_229 (fun c229 => ?_) (fun c229 => ?_)
                              · -- taken at 229
                                have c229' := i_le c229
                                refine g_iconst C 0 (by decide) dL_holds_236 ?_
                                refine g_iload C 0 rfl dL_holds_237 ?_
                                refine g_if_ge C 246 (by decide) dL_holds_239 (fun c239 => ?_) (fun c239 => ?_)
                                · -- taken at 239
                                  have c239' := i_le c239
                                  refine g_iconst C 0 (by decide) dL_holds_246 ?_
                                  refine g_icmp_ne C 322 (by decide) dL_holds_247 (fun c247 => ?_) (fun c247 => ?_)
                                  · -- taken at 247
                                    have c247' := i_ne c247
                                    exact False.elim (c247 rfl)
                                  · -- not taken at 247
                                    have c247' := i_eq c247
                                    refine g_iload C 3 rfl dL_holds_250 ?_
                                    refine g_if_lt C 277 (by decide) dL_holds_252 (fun c252 => ?_) (fun c252 => ?_)
                                    · -- taken at 252
                                      have c252' := i_lt c252
                                      refine g_iload C 1 rfl dL_holds_277 ?_
                                      refine g_iload_n C 7 rfl dL_holds_279 ?_
                                      refine g_icmp_gt C 322 (by decide) dL_holds_280 (fun c280 => ?_) (fun c280 => ?_)
                                      · -- taken at 280
                                        have c280' := i_lt c280
                                        exfalso; have h3 : (xf6).toInt = (fullF σ.2.2.2.2.2.2.1).toInt := i_eq hf3; omega
                                      · -- not taken at 280
                                        have c280' := i_nlt c280
                                        refine g_iload C 0 rfl dL_holds_283 ?_
                                        refine g_iload C 1 rfl dL_holds_285 ?_
                                        refine g_icmp_gt C 322 (by decide) dL_holds_287 (fun c287 => ?_) (fun c287 => ?_)
                                        · -- taken at 287
                                          have c287' := i_lt c287
                                          exfalso; omega
                                        · -- not taken at 287
                                          have c287' := i_nlt c287
                                          refine g_iload C 2 rfl dL_holds_290 ?_
                                          refine g_if_lt C 308 (by decide) dL_holds_292 (fun c292 => ?_) (fun c292 => ?_)
                                          · -- taken at 292
                                            have c292' := i_lt c292
                                            refine g_aload_n C 4 rfl dL_holds_308 ?_
                                            refine g_iload C 9 rfl dL_holds_309 ?_
                                            refine g_iconst C 4 (by decide) dL_holds_311 ?_
                                            refine g_Vi C [.int (nI i), .int 4] 0 6 (by omega) hX.1 rfl (c_X6_anchorOf l D kc N adr cell σ hn hi L ch (nI i) 4 hX hI.1 hN) (cwV 2 C.2.2.2.2.1 gL_holds_X6_anchorOf rfl rfl rfl (by decide +kernel) ⟨Nat.le_of_ble_eq_true rfl, Nat.le_of_ble_eq_true rfl⟩) rfl rfl (Nat.le_of_ble_eq_true rfl) (Nat.zero_le _) (Nat.zero_le _) dL_holds_312 (fun v58 cell58 q58 => ?_)
                                            obtain ⟨rfl, rfl⟩ := q58
                                            refine g_eqst (st1 := ([.int (σ.2.2.2.2.2.2.2.2.2 i 2)] : List Value)) (by rw [anc_4 hI him]) ?_
                                            refine g_if_lt C 322 (by decide) dL_holds_315 (fun c315 => ?_) (fun c315 => ?_)
                                            · -- taken at 315
                                              have c315' := i_lt c315
                                              exfalso; omega
                                            · -- not taken at 315
                                              have c315' := i_nlt c315
                                              refine g_iconst C 1 (by decide) dL_holds_318 ?_
                                              refine g_goto C 323 (by decide) dL_holds_319 ?_
                                              refine g_istore C [(4, .int 1), (9, .int x9), (8, .int x8), (7, .int x7), (6, .int x6), (0, .ref (adr 0)), (1, .int (nI (σ.1))), (2, .int xa2), (3, .int xf6), (5, .int (nI i))] (by decide) rfl dL_holds_323 ?_
                                              refine g_sub [5, 6, 7, 8, 0, 9, 4, 3, 2, 1] rfl ?_
                                              exact J325
                                          · -- not taken at 292
                                            have c292' := i_nlt c292
                                            refine g_aload_n C 4 rfl dL_holds_295 ?_
                                            refine g_iload C 9 rfl dL_holds_296 ?_
                                            refine g_iload C 2 rfl dL_holds_298 ?_
                                            refine g_Vi C [.int (nI i), .int x7] 0 6 (by omega) hX.1 rfl (c_X6_score l D kc N adr cell σ hn hi L ch (nI i) x7 hX hI.1 hN) (cwV 2 C.2.2.2.2.1 gL_holds_X6_score rfl rfl rfl (by decide +kernel) ⟨Nat.le_of_ble_eq_true rfl, Nat.le_of_ble_eq_true rfl⟩) rfl rfl (Nat.le_of_ble_eq_true rfl) (Nat.zero_le _) (Nat.zero_le _) dL_holds_300 (fun v59 cell59 q59 => ?_)
                                            obtain ⟨rfl, rfl⟩ := q59
                                            refine g_eqst (st1 := ([.int x8] : List Value)) (by rw [f5 (by omega)]) ?_
                                            refine g_iload C 1 rfl dL_holds_303 ?_
                                            refine g_icmp_ne C 322 (by decide) dL_holds_305 (fun c305 => ?_) (fun c305 => ?_)
                                            · -- taken at 305
                                              have c305' := i_ne c305
                                              exact False.elim (c305 rfl)
                                            · -- not taken at 305
                                              have c305' := i_eq c305
                                              refine g_aload_n C 4 rfl dL_holds_308 ?_
                                              refine g_iload C 9 rfl dL_holds_309 ?_
                                              refine g_iconst C 4 (by decide) dL_holds_311 ?_
                                              refine g_Vi C [.int (nI i), .int 4] 0 6 (by omega) hX.1 rfl (c_X6_anchorOf l D kc N adr cell σ hn hi L ch (nI i) 4 hX hI.1 hN) (cwV 2 C.2.2.2.2.1 gL_holds_X6_anchorOf rfl rfl rfl (by decide +kernel) ⟨Nat.le_of_ble_eq_true rfl, Nat.le_of_ble_eq_true rfl⟩) rfl rfl (Nat.le_of_ble_eq_true rfl) (Nat.zero_le _) (Nat.zero_le _) dL_holds_312 (fun v60 cell60 q60 => ?_)
                                              obtain ⟨rfl, rfl⟩ := q60
                                              refine g_eqst (st1 := ([.int (σ.2.2.2.2.2.2.2.2.2 i 2)] : List Value)) (by rw [anc_4 hI him]) ?_
                                              refine g_if_lt C 322 (by decide) dL_holds_315 (fun c315 => ?_) (fun c315 => ?_)
                                              · -- taken at 315
                                                have c315' := i_lt c315
                                                exfalso; omega
                                              · -- not taken at 315
                                                have c315' := i_nlt c315
                                                refine g_iconst C 1 (by decide) dL_holds_318 ?_
                                                refine g_goto C 323 (by decide) dL_holds_319 ?_
                                                refine g_istore C [(4, .int 1), (9, .int x9), (8, .int x8), (7, .int x7), (6, .int x6), (0, .ref (adr 0)), (1, .int (nI (σ.1))), (2, .int xa2), (3, .int xf6), (5, .int (nI i))] (by decide) rfl dL_holds_323 ?_
                                                refine g_sub [5, 6, 7, 8, 0, 9, 4, 3, 2, 1] rfl ?_
                                                exact J325
                                    · -- not taken at 252
                                      have c252' := i_nlt c252
                                      have hW6 : wordAtR σ x6 = σ.2.2.2.2.2.2.2.2.2 i 2 := (f1.resolve_left (by omega)).2
                                      refine g_iload C 3 rfl dL_holds_255 ?_
                                      refine g_iload_n C 5 rfl dL_holds_257 ?_
                                      refine g_icmp_ge C 322 (by decide) dL_holds_258 (fun c258 => ?_) (fun c258 => ?_)
                                      · -- taken at 258
                                        have c258' := i_le c258
                                        exfalso; omega
                                      · -- not taken at 258
                                        have c258' := i_nle c258
                                        refine g_aload_n C 4 rfl dL_holds_261 ?_
                                        refine g_iload C 3 rfl dL_holds_262 ?_
                                        refine g_Vi C [.int x6] 0 6 (by omega) hX.1 rfl (c_X6_wordAt l D kc N adr cell σ hn hi L ch x6 hX hI.1 hN) (cwV 1 C.2.2.2.2.1 gL_holds_X6_wordAt rfl rfl rfl (by decide +kernel) ⟨Nat.le_of_ble_eq_true rfl, Nat.le_of_ble_eq_true rfl⟩) rfl rfl (Nat.le_of_ble_eq_true rfl) (Nat.zero_le _) (Nat.zero_le _) dL_holds_264 (fun v61 cell61 q61 => ?_)
                                        obtain ⟨rfl, rfl⟩ := q61
                                        refine g_eqst (st1 := ([.int (σ.2.2.2.2.2.2.2.2.2 i 2)] : List Value)) (by rw [hW6]) ?_
                                        refine g_aload_n C 4 rfl dL_holds_267 ?_
                                        refine g_iload C 9 rfl dL_holds_268 ?_
                                        refine g_iconst C 4 (by decide) dL_holds_270 ?_
                                        refine g_Vi C [.int (nI i), .int 4] 0 6 (by omega) hX.1 rfl (c_X6_anchorOf l D kc N adr cell σ hn hi L ch (nI i) 4 hX hI.1 hN) (cwV 2 C.2.2.2.2.1 gL_holds_X6_anchorOf rfl rfl rfl (by decide +kernel) ⟨Nat.le_of_ble_eq_true rfl, Nat.le_of_ble_eq_true rfl⟩) rfl rfl (Nat.le_of_ble_eq_true rfl) (Nat.zero_le _) (Nat.zero_le _) dL_holds_271 (fun v62 cell62 q62 => ?_)
                                        obtain ⟨rfl, rfl⟩ := q62
                                        refine g_eqst (st1 := ([.int (σ.2.2.2.2.2.2.2.2.2 i 2), .int (σ.2.2.2.2.2.2.2.2.2 i 2)] : List Value)) (by rw [anc_4 hI him]) ?_
                                        refine g_icmp_ne C 322 (by decide) dL_holds_274 (fun c274 => ?_) (fun c274 => ?_)
                                        · -- taken at 274
                                          have c274' := i_ne c274
                                          exact False.elim (c274 rfl)
                                        · -- not taken at 274
                                          have c274' := i_eq c274
                                          refine g_iload C 1 rfl dL_holds_277 ?_
                                          refine g_iload_n C 7 rfl dL_holds_279 ?_
                                          refine g_icmp_gt C 322 (by decide) dL_holds_280 (fun c280 => ?_) (fun c280 => ?_)
                                          · -- taken at 280
                                            have c280' := i_lt c280
                                            exfalso; have h3 : (xf6).toInt = (fullF σ.2.2.2.2.2.2.1).toInt := i_eq hf3; omega
                                          · -- not taken at 280
                                            have c280' := i_nlt c280
                                            refine g_iload C 0 rfl dL_holds_283 ?_
                                            refine g_iload C 1 rfl dL_holds_285 ?_
                                            refine g_icmp_gt C 322 (by decide) dL_holds_287 (fun c287 => ?_) (fun c287 => ?_)
                                            · -- taken at 287
                                              have c287' := i_lt c287
                                              exfalso; omega
                                            · -- not taken at 287
                                              have c287' := i_nlt c287
                                              refine g_iload C 2 rfl dL_holds_290 ?_
                                              refine g_if_lt C 308 (by decide) dL_holds_292 (fun c292 => ?_) (fun c292 => ?_)
                                              · -- taken at 292
                                                have c292' := i_lt c292
                                                refine g_aload_n C 4 rfl dL_holds_308 ?_
                                                refine g_iload C 9 rfl dL_holds_309 ?_
                                                refine g_iconst C 4 (by decide) dL_holds_311 ?_
                                                refine g_Vi C [.int (nI i), .int 4] 0 6 (by omega) hX.1 rfl (c_X6_anchorOf l D kc N adr cell σ hn hi L ch (nI i) 4 hX hI.1 hN) (cwV 2 C.2.2.2.2.1 gL_holds_X6_anchorOf rfl rfl rfl (by decide +kernel) ⟨Nat.le_of_ble_eq_true rfl, Nat.le_of_ble_eq_true rfl⟩) rfl rfl (Nat.le_of_ble_eq_true rfl) (Nat.zero_le _) (Nat.zero_le _) dL_holds_312 (fun v63 cell63 q63 => ?_)
                                                obtain ⟨rfl, rfl⟩ := q63
                                                refine g_eqst (st1 := ([.int (σ.2.2.2.2.2.2.2.2.2 i 2)] : List Value)) (by rw [anc_4 hI him]) ?_
                                                refine g_if_lt C 322 (by decide) dL_holds_315 (fun c315 => ?_) (fun c315 => ?_)
                                                · -- taken at 315
                                                  have c315' := i_lt c315
                                                  exfalso; omega
                                                · -- not taken at 315
                                                  have c315' := i_nlt c315
                                                  refine g_iconst C 1 (by decide) dL_holds_318 ?_
                                                  refine g_goto C 323 (by decide) dL_holds_319 ?_
                                                  refine g_istore C [(4, .int 1), (9, .int x9), (8, .int x8), (7, .int x7), (6, .int x6), (0, .ref (adr 0)), (1, .int (nI (σ.1))), (2, .int xa2), (3, .int xf6), (5, .int (nI i))] (by decide) rfl dL_holds_323 ?_
                                                  refine g_sub [5, 6, 7, 8, 0, 9, 4, 3, 2, 1] rfl ?_
                                                  exact J325
                                              · -- not taken at 292
                                                have c292' := i_nlt c292
                                                refine g_aload_n C 4 rfl dL_holds_295 ?_
                                                refine g_iload C 9 rfl dL_holds_296 ?_
                                                refine g_iload C 2 rfl dL_holds_298 ?_
                                                refine g_Vi C [.int (nI i), .int x7] 0 6 (by omega) hX.1 rfl (c_X6_score l D kc N adr cell σ hn hi L ch (nI i) x7 hX hI.1 hN) (cwV 2 C.2.2.2.2.1 gL_holds_X6_score rfl rfl rfl (by decide +kernel) ⟨Nat.le_of_ble_eq_true rfl, Nat.le_of_ble_eq_true rfl⟩) rfl rfl (Nat.le_of_ble_eq_true rfl) (Nat.zero_le _) (Nat.zero_le _) dL_holds_300 (fun v64 cell64 q64 => ?_)
                                                obtain ⟨rfl, rfl⟩ := q64
                                                refine g_eqst (st1 := ([.int x8] : List Value)) (by rw [f5 (by omega)]) ?_
                                                refine g_iload C 1 rfl dL_holds_303 ?_
                                                refine g_icmp_ne C 322 (by decide) dL_holds_305 (fun c305 => ?_) (fun c305 => ?_)
                                                · -- taken at 305
                                                  have c305' := i_ne c305
                                                  exact False.elim (c305 rfl)
                                                · -- not taken at 305
                                                  have c305' := i_eq c305
                                                  refine g_aload_n C 4 rfl dL_holds_308 ?_
                                                  refine g_iload C 9 rfl dL_holds_309 ?_
                                                  refine g_iconst C 4 (by decide) dL_holds_311 ?_
                                                  refine g_Vi C [.int (nI i), .int 4] 0 6 (by omega) hX.1 rfl (c_X6_anchorOf l D kc N adr cell σ hn hi L ch (nI i) 4 hX hI.1 hN) (cwV 2 C.2.2.2.2.1 gL_holds_X6_anchorOf rfl rfl rfl (by decide +kernel) ⟨Nat.le_of_ble_eq_true rfl, Nat.le_of_ble_eq_true rfl⟩) rfl rfl (Nat.le_of_ble_eq_true rfl) (Nat.zero_le _) (Nat.zero_le _) dL_holds_312 (fun v65 cell65 q65 => ?_)
                                                  obtain ⟨rfl, rfl⟩ := q65
                                                  refine g_eqst (st1 := ([.int (σ.2.2.2.2.2.2.2.2.2 i 2)] : List Value)) (by rw [anc_4 hI him]) ?_
                                                  refine g_if_lt C 322 (by decide) dL_holds_315 (fun c315 => ?_) (fun c315 => ?_)
                                                  · -- taken at 315
                                                    have c315' := i_lt c315
                                                    exfalso; omega
                                                  · -- not taken at 315
                                                    have c315' := i_nlt c315
                                                    refine g_iconst C 1 (by decide) dL_holds_318 ?_
                                                    refine g_goto C 323 (by decide) dL_holds_319 ?_
                                                    refine g_istore C [(4, .int 1), (9, .int x9), (8, .int x8), (7, .int x7), (6, .int x6), (0, .ref (adr 0)), (1, .int (nI (σ.1))), (2, .int xa2), (3, .int xf6), (5, .int (nI i))] (by decide) rfl dL_holds_323 ?_
                                                    refine g_sub [5, 6, 7, 8, 0, 9, 4, 3, 2, 1] rfl ?_
                                                    exact J325
                                · -- not taken at 239
                                  have c239' := i_nle c239
                                  exfalso; omega --done
                              · -- not taken at 229
                                have c229' := i_nle c229
                                refine g_iconst C 1 (by decide) dL_holds_232 ?_
                                refine g_goto C 237 (by decide) dL_holds_233 ?_
                                refine g_iload C 0 rfl dL_holds_237 ?_
                                refine g_if_ge C 246 (by decide) dL_holds_239 (fun c239 => ?_) (fun c239 => ?_)
                                · -- taken at 239
                                  have c239' := i_le c239
                                  exfalso; omega --done
                                · -- not taken at 239
                                  have c239' := i_nle c239
                                  refine g_iconst C 1 (by decide) dL_holds_242 ?_
                                  refine g_goto C 247 (by decide) dL_holds_243 ?_
                                  refine g_icmp_ne C 322 (by decide) dL_holds_247 (fun c247 => ?_) (fun c247 => ?_)
                                  · -- taken at 247
                                    have c247' := i_ne c247
                                    exact False.elim (c247 rfl)
                                  · -- not taken at 247
                                    have c247' := i_eq c247
                                    refine g_iload C 3 rfl dL_holds_250 ?_
                                    refine g_if_lt C 277 (by decide) dL_holds_252 (fun c252 => ?_) (fun c252 => ?_)
                                    · -- taken at 252
                                      have c252' := i_lt c252
                                      refine g_iload C 1 rfl dL_holds_277 ?_
                                      refine g_iload_n C 7 rfl dL_holds_279 ?_
                                      refine g_icmp_gt C 322 (by decide) dL_holds_280 (fun c280 => ?_) (fun c280 => ?_)
                                      · -- taken at 280
                                        have c280' := i_lt c280
                                        exfalso; have h3 : (xf6).toInt = (fullF σ.2.2.2.2.2.2.1).toInt := i_eq hf3; omega
                                      · -- not taken at 280
                                        have c280' := i_nlt c280
                                        refine g_iload C 0 rfl dL_holds_283 ?_
                                        refine g_iload C 1 rfl dL_holds_285 ?_
                                        refine g_icmp_gt C 322 (by decide) dL_holds_287 (fun c287 => ?_) (fun c287 => ?_)
                                        · -- taken at 287
                                          have c287' := i_lt c287
                                          exfalso; omega
                                        · -- not taken at 287
                                          have c287' := i_nlt c287
                                          refine g_iload C 2 rfl dL_holds_290 ?_
                                          refine g_if_lt C 308 (by decide) dL_holds_292 (fun c292 => ?_) (fun c292 => ?_)
                                          · -- taken at 292
                                            have c292' := i_lt c292
                                            refine g_aload_n C 4 rfl dL_holds_308 ?_
                                            refine g_iload C 9 rfl dL_holds_309 ?_
                                            refine g_iconst C 4 (by decide) dL_holds_311 ?_
                                            refine g_Vi C [.int (nI i), .int 4] 0 6 (by omega) hX.1 rfl (c_X6_anchorOf l D kc N adr cell σ hn hi L ch (nI i) 4 hX hI.1 hN) (cwV 2 C.2.2.2.2.1 gL_holds_X6_anchorOf rfl rfl rfl (by decide +kernel) ⟨Nat.le_of_ble_eq_true rfl, Nat.le_of_ble_eq_true rfl⟩) rfl rfl (Nat.le_of_ble_eq_true rfl) (Nat.zero_le _) (Nat.zero_le _) dL_holds_312 (fun v66 cell66 q66 => ?_)
                                            obtain ⟨rfl, rfl⟩ := q66
                                            refine g_eqst (st1 := ([.int (σ.2.2.2.2.2.2.2.2.2 i 2)] : List Value)) (by rw [anc_4 hI him]) ?_
                                            refine g_if_lt C 322 (by decide) dL_holds_315 (fun c315 => ?_) (fun c315 => ?_)
                                            · -- taken at 315
                                              have c315' := i_lt c315
                                              exfalso; omega
                                            · -- not taken at 315
                                              have c315' := i_nlt c315
                                              refine g_iconst C 1 (by decide) dL_holds_318 ?_
                                              refine g_goto C 323 (by decide) dL_holds_319 ?_
                                              refine g_istore C [(4, .int 1), (9, .int x9), (8, .int x8), (7, .int x7), (6, .int x6), (0, .ref (adr 0)), (1, .int (nI (σ.1))), (2, .int xa2), (3, .int xf6), (5, .int (nI i))] (by decide) rfl dL_holds_323 ?_
                                              refine g_sub [5, 6, 7, 8, 0, 9, 4, 3, 2, 1] rfl ?_
                                              exact J325
                                          · -- not taken at 292
                                            have c292' := i_nlt c292
                                            refine g_aload_n C 4 rfl dL_holds_295 ?_
                                            refine g_iload C 9 rfl dL_holds_296 ?_
                                            refine g_iload C 2 rfl dL_holds_298 ?_
                                            refine g_Vi C [.int (nI i), .int x7] 0 6 (by omega) hX.1 rfl (c_X6_score l D kc N adr cell σ hn hi L ch (nI i) x7 hX hI.1 hN) (cwV 2 C.2.2.2.2.1 gL_holds_X6_score rfl rfl rfl (by decide +kernel) ⟨Nat.le_of_ble_eq_true rfl, Nat.le_of_ble_eq_true rfl⟩) rfl rfl (Nat.le_of_ble_eq_true rfl) (Nat.zero_le _) (Nat.zero_le _) dL_holds_300 (fun v67 cell67 q67 => ?_)
                                            obtain ⟨rfl, rfl⟩ := q67
                                            refine g_eqst (st1 := ([.int x8] : List Value)) (by rw [f5 (by omega)]) ?_
                                            refine g_iload C 1 rfl dL_holds_303 ?_
                                            refine g_icmp_ne C 322 (by decide) dL_holds_305 (fun c305 => ?_) (fun c305 => ?_)
                                            · -- taken at 305
                                              have c305' := i_ne c305
                                              exact False.elim (c305 rfl)
                                            · -- not taken at 305
                                              have c305' := i_eq c305
                                              refine g_aload_n C 4 rfl dL_holds_308 ?_
                                              refine g_iload C 9 rfl dL_holds_309 ?_
                                              refine g_iconst C 4 (by decide) dL_holds_311 ?_
                                              refine g_Vi C [.int (nI i), .int 4] 0 6 (by omega) hX.1 rfl (c_X6_anchorOf l D kc N adr cell σ hn hi L ch (nI i) 4 hX hI.1 hN) (cwV 2 C.2.2.2.2.1 gL_holds_X6_anchorOf rfl rfl rfl (by decide +kernel) ⟨Nat.le_of_ble_eq_true rfl, Nat.le_of_ble_eq_true rfl⟩) rfl rfl (Nat.le_of_ble_eq_true rfl) (Nat.zero_le _) (Nat.zero_le _) dL_holds_312 (fun v68 cell68 q68 => ?_)
                                              obtain ⟨rfl, rfl⟩ := q68
                                              refine g_eqst (st1 := ([.int (σ.2.2.2.2.2.2.2.2.2 i 2)] : List Value)) (by rw [anc_4 hI him]) ?_
                                              refine g_if_lt C 322 (by decide) dL_holds_315 (fun c315 => ?_) (fun c315 => ?_)
                                              · -- taken at 315
                                                have c315' := i_lt c315
                                                exfalso; omega
                                              · -- not taken at 315
                                                have c315' := i_nlt c315
                                                refine g_iconst C 1 (by decide) dL_holds_318 ?_
                                                refine g_goto C 323 (by decide) dL_holds_319 ?_
                                                refine g_istore C [(4, .int 1), (9, .int x9), (8, .int x8), (7, .int x7), (6, .int x6), (0, .ref (adr 0)), (1, .int (nI (σ.1))), (2, .int xa2), (3, .int xf6), (5, .int (nI i))] (by decide) rfl dL_holds_323 ?_
                                                refine g_sub [5, 6, 7, 8, 0, 9, 4, 3, 2, 1] rfl ?_
                                                exact J325
                                    · -- not taken at 252
                                      have c252' := i_nlt c252
                                      have hW6 : wordAtR σ x6 = σ.2.2.2.2.2.2.2.2.2 i 2 := (f1.resolve_left (by omega)).2
                                      refine g_iload C 3 rfl dL_holds_255 ?_
                                      refine g_iload_n C 5 rfl dL_holds_257 ?_
                                      refine g_icmp_ge C 322 (by decide) dL_holds_258 (fun c258 => ?_) (fun c258 => ?_)
                                      · -- taken at 258
                                        have c258' := i_le c258
                                        exfalso; omega
                                      · -- not taken at 258
                                        have c258' := i_nle c258
                                        refine g_aload_n C 4 rfl dL_holds_261 ?_
                                        refine g_iload C 3 rfl dL_holds_262 ?_
                                        refine g_Vi C [.int x6] 0 6 (by omega) hX.1 rfl (c_X6_wordAt l D kc N adr cell σ hn hi L ch x6 hX hI.1 hN) (cwV 1 C.2.2.2.2.1 gL_holds_X6_wordAt rfl rfl rfl (by decide +kernel) ⟨Nat.le_of_ble_eq_true rfl, Nat.le_of_ble_eq_true rfl⟩) rfl rfl (Nat.le_of_ble_eq_true rfl) (Nat.zero_le _) (Nat.zero_le _) dL_holds_264 (fun v69 cell69 q69 => ?_)
                                        obtain ⟨rfl, rfl⟩ := q69
                                        refine g_eqst (st1 := ([.int (σ.2.2.2.2.2.2.2.2.2 i 2)] : List Value)) (by rw [hW6]) ?_
                                        refine g_aload_n C 4 rfl dL_holds_267 ?_
                                        refine g_iload C 9 rfl dL_holds_268 ?_
                                        refine g_iconst C 4 (by decide) dL_holds_270 ?_
                                        refine g_Vi C [.int (nI i), .int 4] 0 6 (by omega) hX.1 rfl (c_X6_anchorOf l D kc N adr cell σ hn hi L ch (nI i) 4 hX hI.1 hN) (cwV 2 C.2.2.2.2.1 gL_holds_X6_anchorOf rfl rfl rfl (by decide +kernel) ⟨Nat.le_of_ble_eq_true rfl, Nat.le_of_ble_eq_true rfl⟩) rfl rfl (Nat.le_of_ble_eq_true rfl) (Nat.zero_le _) (Nat.zero_le _) dL_holds_271 (fun v70 cell70 q70 => ?_)
                                        obtain ⟨rfl, rfl⟩ := q70
                                        refine g_eqst (st1 := ([.int (σ.2.2.2.2.2.2.2.2.2 i 2), .int (σ.2.2.2.2.2.2.2.2.2 i 2)] : List Value)) (by rw [anc_4 hI him]) ?_
                                        refine g_icmp_ne C 322 (by decide) dL_holds_274 (fun c274 => ?_) (fun c274 => ?_)
                                        · -- taken at 274
                                          have c274' := i_ne c274
                                          exact False.elim (c274 rfl)
                                        · -- not taken at 274
                                          have c274' := i_eq c274
                                          refine g_iload C 1 rfl dL_holds_277 ?_
                                          refine g_iload_n C 7 rfl dL_holds_279 ?_
                                          refine g_icmp_gt C 322 (by decide) dL_holds_280 (fun c280 => ?_) (fun c280 => ?_)
                                          · -- taken at 280
                                            have c280' := i_lt c280
                                            exfalso; have h3 : (xf6).toInt = (fullF σ.2.2.2.2.2.2.1).toInt := i_eq hf3; omega
                                          · -- not taken at 280
                                            have c280' := i_nlt c280
                                            refine g_iload C 0 rfl dL_holds_283 ?_
                                            refine g_iload C 1 rfl dL_holds_285 ?_
                                            refine g_icmp_gt C 322 (by decide) dL_holds_287 (fun c287 => ?_) (fun c287 => ?_)
                                            · -- taken at 287
                                              have c287' := i_lt c287
                                              exfalso; omega
                                            · -- not taken at 287
                                              have c287' := i_nlt c287
                                              refine g_iload C 2 rfl dL_holds_290 ?_
                                              refine g_if_lt C 308 (by decide) dL_holds_292 (fun c292 => ?_) (fun c292 => ?_)
                                              · -- taken at 292
                                                have c292' := i_lt c292
                                                refine g_aload_n C 4 rfl dL_holds_308 ?_
                                                refine g_iload C 9 rfl dL_holds_309 ?_
                                                refine g_iconst C 4 (by decide) dL_holds_311 ?_
                                                refine g_Vi C [.int (nI i), .int 4] 0 6 (by omega) hX.1 rfl (c_X6_anchorOf l D kc N adr cell σ hn hi L ch (nI i) 4 hX hI.1 hN) (cwV 2 C.2.2.2.2.1 gL_holds_X6_anchorOf rfl rfl rfl (by decide +kernel) ⟨Nat.le_of_ble_eq_true rfl, Nat.le_of_ble_eq_true rfl⟩) rfl rfl (Nat.le_of_ble_eq_true rfl) (Nat.zero_le _) (Nat.zero_le _) dL_holds_312 (fun v71 cell71 q71 => ?_)
                                                obtain ⟨rfl, rfl⟩ := q71
                                                refine g_eqst (st1 := ([.int (σ.2.2.2.2.2.2.2.2.2 i 2)] : List Value)) (by rw [anc_4 hI him]) ?_
                                                refine g_if_lt C 322 (by decide) dL_holds_315 (fun c315 => ?_) (fun c315 => ?_)
                                                · -- taken at 315
                                                  have c315' := i_lt c315
                                                  exfalso; omega
                                                · -- not taken at 315
                                                  have c315' := i_nlt c315
                                                  refine g_iconst C 1 (by decide) dL_holds_318 ?_
                                                  refine g_goto C 323 (by decide) dL_holds_319 ?_
                                                  refine g_istore C [(4, .int 1), (9, .int x9), (8, .int x8), (7, .int x7), (6, .int x6), (0, .ref (adr 0)), (1, .int (nI (σ.1))), (2, .int xa2), (3, .int xf6), (5, .int (nI i))] (by decide) rfl dL_holds_323 ?_
                                                  refine g_sub [5, 6, 7, 8, 0, 9, 4, 3, 2, 1] rfl ?_
                                                  exact J325
                                              · -- not taken at 292
                                                have c292' := i_nlt c292
                                                refine g_aload_n C 4 rfl dL_holds_295 ?_
                                                refine g_iload C 9 rfl dL_holds_296 ?_
                                                refine g_iload C 2 rfl dL_holds_298 ?_
                                                refine g_Vi C [.int (nI i), .int x7] 0 6 (by omega) hX.1 rfl (c_X6_score l D kc N adr cell σ hn hi L ch (nI i) x7 hX hI.1 hN) (cwV 2 C.2.2.2.2.1 gL_holds_X6_score rfl rfl rfl (by decide +kernel) ⟨Nat.le_of_ble_eq_true rfl, Nat.le_of_ble_eq_true rfl⟩) rfl rfl (Nat.le_of_ble_eq_true rfl) (Nat.zero_le _) (Nat.zero_le _) dL_holds_300 (fun v72 cell72 q72 => ?_)
                                                obtain ⟨rfl, rfl⟩ := q72
                                                refine g_eqst (st1 := ([.int x8] : List Value)) (by rw [f5 (by omega)]) ?_
                                                refine g_iload C 1 rfl dL_holds_303 ?_
                                                refine g_icmp_ne C 322 (by decide) dL_holds_305 (fun c305 => ?_) (fun c305 => ?_)
                                                · -- taken at 305
                                                  have c305' := i_ne c305
                                                  exact False.elim (c305 rfl)
                                                · -- not taken at 305
                                                  have c305' := i_eq c305
                                                  refine g_aload_n C 4 rfl dL_holds_308 ?_
                                                  refine g_iload C 9 rfl dL_holds_309 ?_
                                                  refine g_iconst C 4 (by decide) dL_holds_311 ?_
                                                  refine g_Vi C [.int (nI i), .int 4] 0 6 (by omega) hX.1 rfl (c_X6_anchorOf l D kc N adr cell σ hn hi L ch (nI i) 4 hX hI.1 hN) (cwV 2 C.2.2.2.2.1 gL_holds_X6_anchorOf rfl rfl rfl (by decide +kernel) ⟨Nat.le_of_ble_eq_true rfl, Nat.le_of_ble_eq_true rfl⟩) rfl rfl (Nat.le_of_ble_eq_true rfl) (Nat.zero_le _) (Nat.zero_le _) dL_holds_312 (fun v73 cell73 q73 => ?_)
                                                  obtain ⟨rfl, rfl⟩ := q73
                                                  refine g_eqst (st1 := ([.int (σ.2.2.2.2.2.2.2.2.2 i 2)] : List Value)) (by rw [anc_4 hI him]) ?_
                                                  refine g_if_lt C 322 (by decide) dL_holds_315 (fun c315 => ?_) (fun c315 => ?_)
                                                  · -- taken at 315
                                                    have c315' := i_lt c315
                                                    exfalso; omega
                                                  · -- not taken at 315
                                                    have c315' := i_nlt c315
                                                    refine g_iconst C 1 (by decide) dL_holds_318 ?_
                                                    refine g_goto C 323 (by decide) dL_holds_319 ?_
                                                    refine g_istore C [(4, .int 1), (9, .int x9), (8, .int x8), (7, .int x7), (6, .int x6), (0, .ref (adr 0)), (1, .int (nI (σ.1))), (2, .int xa2), (3, .int xf6), (5, .int (nI i))] (by decide) rfl dL_holds_323 ?_
                                                    refine g_sub [5, 6, 7, 8, 0, 9, 4, 3, 2, 1] rfl ?_
                                                    exact J325
                refine g_sub [5, 4, 3, 2, 1, 0] rfl ?_
                exact L151 (σ.2.1 + 1) 0 (by omega) (by omega) 
