set_option maxRecDepth 100000 in
set_option maxHeartbeats 4000000 in
theorem c_L_acts (l : Launch) (D : va_G) (kc : Nat → ClassId) (N : Nat) (adr : Nat → Nat) (cell : Nat → va_E) (σ : SD) (hn : Nat) (hi : Nat → SD) (L : Nat) (ch : Nat → Int32) (a : Nat) (hX : XAt cell adr kc σ hn hi L ch) (hI : Inv σ) (hN : 125 ≤ N) (ha : a < 2 ^ 31) : MI l yL_acts wsL_acts ({ frames := 7, cells := 0, slots := 0, locals := 176 }) D kc N adr cell [.ref (adr 0), .int (nI a)] (fun (v : Int32) (cell1 : Nat → va_E) => 1 = v ∧ ∃ (σ1 : SD) (hn1 : Nat) (hi1 : Nat → SD), XAt cell1 adr kc σ1 hn1 hi1 L ch ∧ Inv σ1) := by
  refine met_i (cc := cL_acts) (maxL := 16) (ret := (some .boolean)) (by decide) rfl (Nat.le_of_ble_eq_true rfl) (lv := [(0, .ref (adr 0)), (1, .int (nI a))]) rfl ?_
  intro Pg Ev Sv Mi args below Me Cd Ar C hr hlk hnm
  have k34 := C.2.2.2.2.1 (.constant RL 34 (-1000003)) (by decide +kernel)
  have k38 := C.2.2.2.2.1 (.constant RL 38 (-1000001)) (by decide +kernel)
  have k58 := C.2.2.2.2.1 (.constant RL 58 (-1000004)) (by decide +kernel)
  have k62 := C.2.2.2.2.1 (.constant RL 62 (-1000002)) (by decide +kernel)
  have hm := hI.1.2.1
  have hnn := hI.1.1
  have litm1000004 : ((-1000004) : Int32).toInt = -1000004 := rfl
  have litm1000003 : ((-1000003) : Int32).toInt = -1000003 := rfl
  have litm1000002 : ((-1000002) : Int32).toInt = -1000002 := rfl
  have litm1000001 : ((-1000001) : Int32).toInt = -1000001 := rfl
  have litm1 : ((-1) : Int32).toInt = -1 := rfl
  have lit0 : (0 : Int32).toInt = 0 := rfl
  have lit1 : (1 : Int32).toInt = 1 := rfl
  have lit2 : (2 : Int32).toInt = 2 := rfl
  have lit5 : (5 : Int32).toInt = 5 := rfl
  have lit6 : (6 : Int32).toInt = 6 := rfl
  have lit7 : (7 : Int32).toInt = 7 := rfl
  have lit8 : (8 : Int32).toInt = 8 := rfl
  have lit20 : (20 : Int32).toInt = 20 := rfl
  have lit21 : (21 : Int32).toInt = 21 := rfl
  have lit22 : (22 : Int32).toInt = 22 := rfl
  have lit40 : (40 : Int32).toInt = 40 := rfl
  have lit64 : (64 : Int32).toInt = 64 := rfl
  have lit4096 : (4096 : Int32).toInt = 4096 := rfl
  have tn___1 : (nI σ.1).toInt = ((σ.1 : Nat) : Int) := nI_toInt (by omega)
  have tn___2_1 : (nI σ.2.1).toInt = ((σ.2.1 : Nat) : Int) := nI_toInt (by omega)
  have tn_a___8 : (nI (a % 8)).toInt = ((a % 8 : Nat) : Int) := nI_toInt (by omega)
  refine g_iload_n C 1 rfl dL_acts_0 ?_
  refine g_bipush C 8 (by decide) dL_acts_1 ?_
  refine g_idiv C (by decide) dL_acts_3 ?_
  refine g_eqst (st1 := ([.int (nI (a / 8))] : List Value)) (congrArg (fun z0 : Int32 => (([.int z0] : List Value))) (pk_div (a := a) (d := 8) (by omega) (by omega) (by omega))) ?_
  refine g_istore_n C [(2, .int (nI (a / 8))), (0, .ref (adr 0)), (1, .int (nI a))] (by decide) rfl dL_acts_4 ?_
  refine g_aload_n C 1 rfl dL_acts_5 ?_
  refine g_iconst C 0 (by decide) dL_acts_6 ?_
  refine g_Vi C [.int 0] 0 6 (by omega) hX.1 rfl (c_X6_count l D kc N adr cell σ hn hi L ch 0 hX hI.1 hN) (cwV 1 C.2.2.2.2.1 gL_acts_X6_count rfl rfl rfl (by decide +kernel) ⟨Nat.le_of_ble_eq_true rfl, Nat.le_of_ble_eq_true rfl⟩) rfl rfl (Nat.le_of_ble_eq_true rfl) (Nat.zero_le _) (Nat.zero_le _) dL_acts_7 (fun v1 cell1 q1 => ?_)
  obtain ⟨rfl, rfl⟩ := q1
  refine g_eqst (st1 := ([.int (nI (σ.1))] : List Value)) (by rw [show countR σ hn L 0 = nI (σ.1) from count_0]) ?_
  refine g_istore_n C [(3, .int (nI (σ.1))), (2, .int (nI (a / 8))), (0, .ref (adr 0)), (1, .int (nI a))] (by decide) rfl dL_acts_10 ?_
  refine g_aload_n C 2 rfl dL_acts_11 ?_
  refine g_iconst C 1 (by decide) dL_acts_12 ?_
  refine g_Vi C [.int 1] 0 6 (by omega) hX.1 rfl (c_X6_count l D kc N adr cell σ hn hi L ch 1 hX hI.1 hN) (cwV 1 C.2.2.2.2.1 gL_acts_X6_count rfl rfl rfl (by decide +kernel) ⟨Nat.le_of_ble_eq_true rfl, Nat.le_of_ble_eq_true rfl⟩) rfl rfl (Nat.le_of_ble_eq_true rfl) (Nat.zero_le _) (Nat.zero_le _) dL_acts_13 (fun v2 cell2 q2 => ?_)
  obtain ⟨rfl, rfl⟩ := q2
  refine g_eqst (st1 := ([.int (nI (σ.2.1))] : List Value)) (by rw [show countR σ hn L 1 = nI (σ.2.1) from count_1]) ?_
  refine g_istore C [(4, .int (nI (σ.2.1))), (3, .int (nI (σ.1))), (2, .int (nI (a / 8))), (0, .ref (adr 0)), (1, .int (nI a))] (by decide) rfl dL_acts_16 ?_
  refine g_iload_n C 4 rfl dL_acts_18 ?_
  refine g_bipush C 8 (by decide) dL_acts_19 ?_
  refine g_irem C (by decide) dL_acts_21 ?_
  refine g_eqst (st1 := ([.int (nI (a % 8))] : List Value)) (congrArg (fun z0 : Int32 => (([.int z0] : List Value))) (pk_rem (a := a) (d := 8) (by omega) (by omega) (by omega))) ?_
  have hy8 : a % 8 < 8 := Nat.mod_lt _ (by omega)
  by_cases c22_0 : (nI (a % 8)) = 0
  · have c22' := i_eq c22_0
    refine g_tableIn C 64 (by rw [c22_0]; decide) (by rw [c22_0]; decide) (by rw [c22_0] <;> rfl) (by decide) dL_acts_22 ?_
    refine g_iload_n C 2 rfl dL_acts_64 ?_
    refine g_bipush C 64 (by decide) dL_acts_65 ?_
    refine g_idiv C (by decide) dL_acts_67 ?_
    refine g_eqst (st1 := ([.int (nI ((a / 8) / 64))] : List Value)) (congrArg (fun z0 : Int32 => (([.int z0] : List Value))) (pk_div (a := (a / 8)) (d := 64) (by omega) (by omega) (by omega))) ?_
    refine g_bipush C 7 (by decide) dL_acts_68 ?_
    refine g_irem C (by decide) dL_acts_70 ?_
    refine g_eqst (st1 := ([.int (nI (((a / 8) / 64) % 7))] : List Value)) (congrArg (fun z0 : Int32 => (([.int z0] : List Value))) (pk_rem (a := ((a / 8) / 64)) (d := 7) (by omega) (by omega) (by omega))) ?_
    refine g_istore C [(5, .int (nI (((a / 8) / 64) % 7))), (4, .int (nI (σ.2.1))), (3, .int (nI (σ.1))), (2, .int (nI (a / 8))), (0, .ref (adr 0)), (1, .int (nI a))] (by decide) rfl dL_acts_71 ?_
    refine g_iload_n C 3 rfl dL_acts_73 ?_
    refine g_iload_n C 2 rfl dL_acts_74 ?_
    refine g_iconst C 1 (by decide) dL_acts_75 ?_
    refine g_iadd C dL_acts_76 ?_
    refine g_eqst (st1 := ([.int (nI (σ.1 + 1)), .int (nI (a / 8))] : List Value)) (congrArg (fun z0 : Int32 => (([.int z0, .int (nI (a / 8))] : List Value))) (mI_add (σ.1) 1)) ?_
    refine g_irem C (by intro hz9; have hz8 := i_eq hz9; have hz7 : (nI (σ.1 + 1)).toInt = ((σ.1 + 1 : Nat) : Int) := nI_toInt (by omega); omega) dL_acts_77 ?_
    refine g_eqst (st1 := ([.int (nI ((a / 8) % (σ.1 + 1)))] : List Value)) (congrArg (fun z0 : Int32 => (([.int z0] : List Value))) (pk_rem (a := (a / 8)) (d := (σ.1 + 1)) (by omega) (by omega) (by omega))) ?_
    refine g_istore C [(6, .int (nI ((a / 8) % (σ.1 + 1)))), (5, .int (nI (((a / 8) / 64) % 7))), (4, .int (nI (σ.2.1))), (3, .int (nI (σ.1))), (2, .int (nI (a / 8))), (0, .ref (adr 0)), (1, .int (nI a))] (by decide) rfl dL_acts_78 ?_
    have hpp : a / 8 % (σ.1 + 1) < σ.1 + 1 := Nat.mod_lt _ (by omega)
    refine g_iload_n C 3 rfl dL_acts_80 ?_
    refine g_bipush C 40 (by decide) dL_acts_81 ?_
    refine g_icmp_ne C 107 (by decide) dL_acts_83 (fun c83 => ?_) (fun c83 => ?_)
    · -- taken at 83
      have c83' := i_ne c83
      refine g_aload_n C 5 rfl dL_acts_107 ?_
      refine g_iload C 0 rfl dL_acts_108 ?_
      refine g_iload C 1 rfl dL_acts_110 ?_
      refine g_Vi C [.int (nI ((a / 8) % (σ.1 + 1))), .int (nI (((a / 8) / 64) % 7))] 0 6 (by omega) hX.1 rfl (c_X6_put l D kc N adr cell σ hn hi L ch (nI ((a / 8) % (σ.1 + 1))) (nI (((a / 8) / 64) % 7)) hX hI.1 hN) (cwV 2 C.2.2.2.2.1 gL_acts_X6_put rfl rfl rfl (by decide +kernel) ⟨Nat.le_of_ble_eq_true rfl, Nat.le_of_ble_eq_true rfl⟩) rfl rfl (Nat.le_of_ble_eq_true rfl) (Nat.zero_le _) (Nat.zero_le _) dL_acts_112 (fun v3 cell3 q3 => ?_)
      have hl_4 := put_ok (σ := σ) (w := nI (a / 8 / 64 % 7)) (q := (a / 8 % (σ.1 + 1))) (by omega) (by omega) ⟨by rw [nI_toInt (n := (a / 8 / 64 % 7)) (by omega)]; omega, by rw [nI_toInt (n := (a / 8 / 64 % 7)) (by omega)]; omega⟩
      obtain ⟨rfl, hx_4⟩ := q3
      rw [hl_4.2] at hx_4
      have hX_4 : XAt cell3 adr kc (insD (a / 8 % (σ.1 + 1)) (nI (a / 8 / 64 % 7)) σ) (rcN hn) (rcH hn hi σ) L ch := hx_4
      have hI_4 : Inv (insD (a / 8 % (σ.1 + 1)) (nI (a / 8 / 64 % 7)) σ) := inv_ins hI (by omega) (by omega) ⟨by rw [nI_toInt (n := (a / 8 / 64 % 7)) (by omega)]; omega, by rw [nI_toInt (n := (a / 8 / 64 % 7)) (by omega)]; omega⟩
      refine g_eqst (st1 := ([.int (nI (σ.1 + 1))] : List Value)) (by rw [hl_4.1]) ?_
      refine g_iload_n C 3 rfl dL_acts_115 ?_
      refine g_iconst C 1 (by decide) dL_acts_116 ?_
      refine g_iadd C dL_acts_117 ?_
      refine g_eqst (st1 := ([.int (nI (σ.1 + 1)), .int (nI (σ.1 + 1))] : List Value)) (congrArg (fun z0 : Int32 => (([.int z0, .int (nI (σ.1 + 1))] : List Value))) (mI_add (σ.1) 1)) ?_
      refine g_icmp_ne C 136 (by decide) dL_acts_118 (fun c118 => ?_) (fun c118 => ?_)
      · -- taken at 118
        have c118' := i_ne c118
        exact False.elim (c118 rfl)
      · -- not taken at 118
        have c118' := i_eq c118
        refine g_aload_n C 5 rfl dL_acts_121 ?_
        refine g_iload C 0 rfl dL_acts_122 ?_
        refine g_Vi C [.int (nI ((a / 8) % (σ.1 + 1)))] 0 6 (by omega) hX_4.1 rfl (c_X6_wordAt l D kc N adr cell3 (insD (a / 8 % (σ.1 + 1)) (nI (a / 8 / 64 % 7)) σ) (rcN hn) (rcH hn hi σ) L ch (nI ((a / 8) % (σ.1 + 1))) hX_4 hI_4.1 hN) (cwV 1 C.2.2.2.2.1 gL_acts_X6_wordAt rfl rfl rfl (by decide +kernel) ⟨Nat.le_of_ble_eq_true rfl, Nat.le_of_ble_eq_true rfl⟩) rfl rfl (Nat.le_of_ble_eq_true rfl) (Nat.zero_le _) (Nat.zero_le _) dL_acts_124 (fun v5 cell5 q5 => ?_)
        obtain ⟨rfl, rfl⟩ := q5
        refine g_eqst (st1 := ([.int (nI (a / 8 / 64 % 7))] : List Value)) (by rw [show wordAtR (insD (a / 8 % (σ.1 + 1)) (nI (a / 8 / 64 % 7)) σ) (nI (a / 8 % (σ.1 + 1))) = nI (a / 8 / 64 % 7) from (wordAt_in (σ := insD (a / 8 % (σ.1 + 1)) (nI (a / 8 / 64 % 7)) σ) (show (a / 8 % (σ.1 + 1)) < σ.1 + 1 by omega) (show σ.1 + 1 ≤ 40 by omega)).trans ins_word]) ?_
        refine g_iload C 1 rfl dL_acts_127 ?_
        refine g_icmp_ne C 136 (by decide) dL_acts_129 (fun c129 => ?_) (fun c129 => ?_)
        · -- taken at 129
          have c129' := i_ne c129
          exact False.elim (c129 rfl)
        · -- not taken at 129
          have c129' := i_eq c129
          refine g_iconst C 1 (by decide) dL_acts_132 ?_
          refine g_goto C 137 (by decide) dL_acts_133 ?_
          refine g_iret C hr rfl hlk dL_acts_137 ?_
          exact ⟨rfl, _, _, _, hX_4, hI_4⟩
    · -- not taken at 83
      have c83' := i_eq c83
      refine g_aload_n C 5 rfl dL_acts_86 ?_
      refine g_iload C 0 rfl dL_acts_87 ?_
      refine g_iload C 1 rfl dL_acts_89 ?_
      refine g_Vi C [.int (nI ((a / 8) % (σ.1 + 1))), .int (nI (((a / 8) / 64) % 7))] 0 6 (by omega) hX.1 rfl (c_X6_put l D kc N adr cell σ hn hi L ch (nI ((a / 8) % (σ.1 + 1))) (nI (((a / 8) / 64) % 7)) hX hI.1 hN) (cwV 2 C.2.2.2.2.1 gL_acts_X6_put rfl rfl rfl (by decide +kernel) ⟨Nat.le_of_ble_eq_true rfl, Nat.le_of_ble_eq_true rfl⟩) rfl rfl (Nat.le_of_ble_eq_true rfl) (Nat.zero_le _) (Nat.zero_le _) dL_acts_91 (fun v6 cell6 q6 => ?_)
      have hl_7 := put_full (σ := σ) (w := nI (a / 8 / 64 % 7)) (q := (a / 8 % (σ.1 + 1))) (by omega) (by omega) ⟨by rw [nI_toInt (n := (a / 8 / 64 % 7)) (by omega)]; omega, by rw [nI_toInt (n := (a / 8 / 64 % 7)) (by omega)]; omega⟩
      obtain ⟨rfl, hx_7⟩ := q6
      rw [hl_7.2] at hx_7
      have hX_7 : XAt cell6 adr kc σ hn hi L ch := hx_7
      refine g_eqst (st1 := ([.int (-1000003)] : List Value)) (by rw [hl_7.1]) ?_
      refine g_ldc C (-1000003) k34 dL_acts_94 ?_
      refine g_icmp_ne C 103 (by decide) dL_acts_96 (fun c96 => ?_) (fun c96 => ?_)
      · -- taken at 96
        have c96' := i_ne c96
        exact False.elim (c96 rfl)
      · -- not taken at 96
        have c96' := i_eq c96
        refine g_iconst C 1 (by decide) dL_acts_99 ?_
        refine g_goto C 137 (by decide) dL_acts_100 ?_
        refine g_iret C hr rfl hlk dL_acts_137 ?_
        exact ⟨rfl, _, _, _, hX_7, hI⟩
  have c22n0 := i_ne c22_0
  by_cases c22_1 : (nI (a % 8)) = 1
  · have c22' := i_eq c22_1
    refine g_tableIn C 64 (by rw [c22_1]; decide) (by rw [c22_1]; decide) (by rw [c22_1] <;> rfl) (by decide) dL_acts_22 ?_
    refine g_iload_n C 2 rfl dL_acts_64 ?_
    refine g_bipush C 64 (by decide) dL_acts_65 ?_
    refine g_idiv C (by decide) dL_acts_67 ?_
    refine g_eqst (st1 := ([.int (nI ((a / 8) / 64))] : List Value)) (congrArg (fun z0 : Int32 => (([.int z0] : List Value))) (pk_div (a := (a / 8)) (d := 64) (by omega) (by omega) (by omega))) ?_
    refine g_bipush C 7 (by decide) dL_acts_68 ?_
    refine g_irem C (by decide) dL_acts_70 ?_
    refine g_eqst (st1 := ([.int (nI (((a / 8) / 64) % 7))] : List Value)) (congrArg (fun z0 : Int32 => (([.int z0] : List Value))) (pk_rem (a := ((a / 8) / 64)) (d := 7) (by omega) (by omega) (by omega))) ?_
    refine g_istore C [(5, .int (nI (((a / 8) / 64) % 7))), (4, .int (nI (σ.2.1))), (3, .int (nI (σ.1))), (2, .int (nI (a / 8))), (0, .ref (adr 0)), (1, .int (nI a))] (by decide) rfl dL_acts_71 ?_
    refine g_iload_n C 3 rfl dL_acts_73 ?_
    refine g_iload_n C 2 rfl dL_acts_74 ?_
    refine g_iconst C 1 (by decide) dL_acts_75 ?_
    refine g_iadd C dL_acts_76 ?_
    refine g_eqst (st1 := ([.int (nI (σ.1 + 1)), .int (nI (a / 8))] : List Value)) (congrArg (fun z0 : Int32 => (([.int z0, .int (nI (a / 8))] : List Value))) (mI_add (σ.1) 1)) ?_
    refine g_irem C (by intro hz9; have hz8 := i_eq hz9; have hz7 : (nI (σ.1 + 1)).toInt = ((σ.1 + 1 : Nat) : Int) := nI_toInt (by omega); omega) dL_acts_77 ?_
    refine g_eqst (st1 := ([.int (nI ((a / 8) % (σ.1 + 1)))] : List Value)) (congrArg (fun z0 : Int32 => (([.int z0] : List Value))) (pk_rem (a := (a / 8)) (d := (σ.1 + 1)) (by omega) (by omega) (by omega))) ?_
    refine g_istore C [(6, .int (nI ((a / 8) % (σ.1 + 1)))), (5, .int (nI (((a / 8) / 64) % 7))), (4, .int (nI (σ.2.1))), (3, .int (nI (σ.1))), (2, .int (nI (a / 8))), (0, .ref (adr 0)), (1, .int (nI a))] (by decide) rfl dL_acts_78 ?_
    have hpp : a / 8 % (σ.1 + 1) < σ.1 + 1 := Nat.mod_lt _ (by omega)
    refine g_iload_n C 3 rfl dL_acts_80 ?_
    refine g_bipush C 40 (by decide) dL_acts_81 ?_
    refine g_icmp_ne C 107 (by decide) dL_acts_83 (fun c83 => ?_) (fun c83 => ?_)
    · -- taken at 83
      have c83' := i_ne c83
      refine g_aload_n C 5 rfl dL_acts_107 ?_
      refine g_iload C 0 rfl dL_acts_108 ?_
      refine g_iload C 1 rfl dL_acts_110 ?_
      refine g_Vi C [.int (nI ((a / 8) % (σ.1 + 1))), .int (nI (((a / 8) / 64) % 7))] 0 6 (by omega) hX.1 rfl (c_X6_put l D kc N adr cell σ hn hi L ch (nI ((a / 8) % (σ.1 + 1))) (nI (((a / 8) / 64) % 7)) hX hI.1 hN) (cwV 2 C.2.2.2.2.1 gL_acts_X6_put rfl rfl rfl (by decide +kernel) ⟨Nat.le_of_ble_eq_true rfl, Nat.le_of_ble_eq_true rfl⟩) rfl rfl (Nat.le_of_ble_eq_true rfl) (Nat.zero_le _) (Nat.zero_le _) dL_acts_112 (fun v8 cell8 q8 => ?_)
      have hl_9 := put_ok (σ := σ) (w := nI (a / 8 / 64 % 7)) (q := (a / 8 % (σ.1 + 1))) (by omega) (by omega) ⟨by rw [nI_toInt (n := (a / 8 / 64 % 7)) (by omega)]; omega, by rw [nI_toInt (n := (a / 8 / 64 % 7)) (by omega)]; omega⟩
      obtain ⟨rfl, hx_9⟩ := q8
      rw [hl_9.2] at hx_9
      have hX_9 : XAt cell8 adr kc (insD (a / 8 % (σ.1 + 1)) (nI (a / 8 / 64 % 7)) σ) (rcN hn) (rcH hn hi σ) L ch := hx_9
      have hI_9 : Inv (insD (a / 8 % (σ.1 + 1)) (nI (a / 8 / 64 % 7)) σ) := inv_ins hI (by omega) (by omega) ⟨by rw [nI_toInt (n := (a / 8 / 64 % 7)) (by omega)]; omega, by rw [nI_toInt (n := (a / 8 / 64 % 7)) (by omega)]; omega⟩
      refine g_eqst (st1 := ([.int (nI (σ.1 + 1))] : List Value)) (by rw [hl_9.1]) ?_
      refine g_iload_n C 3 rfl dL_acts_115 ?_
      refine g_iconst C 1 (by decide) dL_acts_116 ?_
      refine g_iadd C dL_acts_117 ?_
      refine g_eqst (st1 := ([.int (nI (σ.1 + 1)), .int (nI (σ.1 + 1))] : List Value)) (congrArg (fun z0 : Int32 => (([.int z0, .int (nI (σ.1 + 1))] : List Value))) (mI_add (σ.1) 1)) ?_
      refine g_icmp_ne C 136 (by decide) dL_acts_118 (fun c118 => ?_) (fun c118 => ?_)
      · -- taken at 118
        have c118' := i_ne c118
        exact False.elim (c118 rfl)
      · -- not taken at 118
        have c118' := i_eq c118
        refine g_aload_n C 5 rfl dL_acts_121 ?_
        refine g_iload C 0 rfl dL_acts_122 ?_
        refine g_Vi C [.int (nI ((a / 8) % (σ.1 + 1)))] 0 6 (by omega) hX_9.1 rfl (c_X6_wordAt l D kc N adr cell8 (insD (a / 8 % (σ.1 + 1)) (nI (a / 8 / 64 % 7)) σ) (rcN hn) (rcH hn hi σ) L ch (nI ((a / 8) % (σ.1 + 1))) hX_9 hI_9.1 hN) (cwV 1 C.2.2.2.2.1 gL_acts_X6_wordAt rfl rfl rfl (by decide +kernel) ⟨Nat.le_of_ble_eq_true rfl, Nat.le_of_ble_eq_true rfl⟩) rfl rfl (Nat.le_of_ble_eq_true rfl) (Nat.zero_le _) (Nat.zero_le _) dL_acts_124 (fun v10 cell10 q10 => ?_)
        obtain ⟨rfl, rfl⟩ := q10
        refine g_eqst (st1 := ([.int (nI (a / 8 / 64 % 7))] : List Value)) (by rw [show wordAtR (insD (a / 8 % (σ.1 + 1)) (nI (a / 8 / 64 % 7)) σ) (nI (a / 8 % (σ.1 + 1))) = nI (a / 8 / 64 % 7) from (wordAt_in (σ := insD (a / 8 % (σ.1 + 1)) (nI (a / 8 / 64 % 7)) σ) (show (a / 8 % (σ.1 + 1)) < σ.1 + 1 by omega) (show σ.1 + 1 ≤ 40 by omega)).trans ins_word]) ?_
        refine g_iload C 1 rfl dL_acts_127 ?_
        refine g_icmp_ne C 136 (by decide) dL_acts_129 (fun c129 => ?_) (fun c129 => ?_)
        · -- taken at 129
          have c129' := i_ne c129
          exact False.elim (c129 rfl)
        · -- not taken at 129
          have c129' := i_eq c129
          refine g_iconst C 1 (by decide) dL_acts_132 ?_
          refine g_goto C 137 (by decide) dL_acts_133 ?_
          refine g_iret C hr rfl hlk dL_acts_137 ?_
          exact ⟨rfl, _, _, _, hX_9, hI_9⟩
    · -- not taken at 83
      have c83' := i_eq c83
      refine g_aload_n C 5 rfl dL_acts_86 ?_
      refine g_iload C 0 rfl dL_acts_87 ?_
      refine g_iload C 1 rfl dL_acts_89 ?_
      refine g_Vi C [.int (nI ((a / 8) % (σ.1 + 1))), .int (nI (((a / 8) / 64) % 7))] 0 6 (by omega) hX.1 rfl (c_X6_put l D kc N adr cell σ hn hi L ch (nI ((a / 8) % (σ.1 + 1))) (nI (((a / 8) / 64) % 7)) hX hI.1 hN) (cwV 2 C.2.2.2.2.1 gL_acts_X6_put rfl rfl rfl (by decide +kernel) ⟨Nat.le_of_ble_eq_true rfl, Nat.le_of_ble_eq_true rfl⟩) rfl rfl (Nat.le_of_ble_eq_true rfl) (Nat.zero_le _) (Nat.zero_le _) dL_acts_91 (fun v11 cell11 q11 => ?_)
      have hl_12 := put_full (σ := σ) (w := nI (a / 8 / 64 % 7)) (q := (a / 8 % (σ.1 + 1))) (by omega) (by omega) ⟨by rw [nI_toInt (n := (a / 8 / 64 % 7)) (by omega)]; omega, by rw [nI_toInt (n := (a / 8 / 64 % 7)) (by omega)]; omega⟩
      obtain ⟨rfl, hx_12⟩ := q11
      rw [hl_12.2] at hx_12
      have hX_12 : XAt cell11 adr kc σ hn hi L ch := hx_12
      refine g_eqst (st1 := ([.int (-1000003)] : List Value)) (by rw [hl_12.1]) ?_
      refine g_ldc C (-1000003) k34 dL_acts_94 ?_
      refine g_icmp_ne C 103 (by decide) dL_acts_96 (fun c96 => ?_) (fun c96 => ?_)
      · -- taken at 96
        have c96' := i_ne c96
        exact False.elim (c96 rfl)
      · -- not taken at 96
        have c96' := i_eq c96
        refine g_iconst C 1 (by decide) dL_acts_99 ?_
        refine g_goto C 137 (by decide) dL_acts_100 ?_
        refine g_iret C hr rfl hlk dL_acts_137 ?_
        exact ⟨rfl, _, _, _, hX_12, hI⟩
  have c22n1 := i_ne c22_1
  by_cases c22_2 : (nI (a % 8)) = 2
  · have c22' := i_eq c22_2
    refine g_tableIn C 138 (by rw [c22_2]; decide) (by rw [c22_2]; decide) (by rw [c22_2] <;> rfl) (by decide) dL_acts_22 ?_
    refine g_iload_n C 1 rfl dL_acts_138 ?_
    refine g_if_ne C 158 (by decide) dL_acts_139 (fun c139 => ?_) (fun c139 => ?_)
    · -- taken at 139
      have c139' := i_ne c139
      have hmod : a / 8 % σ.1 < σ.1 := Nat.mod_lt _ (by omega)
      refine g_aload_n C 3 rfl dL_acts_158 ?_
      refine g_iload_n C 2 rfl dL_acts_159 ?_
      refine g_iload_n C 1 rfl dL_acts_160 ?_
      refine g_irem C (by intro hz9; have hz8 := i_eq hz9; omega) dL_acts_161 ?_
      refine g_eqst (st1 := ([.int (nI ((a / 8) % (σ.1))), .ref (adr 0)] : List Value)) (congrArg (fun z0 : Int32 => (([.int z0, .ref (adr 0)] : List Value))) (pk_rem (a := (a / 8)) (d := (σ.1)) (by omega) (by omega) (by omega))) ?_
      refine g_Vi C [.int (nI ((a / 8) % (σ.1)))] 0 6 (by omega) hX.1 rfl (c_X6_wordAt l D kc N adr cell σ hn hi L ch (nI ((a / 8) % (σ.1))) hX hI.1 hN) (cwV 1 C.2.2.2.2.1 gL_acts_X6_wordAt rfl rfl rfl (by decide +kernel) ⟨Nat.le_of_ble_eq_true rfl, Nat.le_of_ble_eq_true rfl⟩) rfl rfl (Nat.le_of_ble_eq_true rfl) (Nat.zero_le _) (Nat.zero_le _) dL_acts_162 (fun v13 cell13 q13 => ?_)
      obtain ⟨rfl, rfl⟩ := q13
      refine g_eqst (st1 := ([.int (σ.2.2.2.1 (a / 8 % (σ.1)))] : List Value)) (by rw [wordAt_in hmod hnn]) ?_
      refine g_istore C [(7, .int (σ.2.2.2.1 (a / 8 % (σ.1)))), (4, .int (nI (σ.2.1))), (3, .int (nI (σ.1))), (2, .int (nI (a / 8))), (0, .ref (adr 0)), (1, .int (nI a))] (by decide) rfl dL_acts_165 ?_
      refine g_aload_n C 4 rfl dL_acts_167 ?_
      refine g_iload_n C 3 rfl dL_acts_168 ?_
      refine g_iload_n C 2 rfl dL_acts_169 ?_
      refine g_irem C (by intro hz9; have hz8 := i_eq hz9; omega) dL_acts_170 ?_
      refine g_eqst (st1 := ([.int (nI ((a / 8) % (σ.1))), .ref (adr 0)] : List Value)) (congrArg (fun z0 : Int32 => (([.int z0, .ref (adr 0)] : List Value))) (pk_rem (a := (a / 8)) (d := (σ.1)) (by omega) (by omega) (by omega))) ?_
      refine g_Vi C [.int (nI ((a / 8) % (σ.1)))] 0 6 (by omega) hX.1 rfl (c_X6_take l D kc N adr cell σ hn hi L ch (nI ((a / 8) % (σ.1))) hX hI.1 hN) (cwV 1 C.2.2.2.2.1 gL_acts_X6_take rfl rfl rfl (by decide +kernel) ⟨Nat.le_of_ble_eq_true rfl, Nat.le_of_ble_eq_true rfl⟩) rfl rfl (Nat.le_of_ble_eq_true rfl) (Nat.zero_le _) (Nat.zero_le _) dL_acts_171 (fun v14 cell14 q14 => ?_)
      have hl_15 := take_ok hnn hmod
      obtain ⟨rfl, hx_15⟩ := q14
      rw [hl_15.2] at hx_15
      have hX_15 : XAt cell14 adr kc (remD (a / 8 % (σ.1)) σ) (rcN hn) (rcH hn hi σ) L ch := hx_15
      have hI_15 : Inv (remD (a / 8 % (σ.1)) σ) := inv_rem hI hmod
      refine g_eqst (st1 := ([.int (σ.2.2.2.1 (a / 8 % (σ.1)))] : List Value)) (by rw [hl_15.1]) ?_
      refine g_iload C 0 rfl dL_acts_174 ?_
      refine g_icmp_ne C 194 (by decide) dL_acts_176 (fun c176 => ?_) (fun c176 => ?_)
      · -- taken at 176
        have c176' := i_ne c176
        exact False.elim (c176 rfl)
      · -- not taken at 176
        have c176' := i_eq c176
        refine g_aload_n C 4 rfl dL_acts_179 ?_
        refine g_iconst C 0 (by decide) dL_acts_180 ?_
        refine g_Vi C [.int 0] 0 6 (by omega) hX_15.1 rfl (c_X6_count l D kc N adr cell14 (remD (a / 8 % (σ.1)) σ) (rcN hn) (rcH hn hi σ) L ch 0 hX_15 hI_15.1 hN) (cwV 1 C.2.2.2.2.1 gL_acts_X6_count rfl rfl rfl (by decide +kernel) ⟨Nat.le_of_ble_eq_true rfl, Nat.le_of_ble_eq_true rfl⟩) rfl rfl (Nat.le_of_ble_eq_true rfl) (Nat.zero_le _) (Nat.zero_le _) dL_acts_181 (fun v16 cell16 q16 => ?_)
        obtain ⟨rfl, rfl⟩ := q16
        refine g_eqst (st1 := ([.int (nI (σ.1 - 1))] : List Value)) (by rw [show countR (remD (a / 8 % (σ.1)) σ) (rcN hn) L 0 = nI (σ.1 - 1) from count_0]) ?_
        refine g_iload_n C 2 rfl dL_acts_184 ?_
        refine g_iconst C 1 (by decide) dL_acts_185 ?_
        refine g_isub C dL_acts_186 ?_
        refine g_eqst (st1 := ([.int (nI ((σ.1) - 1)), .int (nI (σ.1 - 1))] : List Value)) (congrArg (fun z0 : Int32 => (([.int z0, .int (nI (σ.1 - 1))] : List Value))) (pk_sub (a := (σ.1)) (b := 1) (by omega))) ?_
        refine g_icmp_ne C 194 (by decide) dL_acts_187 (fun c187 => ?_) (fun c187 => ?_)
        · -- taken at 187
          have c187' := i_ne c187
          exact False.elim (c187 rfl)
        · -- not taken at 187
          have c187' := i_eq c187
          refine g_iconst C 1 (by decide) dL_acts_190 ?_
          refine g_goto C 195 (by decide) dL_acts_191 ?_
          refine g_iret C hr rfl hlk dL_acts_195 ?_
          exact ⟨rfl, _, _, _, hX_15, hI_15⟩
    · -- not taken at 139
      have c139' := i_eq c139
      refine g_aload_n C 3 rfl dL_acts_142 ?_
      refine g_iconst C 0 (by decide) dL_acts_143 ?_
      refine g_Vi C [.int 0] 0 6 (by omega) hX.1 rfl (c_X6_take l D kc N adr cell σ hn hi L ch 0 hX hI.1 hN) (cwV 1 C.2.2.2.2.1 gL_acts_X6_take rfl rfl rfl (by decide +kernel) ⟨Nat.le_of_ble_eq_true rfl, Nat.le_of_ble_eq_true rfl⟩) rfl rfl (Nat.le_of_ble_eq_true rfl) (Nat.zero_le _) (Nat.zero_le _) dL_acts_144 (fun v17 cell17 q17 => ?_)
      have hl_18 := take_no (σ := σ) (by omega)
      obtain ⟨rfl, hx_18⟩ := q17
      rw [hl_18.2] at hx_18
      have hX_18 : XAt cell17 adr kc σ hn hi L ch := hx_18
      refine g_eqst (st1 := ([.int (-1000001)] : List Value)) (by rw [hl_18.1]) ?_
      refine g_ldc C (-1000001) k38 dL_acts_147 ?_
      refine g_icmp_ne C 156 (by decide) dL_acts_149 (fun c149 => ?_) (fun c149 => ?_)
      · -- taken at 149
        have c149' := i_ne c149
        exact False.elim (c149 rfl)
      · -- not taken at 149
        have c149' := i_eq c149
        refine g_iconst C 1 (by decide) dL_acts_152 ?_
        refine g_goto C 157 (by decide) dL_acts_153 ?_
        refine g_iret C hr rfl hlk dL_acts_157 ?_
        exact ⟨rfl, _, _, _, hX_18, hI⟩
  have c22n2 := i_ne c22_2
  by_cases c22_3 : (nI (a % 8)) = 3
  · have c22' := i_eq c22_3
    refine g_tableIn C 196 (by rw [c22_3]; decide) (by rw [c22_3]; decide) (by rw [c22_3] <;> rfl) (by decide) dL_acts_22 ?_
    refine g_iload_n C 1 rfl dL_acts_196 ?_
    refine g_if_ne C 218 (by decide) dL_acts_197 (fun c197 => ?_) (fun c197 => ?_)
    · -- taken at 197
      have c197' := i_ne c197
      have hmod : a / 8 % σ.1 < σ.1 := Nat.mod_lt _ (by omega)
      refine g_iconst C 1 (by decide) dL_acts_218 ?_
      refine g_iload_n C 2 rfl dL_acts_219 ?_
      refine g_iload_n C 1 rfl dL_acts_220 ?_
      refine g_irem C (by intro hz9; have hz8 := i_eq hz9; omega) dL_acts_221 ?_
      refine g_eqst (st1 := ([.int (nI ((a / 8) % (σ.1))), .int 1] : List Value)) (congrArg (fun z0 : Int32 => (([.int z0, .int 1] : List Value))) (pk_rem (a := (a / 8)) (d := (σ.1)) (by omega) (by omega) (by omega))) ?_
      refine g_iadd C dL_acts_222 ?_
      refine g_eqst (st1 := ([.int (nI (1 + ((a / 8) % (σ.1))))] : List Value)) (congrArg (fun z0 : Int32 => (([.int z0] : List Value))) (mI_add 1 ((a / 8) % (σ.1)))) ?_
      refine g_istore C [(8, .int (nI (1 + ((a / 8) % (σ.1))))), (4, .int (nI (σ.2.1))), (3, .int (nI (σ.1))), (2, .int (nI (a / 8))), (0, .ref (adr 0)), (1, .int (nI a))] (by decide) rfl dL_acts_223 ?_
      have hmz1 : a / 8 / 64 % (σ.1 - (1 + (a / 8 % (σ.1))) + 1) < σ.1 - (1 + (a / 8 % (σ.1))) + 1 := Nat.mod_lt _ (by omega)
      have hmz2 : a / 8 / 4096 % (σ.1 - (1 + (a / 8 % (σ.1))) + 1) < σ.1 - (1 + (a / 8 % (σ.1))) + 1 := Nat.mod_lt _ (by omega)
      refine g_aload_n C 4 rfl dL_acts_225 ?_
      refine g_iload_n C 3 rfl dL_acts_226 ?_
      refine g_bipush C 64 (by decide) dL_acts_227 ?_
      refine g_idiv C (by decide) dL_acts_229 ?_
      refine g_eqst (st1 := ([.int (nI ((a / 8) / 64)), .ref (adr 0)] : List Value)) (congrArg (fun z0 : Int32 => (([.int z0, .ref (adr 0)] : List Value))) (pk_div (a := (a / 8)) (d := 64) (by omega) (by omega) (by omega))) ?_
      refine g_iload_n C 2 rfl dL_acts_230 ?_
      refine g_iload C 0 rfl dL_acts_231 ?_
      refine g_isub C dL_acts_233 ?_
      refine g_eqst (st1 := ([.int (nI ((σ.1) - (1 + ((a / 8) % (σ.1))))), .int (nI ((a / 8) / 64)), .ref (adr 0)] : List Value)) (congrArg (fun z0 : Int32 => (([.int z0, .int (nI ((a / 8) / 64)), .ref (adr 0)] : List Value))) (pk_sub (a := (σ.1)) (b := (1 + ((a / 8) % (σ.1)))) (by omega))) ?_
      refine g_iconst C 1 (by decide) dL_acts_234 ?_
      refine g_iadd C dL_acts_235 ?_
      refine g_eqst (st1 := ([.int (nI ((σ.1) - (1 + ((a / 8) % (σ.1))) + 1)), .int (nI ((a / 8) / 64)), .ref (adr 0)] : List Value)) (congrArg (fun z0 : Int32 => (([.int z0, .int (nI ((a / 8) / 64)), .ref (adr 0)] : List Value))) (mI_add ((σ.1) - (1 + ((a / 8) % (σ.1)))) 1)) ?_
      refine g_irem C (by intro hz9; have hz8 := i_eq hz9; have hz7 : (nI (σ.1 - (1 + (a / 8 % (σ.1))) + 1)).toInt = ((σ.1 - (1 + (a / 8 % (σ.1))) + 1 : Nat) : Int) := nI_toInt (by omega); omega) dL_acts_236 ?_
      refine g_eqst (st1 := ([.int (nI (((a / 8) / 64) % ((σ.1) - (1 + ((a / 8) % (σ.1))) + 1))), .ref (adr 0)] : List Value)) (congrArg (fun z0 : Int32 => (([.int z0, .ref (adr 0)] : List Value))) (pk_rem (a := ((a / 8) / 64)) (d := ((σ.1) - (1 + ((a / 8) % (σ.1))) + 1)) (by omega) (by omega) (by omega))) ?_
      refine g_iload C 0 rfl dL_acts_237 ?_
      refine g_iload_n C 3 rfl dL_acts_239 ?_
      refine g_sipush C 4096 (by decide) dL_acts_240 ?_
      refine g_idiv C (by decide) dL_acts_243 ?_
      refine g_eqst (st1 := ([.int (nI ((a / 8) / 4096)), .int (nI (1 + ((a / 8) % (σ.1)))), .int (nI (((a / 8) / 64) % ((σ.1) - (1 + ((a / 8) % (σ.1))) + 1))), .ref (adr 0)] : List Value)) (congrArg (fun z0 : Int32 => (([.int z0, .int (nI (1 + ((a / 8) % (σ.1)))), .int (nI (((a / 8) / 64) % ((σ.1) - (1 + ((a / 8) % (σ.1))) + 1))), .ref (adr 0)] : List Value))) (pk_div (a := (a / 8)) (d := 4096) (by omega) (by omega) (by omega))) ?_
      refine g_iload_n C 2 rfl dL_acts_244 ?_
      refine g_iload C 0 rfl dL_acts_245 ?_
      refine g_isub C dL_acts_247 ?_
      refine g_eqst (st1 := ([.int (nI ((σ.1) - (1 + ((a / 8) % (σ.1))))), .int (nI ((a / 8) / 4096)), .int (nI (1 + ((a / 8) % (σ.1)))), .int (nI (((a / 8) / 64) % ((σ.1) - (1 + ((a / 8) % (σ.1))) + 1))), .ref (adr 0)] : List Value)) (congrArg (fun z0 : Int32 => (([.int z0, .int (nI ((a / 8) / 4096)), .int (nI (1 + ((a / 8) % (σ.1)))), .int (nI (((a / 8) / 64) % ((σ.1) - (1 + ((a / 8) % (σ.1))) + 1))), .ref (adr 0)] : List Value))) (pk_sub (a := (σ.1)) (b := (1 + ((a / 8) % (σ.1)))) (by omega))) ?_
      refine g_iconst C 1 (by decide) dL_acts_248 ?_
      refine g_iadd C dL_acts_249 ?_
      refine g_eqst (st1 := ([.int (nI ((σ.1) - (1 + ((a / 8) % (σ.1))) + 1)), .int (nI ((a / 8) / 4096)), .int (nI (1 + ((a / 8) % (σ.1)))), .int (nI (((a / 8) / 64) % ((σ.1) - (1 + ((a / 8) % (σ.1))) + 1))), .ref (adr 0)] : List Value)) (congrArg (fun z0 : Int32 => (([.int z0, .int (nI ((a / 8) / 4096)), .int (nI (1 + ((a / 8) % (σ.1)))), .int (nI (((a / 8) / 64) % ((σ.1) - (1 + ((a / 8) % (σ.1))) + 1))), .ref (adr 0)] : List Value))) (mI_add ((σ.1) - (1 + ((a / 8) % (σ.1)))) 1)) ?_
      refine g_irem C (by intro hz9; have hz8 := i_eq hz9; have hz7 : (nI (σ.1 - (1 + (a / 8 % (σ.1))) + 1)).toInt = ((σ.1 - (1 + (a / 8 % (σ.1))) + 1 : Nat) : Int) := nI_toInt (by omega); omega) dL_acts_250 ?_
      refine g_eqst (st1 := ([.int (nI (((a / 8) / 4096) % ((σ.1) - (1 + ((a / 8) % (σ.1))) + 1))), .int (nI (1 + ((a / 8) % (σ.1)))), .int (nI (((a / 8) / 64) % ((σ.1) - (1 + ((a / 8) % (σ.1))) + 1))), .ref (adr 0)] : List Value)) (congrArg (fun z0 : Int32 => (([.int z0, .int (nI (1 + ((a / 8) % (σ.1)))), .int (nI (((a / 8) / 64) % ((σ.1) - (1 + ((a / 8) % (σ.1))) + 1))), .ref (adr 0)] : List Value))) (pk_rem (a := ((a / 8) / 4096)) (d := ((σ.1) - (1 + ((a / 8) % (σ.1))) + 1)) (by omega) (by omega) (by omega))) ?_
      refine g_Si C [.ref (adr 0), .int (nI (((a / 8) / 64) % ((σ.1) - (1 + ((a / 8) % (σ.1))) + 1))), .int (nI (1 + ((a / 8) % (σ.1)))), .int (nI (((a / 8) / 4096) % ((σ.1) - (1 + ((a / 8) % (σ.1))) + 1)))] (c_L_moves l D kc N adr cell σ hn hi L ch (a / 8 / 64 % (σ.1 - (1 + (a / 8 % (σ.1))) + 1)) (1 + (a / 8 % (σ.1))) (a / 8 / 4096 % (σ.1 - (1 + (a / 8 % (σ.1))) + 1)) hX hI hN ⟨by omega, by omega, by omega⟩) (va_cwS 4 C.2.2.2.2.1 gL_acts_L_moves rfl rfl rfl (by decide +kernel) ⟨Nat.le_of_ble_eq_true rfl, Nat.le_of_ble_eq_true rfl⟩) rfl rfl (Nat.le_of_ble_eq_true rfl) (Nat.zero_le _) (Nat.zero_le _) dL_acts_251 (fun v19 cell19 q19 => ?_)
      obtain ⟨rfl, σ_20, hn_20, hi_20, hX_20, hI_20⟩ := q19
      refine g_iret C hr rfl hlk dL_acts_254 ?_
      exact ⟨rfl, _, _, _, hX_20, hI_20⟩
    · -- not taken at 197
      have c197' := i_eq c197
      refine g_aload_n C 3 rfl dL_acts_200 ?_
      refine g_iconst C 0 (by decide) dL_acts_201 ?_
      refine g_iconst C 1 (by decide) dL_acts_202 ?_
      refine g_iconst C 0 (by decide) dL_acts_203 ?_
      refine g_Vi C [.int 0, .int 1, .int 0] 0 6 (by omega) hX.1 rfl (c_X6_move l D kc N adr cell σ hn hi L ch 0 1 0 hX hI.1 hN) (cwV 3 C.2.2.2.2.1 gL_acts_X6_move rfl rfl rfl (by decide +kernel) ⟨Nat.le_of_ble_eq_true rfl, Nat.le_of_ble_eq_true rfl⟩) rfl rfl (Nat.le_of_ble_eq_true rfl) (Nat.zero_le _) (Nat.zero_le _) dL_acts_204 (fun v21 cell21 q21 => ?_)
      have hl_22 := move_no (σ := σ) (by omega)
      obtain ⟨rfl, hx_22⟩ := q21
      rw [hl_22.2] at hx_22
      have hX_22 : XAt cell21 adr kc σ hn hi L ch := hx_22
      refine g_eqst (st1 := ([.int (-1000001)] : List Value)) (by rw [hl_22.1]) ?_
      refine g_ldc C (-1000001) k38 dL_acts_207 ?_
      refine g_icmp_ne C 216 (by decide) dL_acts_209 (fun c209 => ?_) (fun c209 => ?_)
      · -- taken at 209
        have c209' := i_ne c209
        exact False.elim (c209 rfl)
      · -- not taken at 209
        have c209' := i_eq c209
        refine g_iconst C 1 (by decide) dL_acts_212 ?_
        refine g_goto C 217 (by decide) dL_acts_213 ?_
        refine g_iret C hr rfl hlk dL_acts_217 ?_
        exact ⟨rfl, _, _, _, hX_22, hI⟩
  have c22n3 := i_ne c22_3
  by_cases c22_4 : (nI (a % 8)) = 4
  · have c22' := i_eq c22_4
    refine g_tableIn C 255 (by rw [c22_4]; decide) (by rw [c22_4]; decide) (by rw [c22_4] <;> rfl) (by decide) dL_acts_22 ?_
    refine g_iload_n C 1 rfl dL_acts_255 ?_
    refine g_if_ne C 275 (by decide) dL_acts_256 (fun c256 => ?_) (fun c256 => ?_)
    · -- taken at 256
      have c256' := i_ne c256
      have hmod : a / 8 % σ.1 < σ.1 := Nat.mod_lt _ (by omega)
      refine g_aload_n C 3 rfl dL_acts_275 ?_
      refine g_iload_n C 2 rfl dL_acts_276 ?_
      refine g_iload_n C 1 rfl dL_acts_277 ?_
      refine g_irem C (by intro hz9; have hz8 := i_eq hz9; omega) dL_acts_278 ?_
      refine g_eqst (st1 := ([.int (nI ((a / 8) % (σ.1))), .ref (adr 0)] : List Value)) (congrArg (fun z0 : Int32 => (([.int z0, .ref (adr 0)] : List Value))) (pk_rem (a := (a / 8)) (d := (σ.1)) (by omega) (by omega) (by omega))) ?_
      refine g_Vi C [.int (nI ((a / 8) % (σ.1)))] 0 6 (by omega) hX.1 rfl (c_X6_anchor l D kc N adr cell σ hn hi L ch (nI ((a / 8) % (σ.1))) hX hI.1 hN) (cwV 1 C.2.2.2.2.1 gL_acts_X6_anchor rfl rfl rfl (by decide +kernel) ⟨Nat.le_of_ble_eq_true rfl, Nat.le_of_ble_eq_true rfl⟩) rfl rfl (Nat.le_of_ble_eq_true rfl) (Nat.zero_le _) (Nat.zero_le _) dL_acts_279 (fun v23 cell23 q23 => ?_)
      by_cases hm6 : σ.2.1 = 6
      · -- full
        have hl_24 := anchor_full hnn hmod hm6
        obtain ⟨rfl, hx_24⟩ := q23
        rw [hl_24.2] at hx_24
        have hX_24 : XAt cell23 adr kc σ hn hi L ch := hx_24
        refine g_eqst (st1 := ([.int (-1000003)] : List Value)) (by rw [hl_24.1]) ?_
        refine g_istore C [(9, .int (-1000003)), (4, .int (nI (σ.2.1))), (3, .int (nI (σ.1))), (2, .int (nI (a / 8))), (0, .ref (adr 0)), (1, .int (nI a))] (by decide) rfl dL_acts_282 ?_
        refine g_iload C 1 rfl dL_acts_284 ?_
        refine g_bipush C 6 (by decide) dL_acts_286 ?_
        refine g_icmp_ne C 306 (by decide) dL_acts_288 (fun c288 => ?_) (fun c288 => ?_)
        · -- taken at 288
          have c288' := i_ne c288
          exfalso; omega --done
        · -- not taken at 288
          have c288' := i_eq c288
          refine g_iload C 0 rfl dL_acts_291 ?_
          refine g_ldc C (-1000003) k34 dL_acts_293 ?_
          refine g_icmp_ne C 302 (by decide) dL_acts_295 (fun c295 => ?_) (fun c295 => ?_)
          · -- taken at 295
            have c295' := i_ne c295
            exact False.elim (c295 rfl)
          · -- not taken at 295
            have c295' := i_eq c295
            refine g_iconst C 1 (by decide) dL_acts_298 ?_
            refine g_goto C 380 (by decide) dL_acts_299 ?_
            refine g_iret C hr rfl hlk dL_acts_380 ?_
            exact ⟨rfl, _, _, _, hX_24, hI⟩
      have hm6 : σ.2.1 < 6 := by omega
      have hl_25 := anchor_ok hnn hmod hm6
      obtain ⟨rfl, hx_25⟩ := q23
      rw [hl_25.2] at hx_25
      have hX_25 : XAt cell23 adr kc (addD (nI (a / 8 % (σ.1))) σ) (rcN hn) (rcH hn hi σ) L ch := hx_25
      have hI_25 : Inv (addD (nI (a / 8 % (σ.1))) σ) := inv_add hI (by rw [nI_toInt (n := a / 8 % σ.1) (by omega)]; exact ⟨by omega, by omega⟩) hm6
      refine g_eqst (st1 := ([.int (nI (σ.2.1))] : List Value)) (by rw [hl_25.1]) ?_
      refine g_istore C [(9, .int (nI (σ.2.1))), (4, .int (nI (σ.2.1))), (3, .int (nI (σ.1))), (2, .int (nI (a / 8))), (0, .ref (adr 0)), (1, .int (nI a))] (by decide) rfl dL_acts_282 ?_
      refine g_iload C 1 rfl dL_acts_284 ?_
      refine g_bipush C 6 (by decide) dL_acts_286 ?_
      refine g_icmp_ne C 306 (by decide) dL_acts_288 (fun c288 => ?_) (fun c288 => ?_)
      · -- taken at 288
        have c288' := i_ne c288
        refine g_iload C 0 rfl dL_acts_306 ?_
        refine g_iload C 1 rfl dL_acts_308 ?_
        refine g_icmp_ne C 379 (by decide) dL_acts_310 (fun c310 => ?_) (fun c310 => ?_)
        · -- taken at 310
          have c310' := i_ne c310
          exact False.elim (c310 rfl)
        · -- not taken at 310
          have c310' := i_eq c310
          refine g_aload_n C 4 rfl dL_acts_313 ?_
          refine g_iload C 1 rfl dL_acts_314 ?_
          refine g_iconst C 0 (by decide) dL_acts_316 ?_
          refine g_Vi C [.int (nI (σ.2.1)), .int 0] 0 6 (by omega) hX_25.1 rfl (c_X6_anchorOf l D kc N adr cell23 (addD (nI (a / 8 % (σ.1))) σ) (rcN hn) (rcH hn hi σ) L ch (nI (σ.2.1)) 0 hX_25 hI_25.1 hN) (cwV 2 C.2.2.2.2.1 gL_acts_X6_anchorOf rfl rfl rfl (by decide +kernel) ⟨Nat.le_of_ble_eq_true rfl, Nat.le_of_ble_eq_true rfl⟩) rfl rfl (Nat.le_of_ble_eq_true rfl) (Nat.zero_le _) (Nat.zero_le _) dL_acts_317 (fun v26 cell26 q26 => ?_)
          obtain ⟨rfl, rfl⟩ := q26
          refine g_eqst (st1 := ([.int (nI (a / 8 % (σ.1)))] : List Value)) (by rw [show anchorOfR (addD (nI (a / 8 % (σ.1))) σ) (nI σ.2.1) 0 = nI (a / 8 % (σ.1)) from (add_at hm6 (by omega)).1]) ?_
          refine g_iload_n C 3 rfl dL_acts_320 ?_
          refine g_iload_n C 2 rfl dL_acts_321 ?_
          refine g_irem C (by intro hz9; have hz8 := i_eq hz9; omega) dL_acts_322 ?_
          refine g_eqst (st1 := ([.int (nI ((a / 8) % (σ.1))), .int (nI (a / 8 % (σ.1)))] : List Value)) (congrArg (fun z0 : Int32 => (([.int z0, .int (nI (a / 8 % (σ.1)))] : List Value))) (pk_rem (a := (a / 8)) (d := (σ.1)) (by omega) (by omega) (by omega))) ?_
          refine g_icmp_ne C 379 (by decide) dL_acts_323 (fun c323 => ?_) (fun c323 => ?_)
          · -- taken at 323
            have c323' := i_ne c323
            exact False.elim (c323 rfl)
          · -- not taken at 323
            have c323' := i_eq c323
            refine g_aload_n C 4 rfl dL_acts_326 ?_
            refine g_iload C 1 rfl dL_acts_327 ?_
            refine g_iconst C 1 (by decide) dL_acts_329 ?_
            refine g_Vi C [.int (nI (σ.2.1)), .int 1] 0 6 (by omega) hX_25.1 rfl (c_X6_anchorOf l D kc N adr cell23 (addD (nI (a / 8 % (σ.1))) σ) (rcN hn) (rcH hn hi σ) L ch (nI (σ.2.1)) 1 hX_25 hI_25.1 hN) (cwV 2 C.2.2.2.2.1 gL_acts_X6_anchorOf rfl rfl rfl (by decide +kernel) ⟨Nat.le_of_ble_eq_true rfl, Nat.le_of_ble_eq_true rfl⟩) rfl rfl (Nat.le_of_ble_eq_true rfl) (Nat.zero_le _) (Nat.zero_le _) dL_acts_330 (fun v27 cell27 q27 => ?_)
            obtain ⟨rfl, rfl⟩ := q27
            refine g_eqst (st1 := ([.int (nI (a / 8 % (σ.1)))] : List Value)) (by rw [show anchorOfR (addD (nI (a / 8 % (σ.1))) σ) (nI σ.2.1) 1 = nI (a / 8 % (σ.1)) from (add_at hm6 (by omega)).2]) ?_
            refine g_iload_n C 3 rfl dL_acts_333 ?_
            refine g_iload_n C 2 rfl dL_acts_334 ?_
            refine g_irem C (by intro hz9; have hz8 := i_eq hz9; omega) dL_acts_335 ?_
            refine g_eqst (st1 := ([.int (nI ((a / 8) % (σ.1))), .int (nI (a / 8 % (σ.1)))] : List Value)) (congrArg (fun z0 : Int32 => (([.int z0, .int (nI (a / 8 % (σ.1)))] : List Value))) (pk_rem (a := (a / 8)) (d := (σ.1)) (by omega) (by omega) (by omega))) ?_
            refine g_icmp_ne C 379 (by decide) dL_acts_336 (fun c336 => ?_) (fun c336 => ?_)
            · -- taken at 336
              have c336' := i_ne c336
              exact False.elim (c336 rfl)
            · -- not taken at 336
              have c336' := i_eq c336
              refine g_aload_n C 4 rfl dL_acts_339 ?_
              refine g_iload C 1 rfl dL_acts_340 ?_
              refine g_iload_n C 3 rfl dL_acts_342 ?_
              refine g_iload_n C 2 rfl dL_acts_343 ?_
              refine g_irem C (by intro hz9; have hz8 := i_eq hz9; omega) dL_acts_344 ?_
              refine g_eqst (st1 := ([.int (nI ((a / 8) % (σ.1))), .int (nI (σ.2.1)), .ref (adr 0)] : List Value)) (congrArg (fun z0 : Int32 => (([.int z0, .int (nI (σ.2.1)), .ref (adr 0)] : List Value))) (pk_rem (a := (a / 8)) (d := (σ.1)) (by omega) (by omega) (by omega))) ?_
              refine g_Vi C [.int (nI (σ.2.1)), .int (nI ((a / 8) % (σ.1)))] 0 6 (by omega) hX_25.1 rfl (c_X6_score l D kc N adr cell23 (addD (nI (a / 8 % (σ.1))) σ) (rcN hn) (rcH hn hi σ) L ch (nI (σ.2.1)) (nI ((a / 8) % (σ.1))) hX_25 hI_25.1 hN) (cwV 2 C.2.2.2.2.1 gL_acts_X6_score rfl rfl rfl (by decide +kernel) ⟨Nat.le_of_ble_eq_true rfl, Nat.le_of_ble_eq_true rfl⟩) rfl rfl (Nat.le_of_ble_eq_true rfl) (Nat.zero_le _) (Nat.zero_le _) dL_acts_345 (fun v28 cell28 q28 => ?_)
              obtain ⟨rfl, rfl⟩ := q28
              refine g_eqst (st1 := ([.int (fullF σ.2.2.2.2.2.2.1)] : List Value)) (by rw [show scoreR (addD (nI (a / 8 % (σ.1))) σ) (nI σ.2.1) (nI (a / 8 % (σ.1))) = fullF σ.2.2.2.2.2.2.1 from add_score hI.1 hm6 hmod]) ?_
              refine g_aload_n C 4 rfl dL_acts_348 ?_
              refine g_bipush C 20 (by decide) dL_acts_349 ?_
              refine g_Vi C [.int 20] 0 6 (by omega) hX_25.1 rfl (c_X6_count l D kc N adr cell23 (addD (nI (a / 8 % (σ.1))) σ) (rcN hn) (rcH hn hi σ) L ch 20 hX_25 hI_25.1 hN) (cwV 1 C.2.2.2.2.1 gL_acts_X6_count rfl rfl rfl (by decide +kernel) ⟨Nat.le_of_ble_eq_true rfl, Nat.le_of_ble_eq_true rfl⟩) rfl rfl (Nat.le_of_ble_eq_true rfl) (Nat.zero_le _) (Nat.zero_le _) dL_acts_351 (fun v29 cell29 q29 => ?_)
              obtain ⟨rfl, rfl⟩ := q29
              refine g_eqst (st1 := ([.int (σ.2.2.2.2.2.2.1 0), .int (fullF σ.2.2.2.2.2.2.1)] : List Value)) (by rw [show countR (addD (nI (a / 8 % (σ.1))) σ) (rcN hn) L 20 = σ.2.2.2.2.2.2.1 0 from count_20]) ?_
              refine g_iconst C 2 (by decide) dL_acts_354 ?_
              refine g_aload_n C 4 rfl dL_acts_355 ?_
              refine g_bipush C 21 (by decide) dL_acts_356 ?_
              refine g_Vi C [.int 21] 0 6 (by omega) hX_25.1 rfl (c_X6_count l D kc N adr cell23 (addD (nI (a / 8 % (σ.1))) σ) (rcN hn) (rcH hn hi σ) L ch 21 hX_25 hI_25.1 hN) (cwV 1 C.2.2.2.2.1 gL_acts_X6_count rfl rfl rfl (by decide +kernel) ⟨Nat.le_of_ble_eq_true rfl, Nat.le_of_ble_eq_true rfl⟩) rfl rfl (Nat.le_of_ble_eq_true rfl) (Nat.zero_le _) (Nat.zero_le _) dL_acts_358 (fun v30 cell30 q30 => ?_)
              obtain ⟨rfl, rfl⟩ := q30
              refine g_eqst (st1 := ([.int (σ.2.2.2.2.2.2.1 1), .int 2, .int (σ.2.2.2.2.2.2.1 0), .int (fullF σ.2.2.2.2.2.2.1)] : List Value)) (by rw [show countR (addD (nI (a / 8 % (σ.1))) σ) (rcN hn) L 21 = σ.2.2.2.2.2.2.1 1 from count_21]) ?_
              refine g_imul C dL_acts_361 ?_
              refine g_iadd C dL_acts_362 ?_
              refine g_iconst C 2 (by decide) dL_acts_363 ?_
              refine g_aload_n C 4 rfl dL_acts_364 ?_
              refine g_bipush C 22 (by decide) dL_acts_365 ?_
              refine g_Vi C [.int 22] 0 6 (by omega) hX_25.1 rfl (c_X6_count l D kc N adr cell23 (addD (nI (a / 8 % (σ.1))) σ) (rcN hn) (rcH hn hi σ) L ch 22 hX_25 hI_25.1 hN) (cwV 1 C.2.2.2.2.1 gL_acts_X6_count rfl rfl rfl (by decide +kernel) ⟨Nat.le_of_ble_eq_true rfl, Nat.le_of_ble_eq_true rfl⟩) rfl rfl (Nat.le_of_ble_eq_true rfl) (Nat.zero_le _) (Nat.zero_le _) dL_acts_367 (fun v31 cell31 q31 => ?_)
              obtain ⟨rfl, rfl⟩ := q31
              refine g_eqst (st1 := ([.int (σ.2.2.2.2.2.2.1 2), .int 2, .int ((σ.2.2.2.2.2.2.1 0) + (2 * (σ.2.2.2.2.2.2.1 1))), .int (fullF σ.2.2.2.2.2.2.1)] : List Value)) (by rw [show countR (addD (nI (a / 8 % (σ.1))) σ) (rcN hn) L 22 = σ.2.2.2.2.2.2.1 2 from count_22]) ?_
              refine g_imul C dL_acts_370 ?_
              refine g_iadd C dL_acts_371 ?_
              refine g_icmp_ne C 379 (by decide) dL_acts_372 (fun c372 => ?_) (fun c372 => ?_)
              · -- taken at 372
                have c372' := i_ne c372
                exact False.elim (c372 rfl)
              · -- not taken at 372
                have c372' := i_eq c372
                refine g_iconst C 1 (by decide) dL_acts_375 ?_
                refine g_goto C 380 (by decide) dL_acts_376 ?_
                refine g_iret C hr rfl hlk dL_acts_380 ?_
                exact ⟨rfl, _, _, _, hX_25, hI_25⟩
      · -- not taken at 288
        have c288' := i_eq c288
        exfalso; omega --done
    · -- not taken at 256
      have c256' := i_eq c256
      refine g_aload_n C 3 rfl dL_acts_259 ?_
      refine g_iconst C 0 (by decide) dL_acts_260 ?_
      refine g_Vi C [.int 0] 0 6 (by omega) hX.1 rfl (c_X6_anchor l D kc N adr cell σ hn hi L ch 0 hX hI.1 hN) (cwV 1 C.2.2.2.2.1 gL_acts_X6_anchor rfl rfl rfl (by decide +kernel) ⟨Nat.le_of_ble_eq_true rfl, Nat.le_of_ble_eq_true rfl⟩) rfl rfl (Nat.le_of_ble_eq_true rfl) (Nat.zero_le _) (Nat.zero_le _) dL_acts_261 (fun v32 cell32 q32 => ?_)
      have hl_33 := anchor_no (σ := σ) (by omega)
      obtain ⟨rfl, hx_33⟩ := q32
      rw [hl_33.2] at hx_33
      have hX_33 : XAt cell32 adr kc σ hn hi L ch := hx_33
      refine g_eqst (st1 := ([.int (-1000001)] : List Value)) (by rw [hl_33.1]) ?_
      refine g_ldc C (-1000001) k38 dL_acts_264 ?_
      refine g_icmp_ne C 273 (by decide) dL_acts_266 (fun c266 => ?_) (fun c266 => ?_)
      · -- taken at 266
        have c266' := i_ne c266
        exact False.elim (c266 rfl)
      · -- not taken at 266
        have c266' := i_eq c266
        refine g_iconst C 1 (by decide) dL_acts_269 ?_
        refine g_goto C 274 (by decide) dL_acts_270 ?_
        refine g_iret C hr rfl hlk dL_acts_274 ?_
        exact ⟨rfl, _, _, _, hX_33, hI⟩
  have c22n4 := i_ne c22_4
  by_cases c22_5 : (nI (a % 8)) = 5
  · have c22' := i_eq c22_5
    refine g_tableIn C 381 (by rw [c22_5]; decide) (by rw [c22_5]; decide) (by rw [c22_5] <;> rfl) (by decide) dL_acts_22 ?_
    refine g_iload_n C 1 rfl dL_acts_381 ?_
    refine g_if_ne C 402 (by decide) dL_acts_382 (fun c382 => ?_) (fun c382 => ?_)
    · -- taken at 382
      have c382' := i_ne c382
      have hmod : a / 8 % σ.1 < σ.1 := Nat.mod_lt _ (by omega)
      refine g_aload_n C 3 rfl dL_acts_402 ?_
      refine g_iload_n C 2 rfl dL_acts_403 ?_
      refine g_iload_n C 1 rfl dL_acts_404 ?_
      refine g_irem C (by intro hz9; have hz8 := i_eq hz9; omega) dL_acts_405 ?_
      refine g_eqst (st1 := ([.int (nI ((a / 8) % (σ.1))), .ref (adr 0)] : List Value)) (congrArg (fun z0 : Int32 => (([.int z0, .ref (adr 0)] : List Value))) (pk_rem (a := (a / 8)) (d := (σ.1)) (by omega) (by omega) (by omega))) ?_
      refine g_Vi C [.int (nI ((a / 8) % (σ.1)))] 0 6 (by omega) hX.1 rfl (c_X6_wordAt l D kc N adr cell σ hn hi L ch (nI ((a / 8) % (σ.1))) hX hI.1 hN) (cwV 1 C.2.2.2.2.1 gL_acts_X6_wordAt rfl rfl rfl (by decide +kernel) ⟨Nat.le_of_ble_eq_true rfl, Nat.le_of_ble_eq_true rfl⟩) rfl rfl (Nat.le_of_ble_eq_true rfl) (Nat.zero_le _) (Nat.zero_le _) dL_acts_406 (fun v34 cell34 q34 => ?_)
      obtain ⟨rfl, rfl⟩ := q34
      refine g_eqst (st1 := ([.int (σ.2.2.2.1 (a / 8 % (σ.1)))] : List Value)) (by rw [wordAt_in hmod hnn]) ?_
      refine g_istore C [(10, .int (σ.2.2.2.1 (a / 8 % (σ.1)))), (4, .int (nI (σ.2.1))), (3, .int (nI (σ.1))), (2, .int (nI (a / 8))), (0, .ref (adr 0)), (1, .int (nI a))] (by decide) rfl dL_acts_409 ?_
      refine g_aload_n C 4 rfl dL_acts_411 ?_
      refine g_iload_n C 3 rfl dL_acts_412 ?_
      refine g_iload_n C 2 rfl dL_acts_413 ?_
      refine g_irem C (by intro hz9; have hz8 := i_eq hz9; omega) dL_acts_414 ?_
      refine g_eqst (st1 := ([.int (nI ((a / 8) % (σ.1))), .ref (adr 0)] : List Value)) (congrArg (fun z0 : Int32 => (([.int z0, .ref (adr 0)] : List Value))) (pk_rem (a := (a / 8)) (d := (σ.1)) (by omega) (by omega) (by omega))) ?_
      refine g_iload_n C 3 rfl dL_acts_415 ?_
      refine g_bipush C 64 (by decide) dL_acts_416 ?_
      refine g_idiv C (by decide) dL_acts_418 ?_
      refine g_eqst (st1 := ([.int (nI ((a / 8) / 64)), .int (nI ((a / 8) % (σ.1))), .ref (adr 0)] : List Value)) (congrArg (fun z0 : Int32 => (([.int z0, .int (nI ((a / 8) % (σ.1))), .ref (adr 0)] : List Value))) (pk_div (a := (a / 8)) (d := 64) (by omega) (by omega) (by omega))) ?_
      refine g_bipush C 7 (by decide) dL_acts_419 ?_
      refine g_irem C (by decide) dL_acts_421 ?_
      refine g_eqst (st1 := ([.int (nI (((a / 8) / 64) % 7)), .int (nI ((a / 8) % (σ.1))), .ref (adr 0)] : List Value)) (congrArg (fun z0 : Int32 => (([.int z0, .int (nI ((a / 8) % (σ.1))), .ref (adr 0)] : List Value))) (pk_rem (a := ((a / 8) / 64)) (d := 7) (by omega) (by omega) (by omega))) ?_
      refine g_Vi C [.int (nI ((a / 8) % (σ.1))), .int (nI (((a / 8) / 64) % 7))] 0 6 (by omega) hX.1 rfl (c_X6_change l D kc N adr cell σ hn hi L ch (nI ((a / 8) % (σ.1))) (nI (((a / 8) / 64) % 7)) hX hI.1 hN) (cwV 2 C.2.2.2.2.1 gL_acts_X6_change rfl rfl rfl (by decide +kernel) ⟨Nat.le_of_ble_eq_true rfl, Nat.le_of_ble_eq_true rfl⟩) rfl rfl (Nat.le_of_ble_eq_true rfl) (Nat.zero_le _) (Nat.zero_le _) dL_acts_422 (fun v35 cell35 q35 => ?_)
      have hl_36 := change_ok (w := nI (a / 8 / 64 % 7)) hnn hmod ⟨by rw [nI_toInt (n := (a / 8 / 64 % 7)) (by omega)]; omega, by rw [nI_toInt (n := (a / 8 / 64 % 7)) (by omega)]; omega⟩
      obtain ⟨rfl, hx_36⟩ := q35
      rw [hl_36.2] at hx_36
      have hX_36 : XAt cell35 adr kc (chgD (a / 8 % (σ.1)) (nI (a / 8 / 64 % 7)) σ) (rcN hn) (rcH hn hi σ) L ch := hx_36
      have hI_36 : Inv (chgD (a / 8 % (σ.1)) (nI (a / 8 / 64 % 7)) σ) := inv_chg hI ⟨by rw [nI_toInt (n := (a / 8 / 64 % 7)) (by omega)]; omega, by rw [nI_toInt (n := (a / 8 / 64 % 7)) (by omega)]; omega⟩
      refine g_eqst (st1 := ([.int (σ.2.2.2.1 (a / 8 % (σ.1)))] : List Value)) (by rw [hl_36.1]) ?_
      refine g_iload C 0 rfl dL_acts_425 ?_
      refine g_icmp_ne C 434 (by decide) dL_acts_427 (fun c427 => ?_) (fun c427 => ?_)
      · -- taken at 427
        have c427' := i_ne c427
        exact False.elim (c427 rfl)
      · -- not taken at 427
        have c427' := i_eq c427
        refine g_iconst C 1 (by decide) dL_acts_430 ?_
        refine g_goto C 435 (by decide) dL_acts_431 ?_
        refine g_istore C [(11, .int 1), (10, .int (σ.2.2.2.1 (a / 8 % (σ.1)))), (4, .int (nI (σ.2.1))), (3, .int (nI (σ.1))), (2, .int (nI (a / 8))), (0, .ref (adr 0)), (1, .int (nI a))] (by decide) rfl dL_acts_435 ?_
        refine g_iconst C 0 (by decide) dL_acts_437 ?_
        refine g_istore C [(12, .int 0), (11, .int 1), (10, .int (σ.2.2.2.1 (a / 8 % (σ.1)))), (4, .int (nI (σ.2.1))), (3, .int (nI (σ.1))), (2, .int (nI (a / 8))), (0, .ref (adr 0)), (1, .int (nI a))] (by decide) rfl dL_acts_438 ?_
        have L440 : ∀ (fu i : Nat) , i ≤ σ.2.1 → σ.2.1 < i + fu → G Pg l Ev (headSpec wsL_acts { frames := 7, cells := 0, slots := 0, locals := 176 }).room Sv Mi args below Me Cd D N adr Ar Sv.heap 16 0 0 (MQ below (va_Qi (fun (v : Int32) (cell1 : Nat → va_E) => 1 = v ∧ ∃ (σ1 : SD) (hn1 : Nat) (hi1 : Nat → SD), XAt cell1 adr kc σ1 hn1 hi1 L ch ∧ Inv σ1) (fun (cell1 : Nat → va_E) (t : State) => va_P D vwCl (wld N adr cell1) t.heap) Ar) args Sv 0 0 Ar) cell35 440 [(0, .ref (adr 0)), (2, .int (nI (a / 8))), (3, .int (nI (σ.1))), (4, .int (nI (σ.2.1))), (11, .int 1), (12, .int (nI i))] ([] : List Value) := by
          intro fu
          induction fu with
          | zero => intro i  hle hfu; exact absurd hfu (by omega)
          | succ fu ih =>
            intro i  hle440 hfu440  
            have tn_i : (nI i).toInt = ((i : Nat) : Int) := nI_toInt (by omega)
            refine g_iload C 5 rfl dL_acts_440 ?_
            refine g_iload C 3 rfl dL_acts_442 ?_
            refine g_icmp_ge C 478 (by decide) dL_acts_444 (fun c444 => ?_) (fun c444 => ?_)
            · -- taken at 444
              have c444' := i_le c444
              refine g_iload C 4 rfl dL_acts_478 ?_
              refine g_iret C hr rfl hlk dL_acts_480 ?_
              exact ⟨rfl, _, _, _, hX_36, hI_36⟩
            · -- not taken at 444
              have c444' := i_nle c444
              refine g_iload C 4 rfl dL_acts_447 ?_
              refine g_if_eq C 469 (by decide) dL_acts_449 (fun c449 => ?_) (fun c449 => ?_)
              · -- taken at 449
                have c449' := i_eq c449
                exact absurd c449 (by decide)
              · -- not taken at 449
                have c449' := i_ne c449
                have him : i < σ.2.1 := by omega
                obtain ⟨x9, ex9⟩ : ∃ x9 : Int32, x9 = anchorOfR (chgD (a / 8 % (σ.1)) (nI (a / 8 / 64 % 7)) σ) (nI i) 1 := ⟨_, rfl⟩
                have hn9 : ¬ x9 = nI (a / 8 % (σ.1)) := by rw [ex9]; exact chg_true hI.1 him hmod
                refine g_aload_n C 0 rfl dL_acts_452 ?_
                refine g_iload C 5 rfl dL_acts_453 ?_
                refine g_iconst C 1 (by decide) dL_acts_455 ?_
                refine g_Vi C [.int (nI i), .int 1] 0 6 (by omega) hX_36.1 rfl (c_X6_anchorOf l D kc N adr cell35 (chgD (a / 8 % (σ.1)) (nI (a / 8 / 64 % 7)) σ) (rcN hn) (rcH hn hi σ) L ch (nI i) 1 hX_36 hI_36.1 hN) (cwV 2 C.2.2.2.2.1 gL_acts_X6_anchorOf rfl rfl rfl (by decide +kernel) ⟨Nat.le_of_ble_eq_true rfl, Nat.le_of_ble_eq_true rfl⟩) rfl rfl (Nat.le_of_ble_eq_true rfl) (Nat.zero_le _) (Nat.zero_le _) dL_acts_456 (fun v37 cell37 q37 => ?_)
                obtain ⟨rfl, rfl⟩ := q37
                refine g_eqst (st1 := ([.int x9] : List Value)) (by rw [ex9.symm]) ?_
                refine g_iload_n C 1 rfl dL_acts_459 ?_
                refine g_iload_n C 2 rfl dL_acts_460 ?_
                refine g_irem C (by intro hz9; have hz8 := i_eq hz9; omega) dL_acts_461 ?_
                refine g_eqst (st1 := ([.int (nI ((a / 8) % (σ.1))), .int x9] : List Value)) (congrArg (fun z0 : Int32 => (([.int z0, .int x9] : List Value))) (pk_rem (a := (a / 8)) (d := (σ.1)) (by omega) (by omega) (by omega))) ?_
                refine g_icmp_eq C 469 (by decide) dL_acts_462 (fun c462 => ?_) (fun c462 => ?_)
                · -- taken at 462
                  have c462' := i_eq c462
                  exact False.elim (hn9 c462)
                · -- not taken at 462
                  have c462' := i_ne c462
                  refine g_iconst C 1 (by decide) dL_acts_465 ?_
                  refine g_goto C 470 (by decide) dL_acts_466 ?_
                  refine g_istore C [(11, .int 1), (0, .ref (adr 0)), (2, .int (nI (a / 8))), (3, .int (nI (σ.1))), (4, .int (nI (σ.2.1))), (12, .int (nI i))] (by decide) rfl dL_acts_470 ?_
                  refine g_iinc C 5 [(12, .int (nI (i + 1))), (11, .int 1), (0, .ref (adr 0)), (2, .int (nI (a / 8))), (3, .int (nI (σ.1))), (4, .int (nI (σ.2.1)))] rfl (iinc_nI i) (by decide) rfl dL_acts_472 ?_
                  refine g_goto C 440 (by decide) dL_acts_475 ?_
                  refine g_sub [2, 3, 4, 5, 1, 0] rfl ?_
                  exact ih (i + 1) (by omega) (by omega) 
        refine g_sub [6, 5, 4, 3, 1, 0] rfl ?_
        exact L440 (σ.2.1 + 1) 0 (by omega) (by omega) 
    · -- not taken at 382
      have c382' := i_eq c382
      refine g_aload_n C 3 rfl dL_acts_385 ?_
      refine g_iconst C 0 (by decide) dL_acts_386 ?_
      refine g_iconst C 1 (by decide) dL_acts_387 ?_
      refine g_Vi C [.int 0, .int 1] 0 6 (by omega) hX.1 rfl (c_X6_change l D kc N adr cell σ hn hi L ch 0 1 hX hI.1 hN) (cwV 2 C.2.2.2.2.1 gL_acts_X6_change rfl rfl rfl (by decide +kernel) ⟨Nat.le_of_ble_eq_true rfl, Nat.le_of_ble_eq_true rfl⟩) rfl rfl (Nat.le_of_ble_eq_true rfl) (Nat.zero_le _) (Nat.zero_le _) dL_acts_388 (fun v38 cell38 q38 => ?_)
      have hl_39 := change_no (σ := σ) (by omega)
      obtain ⟨rfl, hx_39⟩ := q38
      rw [hl_39.2] at hx_39
      have hX_39 : XAt cell38 adr kc σ hn hi L ch := hx_39
      refine g_eqst (st1 := ([.int (-1000001)] : List Value)) (by rw [hl_39.1]) ?_
      refine g_ldc C (-1000001) k38 dL_acts_391 ?_
      refine g_icmp_ne C 400 (by decide) dL_acts_393 (fun c393 => ?_) (fun c393 => ?_)
      · -- taken at 393
        have c393' := i_ne c393
        exact False.elim (c393 rfl)
      · -- not taken at 393
        have c393' := i_eq c393
        refine g_iconst C 1 (by decide) dL_acts_396 ?_
        refine g_goto C 401 (by decide) dL_acts_397 ?_
        refine g_iret C hr rfl hlk dL_acts_401 ?_
        exact ⟨rfl, _, _, _, hX_39, hI⟩
  have c22n5 := i_ne c22_5
  by_cases c22_6 : (nI (a % 8)) = 6
  · have c22' := i_eq c22_6
    refine g_tableIn C 481 (by rw [c22_6]; decide) (by rw [c22_6]; decide) (by rw [c22_6] <;> rfl) (by decide) dL_acts_22 ?_
    refine g_aload_n C 3 rfl dL_acts_481 ?_
    refine g_iconst C 2 (by decide) dL_acts_482 ?_
    refine g_Vi C [.int 2] 0 6 (by omega) hX.1 rfl (c_X6_anchors l D kc N adr cell σ hn hi L ch 2 hX hI.1 hN) (cwV 1 C.2.2.2.2.1 gL_acts_X6_anchors rfl rfl rfl (by decide +kernel) ⟨Nat.le_of_ble_eq_true rfl, Nat.le_of_ble_eq_true rfl⟩) rfl rfl (Nat.le_of_ble_eq_true rfl) (Nat.zero_le _) (Nat.zero_le _) dL_acts_483 (fun v40 cell40 q40 => ?_)
    obtain ⟨rfl, rfl⟩ := q40
    refine g_eqst (st1 := ([.int (aKs σ 2 σ.2.1)] : List Value)) (by rw [anchors_x (σ := σ) (x := 2) (by decide)]) ?_
    refine g_istore C [(12, .int (aKs σ 2 σ.2.1)), (4, .int (nI (σ.2.1))), (3, .int (nI (σ.1))), (2, .int (nI (a / 8))), (0, .ref (adr 0)), (1, .int (nI a))] (by decide) rfl dL_acts_486 ?_
    refine g_aload_n C 4 rfl dL_acts_488 ?_
    refine g_Vi C [] 0 6 (by omega) hX.1 rfl (c_X6_findAll l D kc N adr cell σ hn hi L ch  hX hI.1 hN) (cwV 0 C.2.2.2.2.1 gL_acts_X6_findAll rfl rfl rfl (by decide +kernel) ⟨Nat.le_of_ble_eq_true rfl, Nat.le_of_ble_eq_true rfl⟩) rfl rfl (Nat.le_of_ble_eq_true rfl) (Nat.zero_le _) (Nat.zero_le _) dL_acts_489 (fun v41 cell41 q41 => ?_)
    have hl_42 := (show findAllR σ = nI (cnt (fun k => decide (¬ aH σ k = 0)) σ.2.1) ∧ findAllO σ = some (faD σ σ.2.1) from ⟨rfl, rfl⟩)
    obtain ⟨rfl, hx_42⟩ := q41
    rw [hl_42.2] at hx_42
    have hX_42 : XAt cell41 adr kc (faD σ σ.2.1) (rcN hn) (rcH hn hi σ) L ch := hx_42
    have hI_42 : Inv (faD σ σ.2.1) := inv_fa hI
    refine g_eqst (st1 := ([.int (nI (cnt (fun k => decide (¬ aH σ k = 0)) σ.2.1))] : List Value)) (by rw [hl_42.1]) ?_
    have hcl := cnt_le (fun k => decide (¬ aH σ k = 0)) σ.2.1
    have tcl : (nI (cnt (fun k => decide (¬ aH σ k = 0)) σ.2.1)).toInt = ((cnt (fun k => decide (¬ aH σ k = 0)) σ.2.1 : Nat) : Int) := nI_toInt (by omega)
    refine g_istore C [(13, .int (nI (cnt (fun k => decide (¬ aH σ k = 0)) σ.2.1))), (12, .int (aKs σ 2 σ.2.1)), (4, .int (nI (σ.2.1))), (3, .int (nI (σ.1))), (2, .int (nI (a / 8))), (0, .ref (adr 0)), (1, .int (nI a))] (by decide) rfl dL_acts_492 ?_
    refine g_iload C 0 rfl dL_acts_494 ?_
    refine g_if_lt C 538 (by decide) dL_acts_496 (fun c496 => ?_) (fun c496 => ?_)
    · -- taken at 496
      have c496' := i_lt c496
      exfalso; omega
    · -- not taken at 496
      have c496' := i_nlt c496
      refine g_iload C 0 rfl dL_acts_499 ?_
      refine g_iload C 2 rfl dL_acts_501 ?_
      refine g_icmp_gt C 538 (by decide) dL_acts_503 (fun c503 => ?_) (fun c503 => ?_)
      · -- taken at 503
        have c503' := i_lt c503
        exfalso; omega
      · -- not taken at 503
        have c503' := i_nlt c503
        refine g_aload_n C 5 rfl dL_acts_506 ?_
        refine g_iconst C 2 (by decide) dL_acts_507 ?_
        refine g_Vi C [.int 2] 0 6 (by omega) hX_42.1 rfl (c_X6_anchors l D kc N adr cell41 (faD σ σ.2.1) (rcN hn) (rcH hn hi σ) L ch 2 hX_42 hI_42.1 hN) (cwV 1 C.2.2.2.2.1 gL_acts_X6_anchors rfl rfl rfl (by decide +kernel) ⟨Nat.le_of_ble_eq_true rfl, Nat.le_of_ble_eq_true rfl⟩) rfl rfl (Nat.le_of_ble_eq_true rfl) (Nat.zero_le _) (Nat.zero_le _) dL_acts_508 (fun v43 cell43 q43 => ?_)
        obtain ⟨rfl, rfl⟩ := q43
        refine g_eqst (st1 := ([.int (aKs σ 2 σ.2.1)] : List Value)) (by rw [show anchorsR (faD σ σ.2.1) 2 = aKs σ 2 σ.2.1 from (anchors_x (σ := faD σ σ.2.1) (x := 2) (by decide)).trans (fa_lost hnn)]) ?_
        refine g_iload C 1 rfl dL_acts_511 ?_
        refine g_icmp_ne C 538 (by decide) dL_acts_513 (fun c513 => ?_) (fun c513 => ?_)
        · -- taken at 513
          have c513' := i_ne c513
          exact False.elim (c513 rfl)
        · -- not taken at 513
          have c513' := i_eq c513
          refine g_aload_n C 5 rfl dL_acts_516 ?_
          refine g_iconst C 0 (by decide) dL_acts_517 ?_
          refine g_iconst C 0 (by decide) dL_acts_518 ?_
          refine g_Vi C [.int 0, .int 0] 0 6 (by omega) hX_42.1 rfl (c_X6_blockOf l D kc N adr cell41 (faD σ σ.2.1) (rcN hn) (rcH hn hi σ) L ch 0 0 hX_42 hI_42.1 hN) (cwV 2 C.2.2.2.2.1 gL_acts_X6_blockOf rfl rfl rfl (by decide +kernel) ⟨Nat.le_of_ble_eq_true rfl, Nat.le_of_ble_eq_true rfl⟩) rfl rfl (Nat.le_of_ble_eq_true rfl) (Nat.zero_le _) (Nat.zero_le _) dL_acts_519 (fun v44 cell44 q44 => ?_)
          obtain ⟨rfl, hX_45⟩ := q44
          refine g_eqst (st1 := ([.int (-1000004)] : List Value)) (by rw [show blockOfR (faD σ σ.2.1) 0 0 = -1000004 from fa_block hnn]) ?_
          refine g_ldc C (-1000004) k58 dL_acts_522 ?_
          refine g_icmp_ne C 538 (by decide) dL_acts_524 (fun c524 => ?_) (fun c524 => ?_)
          · -- taken at 524
            have c524' := i_ne c524
            exact False.elim (c524 rfl)
          · -- not taken at 524
            have c524' := i_eq c524
            refine g_aload_n C 5 rfl dL_acts_527 ?_
            refine g_Vi C [] 0 6 (by omega) hX_45.1 rfl (c_X6_findAll l D kc N adr cell44 (faD σ σ.2.1) (rcN hn) (rcH hn hi σ) L ch  hX_45 hI_42.1 hN) (cwV 0 C.2.2.2.2.1 gL_acts_X6_findAll rfl rfl rfl (by decide +kernel) ⟨Nat.le_of_ble_eq_true rfl, Nat.le_of_ble_eq_true rfl⟩) rfl rfl (Nat.le_of_ble_eq_true rfl) (Nat.zero_le _) (Nat.zero_le _) dL_acts_528 (fun v46 cell46 q46 => ?_)
            have hl_47 := (show findAllR (faD σ σ.2.1) = 0 ∧ findAllO (faD σ σ.2.1) = some (faD (faD σ σ.2.1) σ.2.1) from ⟨fa_none hnn, rfl⟩)
            obtain ⟨rfl, hx_47⟩ := q46
            rw [hl_47.2] at hx_47
            have hX_47 : XAt cell46 adr kc (faD (faD σ σ.2.1) σ.2.1) (rcN (rcN hn)) (rcH (rcN hn) (rcH hn hi σ) (faD σ σ.2.1)) L ch := hx_47
            have hI_47 : Inv (faD (faD σ σ.2.1) σ.2.1) := inv_fa hI_42
            refine g_eqst (st1 := ([.int 0] : List Value)) (by rw [hl_47.1]) ?_
            refine g_if_ne C 538 (by decide) dL_acts_531 (fun c531 => ?_) (fun c531 => ?_)
            · -- taken at 531
              have c531' := i_ne c531
              exact absurd c531 (by decide)
            · -- not taken at 531
              have c531' := i_eq c531
              refine g_iconst C 1 (by decide) dL_acts_534 ?_
              refine g_goto C 539 (by decide) dL_acts_535 ?_
              refine g_iret C hr rfl hlk dL_acts_539 ?_
              exact ⟨rfl, _, _, _, hX_47, hI_47⟩
  have c22n6 := i_ne c22_6
  refine g_tableOut C 540 (by have hl0 : (0 : Int32).toInt = 0 := rfl; have hl1 : (1 : Int32).toInt = 1 := rfl; have hl2 : (2 : Int32).toInt = 2 := rfl; have hl3 : (3 : Int32).toInt = 3 := rfl; have hl4 : (4 : Int32).toInt = 4 := rfl; have hl5 : (5 : Int32).toInt = 5 := rfl; have hl6 : (6 : Int32).toInt = 6 := rfl; omega) (by decide) dL_acts_22 ?_
  refine g_iload C 0 rfl dL_acts_540 ?_
  refine g_if_ne C 561 (by decide) dL_acts_542 (fun c542 => ?_) (fun c542 => ?_)
  · -- taken at 542
    have c542' := i_ne c542
    have hmod : a / 8 % σ.2.1 < σ.2.1 := Nat.mod_lt _ (by omega)
    refine g_aload_n C 3 rfl dL_acts_561 ?_
    refine g_iload_n C 2 rfl dL_acts_562 ?_
    refine g_iload C 0 rfl dL_acts_563 ?_
    refine g_irem C (by intro hz9; have hz8 := i_eq hz9; omega) dL_acts_565 ?_
    refine g_eqst (st1 := ([.int (nI ((a / 8) % (σ.2.1))), .ref (adr 0)] : List Value)) (congrArg (fun z0 : Int32 => (([.int z0, .ref (adr 0)] : List Value))) (pk_rem (a := (a / 8)) (d := (σ.2.1)) (by omega) (by omega) (by omega))) ?_
    refine g_iconst C 0 (by decide) dL_acts_566 ?_
    refine g_Vi C [.int (nI ((a / 8) % (σ.2.1))), .int 0] 0 6 (by omega) hX.1 rfl (c_X6_anchorOf l D kc N adr cell σ hn hi L ch (nI ((a / 8) % (σ.2.1))) 0 hX hI.1 hN) (cwV 2 C.2.2.2.2.1 gL_acts_X6_anchorOf rfl rfl rfl (by decide +kernel) ⟨Nat.le_of_ble_eq_true rfl, Nat.le_of_ble_eq_true rfl⟩) rfl rfl (Nat.le_of_ble_eq_true rfl) (Nat.zero_le _) (Nat.zero_le _) dL_acts_567 (fun v48 cell48 q48 => ?_)
    obtain ⟨rfl, rfl⟩ := q48
    refine g_eqst (st1 := ([.int (σ.2.2.2.2.2.2.2.1 (a / 8 % (σ.2.1)))] : List Value)) (by rw [anc_0 hmod hm]) ?_
    refine g_istore C [(14, .int (σ.2.2.2.2.2.2.2.1 (a / 8 % (σ.2.1)))), (4, .int (nI (σ.2.1))), (3, .int (nI (σ.1))), (2, .int (nI (a / 8))), (0, .ref (adr 0)), (1, .int (nI a))] (by decide) rfl dL_acts_570 ?_
    refine g_aload_n C 4 rfl dL_acts_572 ?_
    refine g_iload_n C 3 rfl dL_acts_573 ?_
    refine g_iload C 1 rfl dL_acts_574 ?_
    refine g_irem C (by intro hz9; have hz8 := i_eq hz9; omega) dL_acts_576 ?_
    refine g_eqst (st1 := ([.int (nI ((a / 8) % (σ.2.1))), .ref (adr 0)] : List Value)) (congrArg (fun z0 : Int32 => (([.int z0, .ref (adr 0)] : List Value))) (pk_rem (a := (a / 8)) (d := (σ.2.1)) (by omega) (by omega) (by omega))) ?_
    refine g_Vi C [.int (nI ((a / 8) % (σ.2.1)))] 0 6 (by omega) hX.1 rfl (c_X6_remember l D kc N adr cell σ hn hi L ch (nI ((a / 8) % (σ.2.1))) hX hI.1 hN) (cwV 1 C.2.2.2.2.1 gL_acts_X6_remember rfl rfl rfl (by decide +kernel) ⟨Nat.le_of_ble_eq_true rfl, Nat.le_of_ble_eq_true rfl⟩) rfl rfl (Nat.le_of_ble_eq_true rfl) (Nat.zero_le _) (Nat.zero_le _) dL_acts_577 (fun v49 cell49 q49 => ?_)
    by_cases hpl : (σ.2.2.2.2.2.2.2.1 (a / 8 % (σ.2.1))).toInt < σ.1
    · -- there
      have hl_50 := rem_ok hI.1 hmod hpl
      obtain ⟨rfl, hx_50⟩ := q49
      rw [hl_50.2] at hx_50
      have hX_50 : XAt cell49 adr kc (remembD (a / 8 % (σ.2.1)) σ) (rcN hn) (rcH hn hi σ) L ch := hx_50
      have hI_50 : Inv (remembD (a / 8 % (σ.2.1)) σ) := inv_rememb hI hmod hpl
      refine g_eqst (st1 := ([.int (nI (cnt (fun j => decide (¬ σ.2.2.2.2.2.2.2.2.2 (a / 8 % (σ.2.1)) j = lookF σ.1 σ.2.2.2.1 (σ.2.2.2.2.2.2.2.1 (a / 8 % (σ.2.1))) j)) 5))] : List Value)) (by rw [hl_50.1]) ?_
      have hcl := cnt_le (fun j => decide (¬ σ.2.2.2.2.2.2.2.2.2 (a / 8 % (σ.2.1)) j = lookF σ.1 σ.2.2.2.1 (σ.2.2.2.2.2.2.2.1 (a / 8 % (σ.2.1))) j)) 5
      have tcl : (nI (cnt (fun j => decide (¬ σ.2.2.2.2.2.2.2.2.2 (a / 8 % (σ.2.1)) j = lookF σ.1 σ.2.2.2.1 (σ.2.2.2.2.2.2.2.1 (a / 8 % (σ.2.1))) j)) 5)).toInt = ((cnt (fun j => decide (¬ σ.2.2.2.2.2.2.2.2.2 (a / 8 % (σ.2.1)) j = lookF σ.1 σ.2.2.2.1 (σ.2.2.2.2.2.2.2.1 (a / 8 % (σ.2.1))) j)) 5 : Nat) : Int) := nI_toInt (by omega)
      refine g_istore C [(15, .int (nI (cnt (fun j => decide (¬ σ.2.2.2.2.2.2.2.2.2 (a / 8 % (σ.2.1)) j = lookF σ.1 σ.2.2.2.1 (σ.2.2.2.2.2.2.2.1 (a / 8 % (σ.2.1))) j)) 5))), (14, .int (σ.2.2.2.2.2.2.2.1 (a / 8 % (σ.2.1)))), (4, .int (nI (σ.2.1))), (3, .int (nI (σ.1))), (2, .int (nI (a / 8))), (0, .ref (adr 0)), (1, .int (nI a))] (by decide) rfl dL_acts_580 ?_
      refine g_iload C 1 rfl dL_acts_582 ?_
      refine g_iload_n C 3 rfl dL_acts_584 ?_
      refine g_icmp_lt C 603 (by decide) dL_acts_585 (fun c585 => ?_) (fun c585 => ?_)
      · -- taken at 585
        have c585' := i_lt c585
        refine g_iload C 0 rfl dL_acts_603 ?_
        refine g_if_lt C 643 (by decide) dL_acts_605 (fun c605 => ?_) (fun c605 => ?_)
        · -- taken at 605
          have c605' := i_lt c605
          exfalso; omega
        · -- not taken at 605
          have c605' := i_nlt c605
          refine g_iload C 0 rfl dL_acts_608 ?_
          refine g_iconst C 5 (by decide) dL_acts_610 ?_
          refine g_icmp_gt C 643 (by decide) dL_acts_611 (fun c611 => ?_) (fun c611 => ?_)
          · -- taken at 611
            have c611' := i_lt c611
            exfalso; omega
          · -- not taken at 611
            have c611' := i_nlt c611
            refine g_aload_n C 5 rfl dL_acts_614 ?_
            refine g_iload_n C 4 rfl dL_acts_615 ?_
            refine g_iload C 2 rfl dL_acts_616 ?_
            refine g_irem C (by intro hz9; have hz8 := i_eq hz9; omega) dL_acts_618 ?_
            refine g_eqst (st1 := ([.int (nI ((a / 8) % (σ.2.1))), .ref (adr 0)] : List Value)) (congrArg (fun z0 : Int32 => (([.int z0, .ref (adr 0)] : List Value))) (pk_rem (a := (a / 8)) (d := (σ.2.1)) (by omega) (by omega) (by omega))) ?_
            refine g_iconst C 1 (by decide) dL_acts_619 ?_
            refine g_Vi C [.int (nI ((a / 8) % (σ.2.1))), .int 1] 0 6 (by omega) hX_50.1 rfl (c_X6_anchorOf l D kc N adr cell49 (remembD (a / 8 % (σ.2.1)) σ) (rcN hn) (rcH hn hi σ) L ch (nI ((a / 8) % (σ.2.1))) 1 hX_50 hI_50.1 hN) (cwV 2 C.2.2.2.2.1 gL_acts_X6_anchorOf rfl rfl rfl (by decide +kernel) ⟨Nat.le_of_ble_eq_true rfl, Nat.le_of_ble_eq_true rfl⟩) rfl rfl (Nat.le_of_ble_eq_true rfl) (Nat.zero_le _) (Nat.zero_le _) dL_acts_620 (fun v51 cell51 q51 => ?_)
            obtain ⟨rfl, rfl⟩ := q51
            refine g_eqst (st1 := ([.int (σ.2.2.2.2.2.2.2.1 (a / 8 % (σ.2.1)))] : List Value)) (by rw [show anchorOfR (remembD (a / 8 % (σ.2.1)) σ) (nI (a / 8 % (σ.2.1))) 1 = σ.2.2.2.2.2.2.2.1 (a / 8 % (σ.2.1)) from rem_true hI.1 hmod]) ?_
            refine g_iload C 1 rfl dL_acts_623 ?_
            refine g_icmp_ne C 643 (by decide) dL_acts_625 (fun c625 => ?_) (fun c625 => ?_)
            · -- taken at 625
              have c625' := i_ne c625
              exact False.elim (c625 rfl)
            · -- not taken at 625
              have c625' := i_eq c625
              refine g_aload_n C 5 rfl dL_acts_628 ?_
              refine g_iload_n C 4 rfl dL_acts_629 ?_
              refine g_iload C 2 rfl dL_acts_630 ?_
              refine g_irem C (by intro hz9; have hz8 := i_eq hz9; omega) dL_acts_632 ?_
              refine g_eqst (st1 := ([.int (nI ((a / 8) % (σ.2.1))), .ref (adr 0)] : List Value)) (congrArg (fun z0 : Int32 => (([.int z0, .ref (adr 0)] : List Value))) (pk_rem (a := (a / 8)) (d := (σ.2.1)) (by omega) (by omega) (by omega))) ?_
              refine g_Vi C [.int (nI ((a / 8) % (σ.2.1)))] 0 6 (by omega) hX_50.1 rfl (c_X6_remember l D kc N adr cell49 (remembD (a / 8 % (σ.2.1)) σ) (rcN hn) (rcH hn hi σ) L ch (nI ((a / 8) % (σ.2.1))) hX_50 hI_50.1 hN) (cwV 1 C.2.2.2.2.1 gL_acts_X6_remember rfl rfl rfl (by decide +kernel) ⟨Nat.le_of_ble_eq_true rfl, Nat.le_of_ble_eq_true rfl⟩) rfl rfl (Nat.le_of_ble_eq_true rfl) (Nat.zero_le _) (Nat.zero_le _) dL_acts_633 (fun v52 cell52 q52 => ?_)
              have hl_53 := rem_again hI.1 hmod hpl hI_50.1
              obtain ⟨rfl, hx_53⟩ := q52
              rw [hl_53.2] at hx_53
              have hX_53 : XAt cell52 adr kc (remembD (a / 8 % (σ.2.1)) (remembD (a / 8 % (σ.2.1)) σ)) (rcN (rcN hn)) (rcH (rcN hn) (rcH hn hi σ) (remembD (a / 8 % (σ.2.1)) σ)) L ch := hx_53
              have hI_53 : Inv (remembD (a / 8 % (σ.2.1)) (remembD (a / 8 % (σ.2.1)) σ)) := inv_rememb hI_50 hmod hpl
              refine g_eqst (st1 := ([.int 0] : List Value)) (by rw [hl_53.1]) ?_
              refine g_if_ne C 643 (by decide) dL_acts_636 (fun c636 => ?_) (fun c636 => ?_)
              · -- taken at 636
                have c636' := i_ne c636
                exact absurd c636 (by decide)
              · -- not taken at 636
                have c636' := i_eq c636
                refine g_iconst C 1 (by decide) dL_acts_639 ?_
                refine g_goto C 644 (by decide) dL_acts_640 ?_
                refine g_iret C hr rfl hlk dL_acts_644 ?_
                exact ⟨rfl, _, _, _, hX_53, hI_53⟩
      · -- not taken at 585
        have c585' := i_nlt c585
        exfalso; omega --done
    have hl_54 := rem_out hI.1 hmod (by omega)
    obtain ⟨rfl, hx_54⟩ := q49
    rw [hl_54.2] at hx_54
    have hX_54 : XAt cell49 adr kc σ hn hi L ch := hx_54
    refine g_eqst (st1 := ([.int (-1000002)] : List Value)) (by rw [hl_54.1]) ?_
    refine g_istore C [(15, .int (-1000002)), (14, .int (σ.2.2.2.2.2.2.2.1 (a / 8 % (σ.2.1)))), (4, .int (nI (σ.2.1))), (3, .int (nI (σ.1))), (2, .int (nI (a / 8))), (0, .ref (adr 0)), (1, .int (nI a))] (by decide) rfl dL_acts_580 ?_
    refine g_iload C 1 rfl dL_acts_582 ?_
    refine g_iload_n C 3 rfl dL_acts_584 ?_
    refine g_icmp_lt C 603 (by decide) dL_acts_585 (fun c585 => ?_) (fun c585 => ?_)
    · -- taken at 585
      have c585' := i_lt c585
      exfalso; omega --done
    · -- not taken at 585
      have c585' := i_nlt c585
      refine g_iload C 0 rfl dL_acts_588 ?_
      refine g_ldc C (-1000002) k62 dL_acts_590 ?_
      refine g_icmp_ne C 599 (by decide) dL_acts_592 (fun c592 => ?_) (fun c592 => ?_)
      · -- taken at 592
        have c592' := i_ne c592
        exact False.elim (c592 rfl)
      · -- not taken at 592
        have c592' := i_eq c592
        refine g_iconst C 1 (by decide) dL_acts_595 ?_
        refine g_goto C 644 (by decide) dL_acts_596 ?_
        refine g_iret C hr rfl hlk dL_acts_644 ?_
        exact ⟨rfl, _, _, _, hX_54, hI⟩
  · -- not taken at 542
    have c542' := i_eq c542
    refine g_aload_n C 3 rfl dL_acts_545 ?_
    refine g_iconst C 0 (by decide) dL_acts_546 ?_
    refine g_Vi C [.int 0] 0 6 (by omega) hX.1 rfl (c_X6_remember l D kc N adr cell σ hn hi L ch 0 hX hI.1 hN) (cwV 1 C.2.2.2.2.1 gL_acts_X6_remember rfl rfl rfl (by decide +kernel) ⟨Nat.le_of_ble_eq_true rfl, Nat.le_of_ble_eq_true rfl⟩) rfl rfl (Nat.le_of_ble_eq_true rfl) (Nat.zero_le _) (Nat.zero_le _) dL_acts_547 (fun v55 cell55 q55 => ?_)
    have hl_56 := rem_no (σ := σ) (by omega)
    obtain ⟨rfl, hx_56⟩ := q55
    rw [hl_56.2] at hx_56
    have hX_56 : XAt cell55 adr kc σ hn hi L ch := hx_56
    refine g_eqst (st1 := ([.int (-1000001)] : List Value)) (by rw [hl_56.1]) ?_
    refine g_ldc C (-1000001) k38 dL_acts_550 ?_
    refine g_icmp_ne C 559 (by decide) dL_acts_552 (fun c552 => ?_) (fun c552 => ?_)
    · -- taken at 552
      have c552' := i_ne c552
      exact False.elim (c552 rfl)
    · -- not taken at 552
      have c552' := i_eq c552
      refine g_iconst C 1 (by decide) dL_acts_555 ?_
      refine g_goto C 560 (by decide) dL_acts_556 ?_
      refine g_iret C hr rfl hlk dL_acts_560 ?_
      exact ⟨rfl, _, _, _, hX_56, hI⟩
