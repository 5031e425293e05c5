theorem nn_nI {v : Int32} (h : 0 ≤ v.toInt) : ∃ y : Nat, y < 2 ^ 31 ∧ v = nI y := ⟨v.toNatClampNeg, by have h1 := cl_toInt h; have h2 := t_rng v; omega, nI_cl h⟩
set_option maxRecDepth 100000 in
set_option maxHeartbeats 4000000 in
theorem law_body (l : Launch) {Pg : Program} {Ev : Env} {Sv : State} {Mi : MethodId} {below : List Frame} {Me : Method} {Cd : Code} {b L : Nat} {xs : Nat → Int32} {D : va_G} {kc : Nat → ClassId} {adr : Nat → Nat} {cell : Nat → va_E} (hL : L ≤ 260) (C0 : lw_At Pg Sv Mi Me Cd b L xs) (C : CX Pg Sv Mi #[Value.ref b] Cd cL_law RL wsL_law D kc 125 adr (AL Sv) Sv.heap 5) (hX : XAt cell adr kc s00 0 (fun _ => s00) 0 (fun _ => 0)) : G Pg l Ev room_1 Sv Mi #[Value.ref b] below Me Cd D 125 adr (AL Sv) Sv.heap 5 125 1233 (lw_Z below #[Value.ref b] Sv) cell 8 [(1, .ref (adr 0)), (0, .ref b)] ([] : List Value) := by
  obtain ⟨hx, hb, hr, hml, hown, hts, hXs, hbl, hlocks, hgv⟩ := C0
  have hT : va_T .int b L (fun j => .int (xs j)) (AL Sv) Sv Sv.heap := by
    obtain ⟨scr, h1, h2, h3, h4, h5⟩ := hXs
    exact ⟨scr, h1, h2, h3, Nat.le_of_eq h4.symm, by rw [h4], h5, Nat.not_le.mpr hbl⟩
  have litm1 : ((-1) : Int32).toInt = -1 := rfl
  have lit0 : (0 : Int32).toInt = 0 := rfl
  have lit1 : (1 : Int32).toInt = 1 := rfl
  have lit3 : (3 : Int32).toInt = 3 := rfl
  have lit6 : (6 : Int32).toInt = 6 := rfl
  have lit7 : (7 : Int32).toInt = 7 := rfl
  have lit32 : (32 : Int32).toInt = 32 := rfl
  have lit40 : (40 : Int32).toInt = 40 := rfl
  have lit99 : (99 : Int32).toInt = 99 := rfl
  refine g_aload_n C 0 rfl dL_law_8 ?_
  refine g_Si C [.ref (adr 0)] (c_L_holds l D kc 125 adr cell s00 0 ((fun _ => s00)) 0 (fun _ => 0)  hX inv_s00 (Nat.le_refl 125)) (va_cwS 1 C.2.2.2.2.1 gL_law_L_holds rfl rfl rfl (by decide +kernel) ⟨Nat.le_of_ble_eq_true rfl, Nat.le_of_ble_eq_true rfl⟩) rfl rfl (Nat.le_of_ble_eq_true rfl) (Nat.le_of_ble_eq_true rfl) (Nat.le_of_ble_eq_true rfl) dL_law_9 (fun v1 cell1 q1 => ?_)
  obtain ⟨rfl, rfl⟩ := q1
  refine g_istore_n C [(2, .int 1), (1, .ref (adr 0)), (0, .ref b)] (by decide) rfl dL_law_12 ?_
  refine g_iconst C 0 (by decide) dL_law_13 ?_
  refine g_istore_n C [(3, .int 0), (2, .int 1), (1, .ref (adr 0)), (0, .ref b)] (by decide) rfl dL_law_14 ?_
  have L15 : ∀ (fu k : Nat) (cl : Nat → va_E) (σ : SD) (hn : Nat) (hi : Nat → SD), k ≤ 6 → 6 < k + fu → (hX1 : XAt cl adr kc σ hn hi 0 (fun _ => 0)) → (hI1 : Inv σ) → (hk1 : σ.1 = k) → G Pg l Ev room_1 Sv Mi #[Value.ref b] below Me Cd D 125 adr (AL Sv) Sv.heap 5 125 1233 (lw_Z below #[Value.ref b] Sv) cl 15 [(1, .ref (adr 0)), (0, .ref b), (2, .int 1), (3, .int (nI k))] ([] : List Value) := by
    intro fu
    induction fu with
    | zero => intro k cl σ hn hi hle hfu; exact absurd hfu (by omega)
    | succ fu ih =>
      intro k cl σ hn hi hle15 hfu15  hX1 hI1 hk1
      have tn_k : (nI k).toInt = ((k : Nat) : Int) := nI_toInt (by omega)
      have hnn1 := hI1.1.1
      refine g_iload_n C 3 rfl dL_law_15 ?_
      refine g_bipush C 6 (by decide) dL_law_16 ?_
      refine g_icmp_ge C 56 (by decide) dL_law_18 (fun c18 => ?_) (fun c18 => ?_)
      · -- taken at 18
        have c18' := i_le c18
        refine g_iconst C 0 (by decide) dL_law_56 ?_
        refine g_istore_n C [(3, .int 0), (1, .ref (adr 0)), (0, .ref b), (2, .int 1)] (by decide) rfl dL_law_57 ?_
        have L58 : ∀ (fu k2 : Nat) (cm : Nat → va_E) (σ2 : SD) (hn2 : Nat) (hi2 : Nat → SD), k2 ≤ 32 → 32 < k2 + fu → (hX2 : XAt cm adr kc σ2 hn2 hi2 0 (fun _ => 0)) → (hI2 : Inv σ2) → G Pg l Ev room_1 Sv Mi #[Value.ref b] below Me Cd D 125 adr (AL Sv) Sv.heap 5 125 1233 (lw_Z below #[Value.ref b] Sv) cm 58 [(1, .ref (adr 0)), (0, .ref b), (2, .int 1), (3, .int (nI k2))] ([] : List Value) := by
          intro fu
          induction fu with
          | zero => intro k2 cm σ2 hn2 hi2 hle hfu; exact absurd hfu (by omega)
          | succ fu ih58 =>
            intro k2 cm σ2 hn2 hi2 hle58 hfu58  hX2 hI2
            have tn_k2 : (nI k2).toInt = ((k2 : Nat) : Int) := nI_toInt (by omega)
            have hnn2 := hI2.1.1
            have tn_s2 : (nI (σ2.1)).toInt = ((σ2.1 : Nat) : Int) := nI_toInt (by omega)
            refine g_iload_n C 3 rfl dL_law_58 ?_
            refine g_bipush C 32 (by decide) dL_law_59 ?_
            refine g_icmp_ge C 102 (by decide) dL_law_61 (fun c61 => ?_) (fun c61 => ?_)
            · -- taken at 61
              have c61' := i_le c61
              refine g_aload_n C 0 rfl dL_law_102 ?_
              refine g_iconst C 0 (by decide) dL_law_103 ?_
              refine g_Vi C [.int 0] 0 6 (by omega) hX2.1 rfl (c_X6_count l D kc 125 adr cm σ2 hn2 hi2 0 (fun _ => 0) 0 hX2 hI2.1 (Nat.le_refl 125)) (cwV 1 C.2.2.2.2.1 gL_law_X6_count rfl rfl rfl (by decide +kernel) ⟨Nat.le_of_ble_eq_true rfl, Nat.le_of_ble_eq_true rfl⟩) rfl rfl (Nat.le_of_ble_eq_true rfl) (Nat.le_of_ble_eq_true rfl) (Nat.le_of_ble_eq_true rfl) dL_law_104 (fun v2 cell2 q2 => ?_)
              obtain ⟨rfl, rfl⟩ := q2
              refine g_eqst (st1 := ([.int (nI (σ2.1))] : List Value)) (by rw [show countR σ2 hn2 0 0 = nI (σ2.1) from count_0]) ?_
              refine g_istore_n C [(3, .int (nI (σ2.1))), (1, .ref (adr 0)), (0, .ref b), (2, .int 1)] (by decide) rfl dL_law_107 ?_
              refine g_aload_n C 1 rfl dL_law_108 ?_
              refine g_iconst C 3 (by decide) dL_law_109 ?_
              refine g_Vi C [.int 3] 0 6 (by omega) hX2.1 rfl (c_X6_count l D kc 125 adr cm σ2 hn2 hi2 0 (fun _ => 0) 3 hX2 hI2.1 (Nat.le_refl 125)) (cwV 1 C.2.2.2.2.1 gL_law_X6_count rfl rfl rfl (by decide +kernel) ⟨Nat.le_of_ble_eq_true rfl, Nat.le_of_ble_eq_true rfl⟩) rfl rfl (Nat.le_of_ble_eq_true rfl) (Nat.le_of_ble_eq_true rfl) (Nat.le_of_ble_eq_true rfl) dL_law_110 (fun v3 cell3 q3 => ?_)
              obtain ⟨rfl, rfl⟩ := q3
              refine g_eqst (st1 := ([.int σ2.2.2.1] : List Value)) (by rw [show countR σ2 hn2 0 3 = σ2.2.2.1 from count_3]) ?_
              refine g_istore C [(4, .int σ2.2.2.1), (3, .int (nI (σ2.1))), (1, .ref (adr 0)), (0, .ref b), (2, .int 1)] (by decide) rfl dL_law_113 ?_
              refine g_iload_n C 4 rfl dL_law_115 ?_
              refine g_if_eq C 187 (by decide) dL_law_116 (fun c116 => ?_) (fun c116 => ?_)
              · -- taken at 116
                have c116' := i_eq c116
                exact absurd c116 (by decide)
              · -- not taken at 116
                have c116' := i_ne c116
                refine g_iload_n C 1 rfl dL_law_119 ?_
                refine g_bipush C 40 (by decide) dL_law_120 ?_
                refine g_icmp_eq C 157 (by decide) dL_law_122 (fun c122 => ?_) (fun c122 => ?_)
                · -- taken at 122
                  have c122' := i_eq c122
                  refine g_aload_n C 2 rfl dL_law_157 ?_
                  refine g_iconst C 0 (by decide) dL_law_158 ?_
                  refine g_Vi C [.int 0] 0 6 (by omega) hX2.1 rfl (c_X6_count l D kc 125 adr cm σ2 hn2 hi2 0 (fun _ => 0) 0 hX2 hI2.1 (Nat.le_refl 125)) (cwV 1 C.2.2.2.2.1 gL_law_X6_count rfl rfl rfl (by decide +kernel) ⟨Nat.le_of_ble_eq_true rfl, Nat.le_of_ble_eq_true rfl⟩) rfl rfl (Nat.le_of_ble_eq_true rfl) (Nat.le_of_ble_eq_true rfl) (Nat.le_of_ble_eq_true rfl) dL_law_159 (fun v4 cell4 q4 => ?_)
                  obtain ⟨rfl, rfl⟩ := q4
                  refine g_eqst (st1 := ([.int (nI (σ2.1))] : List Value)) (by rw [show countR σ2 hn2 0 0 = nI (σ2.1) from count_0]) ?_
                  refine g_iload_n C 1 rfl dL_law_162 ?_
                  refine g_icmp_ne C 187 (by decide) dL_law_163 (fun c163 => ?_) (fun c163 => ?_)
                  · -- taken at 163
                    have c163' := i_ne c163
                    exact False.elim (c163 rfl)
                  · -- not taken at 163
                    have c163' := i_eq c163
                    refine g_aload_n C 2 rfl dL_law_166 ?_
                    refine g_iconst C 3 (by decide) dL_law_167 ?_
                    refine g_Vi C [.int 3] 0 6 (by omega) hX2.1 rfl (c_X6_count l D kc 125 adr cm σ2 hn2 hi2 0 (fun _ => 0) 3 hX2 hI2.1 (Nat.le_refl 125)) (cwV 1 C.2.2.2.2.1 gL_law_X6_count rfl rfl rfl (by decide +kernel) ⟨Nat.le_of_ble_eq_true rfl, Nat.le_of_ble_eq_true rfl⟩) rfl rfl (Nat.le_of_ble_eq_true rfl) (Nat.le_of_ble_eq_true rfl) (Nat.le_of_ble_eq_true rfl) dL_law_168 (fun v5 cell5 q5 => ?_)
                    obtain ⟨rfl, rfl⟩ := q5
                    refine g_eqst (st1 := ([.int σ2.2.2.1] : List Value)) (by rw [show countR σ2 hn2 0 3 = σ2.2.2.1 from count_3]) ?_
                    refine g_iload C 0 rfl dL_law_171 ?_
                    refine g_icmp_ne C 187 (by decide) dL_law_173 (fun c173 => ?_) (fun c173 => ?_)
                    · -- taken at 173
                      have c173' := i_ne c173
                      exact False.elim (c173 rfl)
                    · -- not taken at 173
                      have c173' := i_eq c173
                      refine g_aload_n C 2 rfl dL_law_176 ?_
                      refine g_Si C [.ref (adr 0)] (c_L_holds l D kc 125 adr cm σ2 hn2 hi2 0 (fun _ => 0)  hX2 hI2 (Nat.le_refl 125)) (va_cwS 1 C.2.2.2.2.1 gL_law_L_holds rfl rfl rfl (by decide +kernel) ⟨Nat.le_of_ble_eq_true rfl, Nat.le_of_ble_eq_true rfl⟩) rfl rfl (Nat.le_of_ble_eq_true rfl) (Nat.le_of_ble_eq_true rfl) (Nat.le_of_ble_eq_true rfl) dL_law_177 (fun v6 cell6 q6 => ?_)
                      obtain ⟨rfl, rfl⟩ := q6
                      refine g_if_eq C 187 (by decide) dL_law_180 (fun c180 => ?_) (fun c180 => ?_)
                      · -- taken at 180
                        have c180' := i_eq c180
                        exact absurd c180 (by decide)
                      · -- not taken at 180
                        have c180' := i_ne c180
                        refine g_iconst C 1 (by decide) dL_law_183 ?_
                        refine g_goto C 188 (by decide) dL_law_184 ?_
                        intro H locs ls hP hS hl
                        refine va_forget (fun q hq => hS.2.2 q hq) ?_
                        refine W.widen (k := 600000) (n := 7302250) (Nat.le_of_ble_eq_true rfl) (Nat.le_of_ble_eq_true rfl) ?_
                        exact lw_ret hx hb hr hlocks dL_law_188
                · -- not taken at 122
                  have c122' := i_ne c122
                  refine g_aload_n C 2 rfl dL_law_125 ?_
                  refine g_iload_n C 1 rfl dL_law_126 ?_
                  refine g_bipush C 99 (by decide) dL_law_127 ?_
                  refine g_Vi C [.int (nI (σ2.1)), .int 99] 0 6 (by omega) hX2.1 rfl (c_X6_put l D kc 125 adr cm σ2 hn2 hi2 0 (fun _ => 0) (nI (σ2.1)) 99 hX2 hI2.1 (Nat.le_refl 125)) (cwV 2 C.2.2.2.2.1 gL_law_X6_put rfl rfl rfl (by decide +kernel) ⟨Nat.le_of_ble_eq_true rfl, Nat.le_of_ble_eq_true rfl⟩) rfl rfl (Nat.le_of_ble_eq_true rfl) (Nat.le_of_ble_eq_true rfl) (Nat.le_of_ble_eq_true rfl) dL_law_129 (fun v7 cell7 q7 => ?_)
                  have hl_8 := put_ok (σ := σ2) (q := σ2.1) (w := 99) (by omega) (Nat.le_refl _) (by decide)
                  obtain ⟨rfl, hx_8⟩ := q7
                  rw [hl_8.2] at hx_8
                  have hX_8 : XAt cell7 adr kc (insD σ2.1 99 σ2) (rcN hn2) (rcH hn2 hi2 σ2) 0 (fun _ => 0) := hx_8
                  have hI_8 : Inv (insD σ2.1 99 σ2) := inv_ins hI2 (Nat.le_refl _) (by omega) (by decide)
                  refine g_eqst (st1 := ([.int (nI (σ2.1 + 1))] : List Value)) (by rw [hl_8.1]) ?_
                  refine g_iload_n C 1 rfl dL_law_132 ?_
                  refine g_iconst C 1 (by decide) dL_law_133 ?_
                  refine g_iadd C dL_law_134 ?_
                  refine g_eqst (st1 := ([.int (nI (σ2.1 + 1)), .int (nI (σ2.1 + 1))] : List Value)) (congrArg (fun z0 : Int32 => (([.int z0, .int (nI (σ2.1 + 1))] : List Value))) (mI_add (σ2.1) 1)) ?_
                  refine g_icmp_ne C 187 (by decide) dL_law_135 (fun c135 => ?_) (fun c135 => ?_)
                  · -- taken at 135
                    have c135' := i_ne c135
                    exact False.elim (c135 rfl)
                  · -- not taken at 135
                    have c135' := i_eq c135
                    refine g_aload_n C 2 rfl dL_law_138 ?_
                    refine g_iconst C 3 (by decide) dL_law_139 ?_
                    refine g_Vi C [.int 3] 0 6 (by omega) hX_8.1 rfl (c_X6_count l D kc 125 adr cell7 (insD σ2.1 99 σ2) (rcN hn2) (rcH hn2 hi2 σ2) 0 (fun _ => 0) 3 hX_8 hI_8.1 (Nat.le_refl 125)) (cwV 1 C.2.2.2.2.1 gL_law_X6_count rfl rfl rfl (by decide +kernel) ⟨Nat.le_of_ble_eq_true rfl, Nat.le_of_ble_eq_true rfl⟩) rfl rfl (Nat.le_of_ble_eq_true rfl) (Nat.le_of_ble_eq_true rfl) (Nat.le_of_ble_eq_true rfl) dL_law_140 (fun v9 cell9 q9 => ?_)
                    obtain ⟨rfl, rfl⟩ := q9
                    refine g_eqst (st1 := ([.int (σ2.2.2.1 + 1)] : List Value)) (by rw [show countR (insD σ2.1 99 σ2) (rcN hn2) 0 3 = σ2.2.2.1 + 1 from count_3]) ?_
                    refine g_iload C 0 rfl dL_law_143 ?_
                    refine g_iconst C 1 (by decide) dL_law_145 ?_
                    refine g_iadd C dL_law_146 ?_
                    refine g_icmp_ne C 187 (by decide) dL_law_147 (fun c147 => ?_) (fun c147 => ?_)
                    · -- taken at 147
                      have c147' := i_ne c147
                      exact False.elim (c147 rfl)
                    · -- not taken at 147
                      have c147' := i_eq c147
                      refine g_aload_n C 2 rfl dL_law_150 ?_
                      refine g_Vi C [] 0 6 (by omega) hX_8.1 rfl (c_X6_undo l D kc 125 adr cell7 (insD σ2.1 99 σ2) (rcN hn2) (rcH hn2 hi2 σ2) 0 (fun _ => 0)  hX_8 hI_8.1 (Nat.le_refl 125)) (cwV 0 C.2.2.2.2.1 gL_law_X6_undo rfl rfl rfl (by decide +kernel) ⟨Nat.le_of_ble_eq_true rfl, Nat.le_of_ble_eq_true rfl⟩) rfl rfl (Nat.le_of_ble_eq_true rfl) (Nat.le_of_ble_eq_true rfl) (Nat.le_of_ble_eq_true rfl) dL_law_151 (fun v10 cell10 q10 => ?_)
                      obtain ⟨rfl, hx_11⟩ := q10
                      rw [rc_back] at hx_11
                      have hu_11 := rc_undo (hn := hn2) (XAt.h4 hX2)
                      refine g_if_lt C 187 (by decide) dL_law_154 (fun c154 => ?_) (fun c154 => ?_)
                      · -- taken at 154
                        have c154' := i_lt c154
                        exfalso; omega
                      · -- not taken at 154
                        have c154' := i_nlt c154
                        refine g_aload_n C 2 rfl dL_law_157 ?_
                        refine g_iconst C 0 (by decide) dL_law_158 ?_
                        refine g_Vi C [.int 0] 0 6 (by omega) hx_11.1 rfl (c_X6_count l D kc 125 adr cell10 σ2 ((rcN hn2 - 1)) ((rcH hn2 hi2 σ2)) 0 (fun _ => 0) 0 hx_11 hI2.1 (Nat.le_refl 125)) (cwV 1 C.2.2.2.2.1 gL_law_X6_count rfl rfl rfl (by decide +kernel) ⟨Nat.le_of_ble_eq_true rfl, Nat.le_of_ble_eq_true rfl⟩) rfl rfl (Nat.le_of_ble_eq_true rfl) (Nat.le_of_ble_eq_true rfl) (Nat.le_of_ble_eq_true rfl) dL_law_159 (fun v12 cell12 q12 => ?_)
                        obtain ⟨rfl, rfl⟩ := q12
                        refine g_eqst (st1 := ([.int (nI (σ2.1))] : List Value)) (by rw [show countR σ2 ((rcN hn2 - 1)) 0 0 = nI (σ2.1) from count_0]) ?_
                        refine g_iload_n C 1 rfl dL_law_162 ?_
                        refine g_icmp_ne C 187 (by decide) dL_law_163 (fun c163 => ?_) (fun c163 => ?_)
                        · -- taken at 163
                          have c163' := i_ne c163
                          exact False.elim (c163 rfl)
                        · -- not taken at 163
                          have c163' := i_eq c163
                          refine g_aload_n C 2 rfl dL_law_166 ?_
                          refine g_iconst C 3 (by decide) dL_law_167 ?_
                          refine g_Vi C [.int 3] 0 6 (by omega) hx_11.1 rfl (c_X6_count l D kc 125 adr cell10 σ2 ((rcN hn2 - 1)) ((rcH hn2 hi2 σ2)) 0 (fun _ => 0) 3 hx_11 hI2.1 (Nat.le_refl 125)) (cwV 1 C.2.2.2.2.1 gL_law_X6_count rfl rfl rfl (by decide +kernel) ⟨Nat.le_of_ble_eq_true rfl, Nat.le_of_ble_eq_true rfl⟩) rfl rfl (Nat.le_of_ble_eq_true rfl) (Nat.le_of_ble_eq_true rfl) (Nat.le_of_ble_eq_true rfl) dL_law_168 (fun v13 cell13 q13 => ?_)
                          obtain ⟨rfl, rfl⟩ := q13
                          refine g_eqst (st1 := ([.int σ2.2.2.1] : List Value)) (by rw [show countR σ2 ((rcN hn2 - 1)) 0 3 = σ2.2.2.1 from count_3]) ?_
                          refine g_iload C 0 rfl dL_law_171 ?_
                          refine g_icmp_ne C 187 (by decide) dL_law_173 (fun c173 => ?_) (fun c173 => ?_)
                          · -- taken at 173
                            have c173' := i_ne c173
                            exact False.elim (c173 rfl)
                          · -- not taken at 173
                            have c173' := i_eq c173
                            refine g_aload_n C 2 rfl dL_law_176 ?_
                            refine g_Si C [.ref (adr 0)] (c_L_holds l D kc 125 adr cell10 σ2 ((rcN hn2 - 1)) ((rcH hn2 hi2 σ2)) 0 (fun _ => 0)  hx_11 hI2 (Nat.le_refl 125)) (va_cwS 1 C.2.2.2.2.1 gL_law_L_holds rfl rfl rfl (by decide +kernel) ⟨Nat.le_of_ble_eq_true rfl, Nat.le_of_ble_eq_true rfl⟩) rfl rfl (Nat.le_of_ble_eq_true rfl) (Nat.le_of_ble_eq_true rfl) (Nat.le_of_ble_eq_true rfl) dL_law_177 (fun v14 cell14 q14 => ?_)
                            obtain ⟨rfl, rfl⟩ := q14
                            refine g_if_eq C 187 (by decide) dL_law_180 (fun c180 => ?_) (fun c180 => ?_)
                            · -- taken at 180
                              have c180' := i_eq c180
                              exact absurd c180 (by decide)
                            · -- not taken at 180
                              have c180' := i_ne c180
                              refine g_iconst C 1 (by decide) dL_law_183 ?_
                              refine g_goto C 188 (by decide) dL_law_184 ?_
                              intro H locs ls hP hS hl
                              refine va_forget (fun q hq => hS.2.2 q hq) ?_
                              refine W.widen (k := 600000) (n := 7302250) (Nat.le_of_ble_eq_true rfl) (Nat.le_of_ble_eq_true rfl) ?_
                              exact lw_ret hx hb hr hlocks dL_law_188
            · -- not taken at 61
              have c61' := i_nle c61
              refine g_iload_n C 2 rfl dL_law_64 ?_
              refine g_if_eq C 102 (by decide) dL_law_65 (fun c65 => ?_) (fun c65 => ?_)
              · -- taken at 65
                have c65' := i_eq c65
                exact absurd c65 (by decide)
              · -- not taken at 65
                have c65' := i_ne c65
                refine g_aload_n C 0 rfl dL_law_68 ?_
                refine g_aload_n C 1 rfl dL_law_69 ?_
                refine g_bipush C 6 (by decide) dL_law_70 ?_
                refine g_iload_n C 3 rfl dL_law_72 ?_
                refine g_iadd C dL_law_73 ?_
                refine g_eqst (st1 := ([.int (nI (6 + k2)), .ref b, .ref (adr 0)] : List Value)) (congrArg (fun z0 : Int32 => (([.int z0, .ref b, .ref (adr 0)] : List Value))) (mI_add 6 k2)) ?_
                refine g_St C hT [.ref b, .int (nI (6 + k2))] (c_L_cell l D kc b L xs (6 + k2) (by omega) hL) (va_cwS 2 C.2.2.2.2.1 gL_law_L_cell rfl rfl rfl (by decide +kernel) ⟨(Nat.le_of_ble_eq_true rfl), (Nat.le_of_ble_eq_true rfl)⟩) rfl rfl (Nat.le_of_ble_eq_true rfl) (Nat.le_of_ble_eq_true rfl) (Nat.le_of_ble_eq_true rfl) dL_law_74 (fun v_15 c_15 q_15 => ?_)
                obtain ⟨y_15, hy_15, rfl⟩ := nn_nI q_15
                refine g_Si C [.ref (adr 0), .int (nI y_15)] (c_L_acts l D kc 125 adr cm σ2 hn2 hi2 0 (fun _ => 0) y_15 hX2 hI2 (Nat.le_refl 125) hy_15) (va_cwS 2 C.2.2.2.2.1 gL_law_L_acts rfl rfl rfl (by decide +kernel) ⟨Nat.le_of_ble_eq_true rfl, Nat.le_of_ble_eq_true rfl⟩) rfl rfl (Nat.le_of_ble_eq_true rfl) (Nat.le_of_ble_eq_true rfl) (Nat.le_of_ble_eq_true rfl) dL_law_77 (fun v16 cell16 q16 => ?_)
                obtain ⟨rfl, σ_17, hn_17, hi_17, hX_17, hI_17⟩ := q16
                refine g_if_eq C 94 (by decide) dL_law_80 (fun c80 => ?_) (fun c80 => ?_)
                · -- taken at 80
                  have c80' := i_eq c80
                  exact absurd c80 (by decide)
                · -- not taken at 80
                  have c80' := i_ne c80
                  refine g_aload_n C 0 rfl dL_law_83 ?_
                  refine g_Si C [.ref (adr 0)] (c_L_holds l D kc 125 adr cell16 σ_17 hn_17 hi_17 0 (fun _ => 0)  hX_17 hI_17 (Nat.le_refl 125)) (va_cwS 1 C.2.2.2.2.1 gL_law_L_holds rfl rfl rfl (by decide +kernel) ⟨Nat.le_of_ble_eq_true rfl, Nat.le_of_ble_eq_true rfl⟩) rfl rfl (Nat.le_of_ble_eq_true rfl) (Nat.le_of_ble_eq_true rfl) (Nat.le_of_ble_eq_true rfl) dL_law_84 (fun v18 cell18 q18 => ?_)
                  obtain ⟨rfl, rfl⟩ := q18
                  refine g_if_eq C 94 (by decide) dL_law_87 (fun c87 => ?_) (fun c87 => ?_)
                  · -- taken at 87
                    have c87' := i_eq c87
                    exact absurd c87 (by decide)
                  · -- not taken at 87
                    have c87' := i_ne c87
                    refine g_iconst C 1 (by decide) dL_law_90 ?_
                    refine g_goto C 95 (by decide) dL_law_91 ?_
                    refine g_istore_n C [(2, .int 1), (1, .ref (adr 0)), (0, .ref b), (3, .int (nI k2))] (by decide) rfl dL_law_95 ?_
                    refine g_iinc C 3 [(3, .int (nI (k2 + 1))), (2, .int 1), (1, .ref (adr 0)), (0, .ref b)] rfl (iinc_nI k2) (by decide) rfl dL_law_96 ?_
                    refine g_goto C 58 (by decide) dL_law_99 ?_
                    refine g_sub [2, 3, 1, 0] rfl ?_
                    exact ih58 (k2 + 1) _ _ _ _ (by omega) (by omega) hX_17 hI_17
        refine g_sub [1, 2, 3, 0] rfl ?_
        exact L58 (32 + 1) 0 _ _ _ _ (by omega) (by omega) hX1 hI1
      · -- not taken at 18
        have c18' := i_nle c18
        refine g_iload_n C 2 rfl dL_law_21 ?_
        refine g_if_eq C 56 (by decide) dL_law_22 (fun c22 => ?_) (fun c22 => ?_)
        · -- taken at 22
          have c22' := i_eq c22
          exact absurd c22 (by decide)
        · -- not taken at 22
          have c22' := i_ne c22
          refine g_aload_n C 0 rfl dL_law_25 ?_
          refine g_iload_n C 3 rfl dL_law_26 ?_
          refine g_aload_n C 1 rfl dL_law_27 ?_
          refine g_iload_n C 3 rfl dL_law_28 ?_
          refine g_St C hT [.ref b, .int (nI k)] (c_L_cell l D kc b L xs k (by omega) hL) (va_cwS 2 C.2.2.2.2.1 gL_law_L_cell rfl rfl rfl (by decide +kernel) ⟨(Nat.le_of_ble_eq_true rfl), (Nat.le_of_ble_eq_true rfl)⟩) rfl rfl (Nat.le_of_ble_eq_true rfl) (Nat.le_of_ble_eq_true rfl) (Nat.le_of_ble_eq_true rfl) dL_law_29 (fun v_19 c_19 q_19 => ?_)
          obtain ⟨y_19, hy_19, rfl⟩ := nn_nI q_19
          refine g_bipush C 7 (by decide) dL_law_32 ?_
          refine g_irem C (by decide) dL_law_34 ?_
          refine g_eqst (st1 := ([.int (nI (y_19 % 7)), .int (nI k), .ref (adr 0)] : List Value)) (congrArg (fun z0 : Int32 => (([.int z0, .int (nI k), .ref (adr 0)] : List Value))) (pk_rem (a := y_19) (d := 7) (by omega) (by omega) (by omega))) ?_
          refine g_Vi C [.int (nI k), .int (nI (y_19 % 7))] 0 6 (by omega) hX1.1 rfl (c_X6_put l D kc 125 adr cl σ hn hi 0 (fun _ => 0) (nI k) (nI (y_19 % 7)) hX1 hI1.1 (Nat.le_refl 125)) (cwV 2 C.2.2.2.2.1 gL_law_X6_put rfl rfl rfl (by decide +kernel) ⟨Nat.le_of_ble_eq_true rfl, Nat.le_of_ble_eq_true rfl⟩) rfl rfl (Nat.le_of_ble_eq_true rfl) (Nat.le_of_ble_eq_true rfl) (Nat.le_of_ble_eq_true rfl) dL_law_35 (fun v20 cell20 q20 => ?_)
          have hl_21 := put_ok (σ := σ) (q := k) (w := nI (y_19 % 7)) (by omega) (by omega) ⟨by rw [nI_toInt (n := y_19 % 7) (by omega)]; omega, by rw [nI_toInt (n := y_19 % 7) (by omega)]; omega⟩
          obtain ⟨rfl, hx_21⟩ := q20
          rw [hl_21.2] at hx_21
          have hX_21 : XAt cell20 adr kc (insD k (nI (y_19 % 7)) σ) (rcN hn) (rcH hn hi σ) 0 (fun _ => 0) := hx_21
          have hI_21 : Inv (insD k (nI (y_19 % 7)) σ) := inv_ins hI1 (by omega) (by omega) ⟨by rw [nI_toInt (n := y_19 % 7) (by omega)]; omega, by rw [nI_toInt (n := y_19 % 7) (by omega)]; omega⟩
          refine g_eqst (st1 := ([.int (nI (k + 1))] : List Value)) (by rw [hl_21.1, hk1]) ?_
          refine g_iload_n C 3 rfl dL_law_38 ?_
          refine g_iconst C 1 (by decide) dL_law_39 ?_
          refine g_iadd C dL_law_40 ?_
          refine g_eqst (st1 := ([.int (nI (k + 1)), .int (nI (k + 1))] : List Value)) (congrArg (fun z0 : Int32 => (([.int z0, .int (nI (k + 1))] : List Value))) (mI_add k 1)) ?_
          refine g_icmp_ne C 48 (by decide) dL_law_41 (fun c41 => ?_) (fun c41 => ?_)
          · -- taken at 41
            have c41' := i_ne c41
            exact False.elim (c41 rfl)
          · -- not taken at 41
            have c41' := i_eq c41
            refine g_iconst C 1 (by decide) dL_law_44 ?_
            refine g_goto C 49 (by decide) dL_law_45 ?_
            refine g_istore_n C [(2, .int 1), (1, .ref (adr 0)), (0, .ref b), (3, .int (nI k))] (by decide) rfl dL_law_49 ?_
            refine g_iinc C 3 [(3, .int (nI (k + 1))), (2, .int 1), (1, .ref (adr 0)), (0, .ref b)] rfl (iinc_nI k) (by decide) rfl dL_law_50 ?_
            refine g_goto C 15 (by decide) dL_law_53 ?_
            refine g_sub [2, 3, 1, 0] rfl ?_
            exact ih (k + 1) _ _ _ _ (by omega) (by omega) hX_21 hI_21 (show σ.1 + 1 = k + 1 by omega)
  refine g_sub [2, 3, 1, 0] rfl ?_
  exact L15 (6 + 1) 0 _ _ _ _ (by omega) (by omega) hX inv_s00 rfl
