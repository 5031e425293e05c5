set_option maxRecDepth 100000 in
set_option maxHeartbeats 4000000 in
theorem c_L_moves (l : Launch) (D : va_G) (kc : Nat → ClassId) (N : Nat) (adr : Nat → Nat) (cell : Nat → va_E) (σ : SD) (hn : Nat) (hi : Nat → SD) (L : Nat) (ch : Nat → Int32) (f k t : Nat) (hX : XAt cell adr kc σ hn hi L ch) (hI : Inv σ) (hN : 125 ≤ N) (hq : 1 ≤ k ∧ f + k ≤ σ.1 ∧ t + k ≤ σ.1) : MI l yL_moves wsL_moves ({ frames := 6, cells := 0, slots := 0, locals := 144 }) D kc N adr cell [.ref (adr 0), .int (nI f), .int (nI k), .int (nI t)] (fun (v : Int32) (cell1 : Nat → va_E) => 1 = v ∧ ∃ (σ1 : SD) (hn1 : Nat) (hi1 : Nat → SD), XAt cell1 adr kc σ1 hn1 hi1 L ch ∧ Inv σ1) := by
  refine met_i (cc := cL_moves) (maxL := 13) (ret := (some .boolean)) (by decide) rfl (Nat.le_of_ble_eq_true rfl) (lv := [(0, .ref (adr 0)), (1, .int (nI f)), (2, .int (nI k)), (3, .int (nI t))]) rfl ?_
  intro Pg Ev Sv Mi args below Me Cd Ar C hr hlk hnm
  have hm := hI.1.2.1
  have hnn := hI.1.1
  obtain ⟨hq1, hq2, hq3⟩ := hq
  have litm1 : ((-1) : Int32).toInt = -1 := rfl
  have lit0 : (0 : Int32).toInt = 0 := rfl
  have lit1 : (1 : Int32).toInt = 1 := rfl
  have lit53 : (53 : Int32).toInt = 53 := rfl
  have lit101 : (101 : Int32).toInt = 101 := rfl
  have tn___1 : (nI σ.1).toInt = ((σ.1 : Nat) : Int) := nI_toInt (by omega)
  have tn___2_1 : (nI σ.2.1).toInt = ((σ.2.1 : Nat) : Int) := nI_toInt (by omega)
  have tn_f : (nI f).toInt = ((f : Nat) : Int) := nI_toInt (by omega)
  have tn_k : (nI k).toInt = ((k : Nat) : Int) := nI_toInt (by omega)
  have tn_t : (nI t).toInt = ((t : Nat) : Int) := nI_toInt (by omega)
  refine g_aload_n C 0 rfl dL_moves_0 ?_
  refine g_iconst C 0 (by decide) dL_moves_1 ?_
  refine g_Vi C [.int 0] 0 6 (by omega) hX.1 rfl (c_X6_count l D kc N adr cell σ hn hi L ch 0 hX hI.1 hN) (cwV 1 C.2.2.2.2.1 gL_moves_X6_count rfl rfl rfl (by decide +kernel) ⟨Nat.le_of_ble_eq_true rfl, Nat.le_of_ble_eq_true rfl⟩) rfl rfl (Nat.le_of_ble_eq_true rfl) (Nat.zero_le _) (Nat.zero_le _) dL_moves_2 (fun v1 cell1 q1 => ?_)
  obtain ⟨rfl, rfl⟩ := q1
  refine g_eqst (st1 := ([.int (nI (σ.1))] : List Value)) (by rw [show countR σ hn L 0 = nI (σ.1) from count_0]) ?_
  refine g_istore C [(4, .int (nI (σ.1))), (0, .ref (adr 0)), (1, .int (nI f)), (2, .int (nI k)), (3, .int (nI t))] (by decide) rfl dL_moves_5 ?_
  refine g_iconst C 0 (by decide) dL_moves_7 ?_
  refine g_istore C [(5, .int 0), (4, .int (nI (σ.1))), (0, .ref (adr 0)), (1, .int (nI f)), (2, .int (nI k)), (3, .int (nI t))] (by decide) rfl dL_moves_8 ?_
  refine g_iconst C 0 (by decide) dL_moves_10 ?_
  refine g_istore C [(6, .int 0), (5, .int 0), (4, .int (nI (σ.1))), (0, .ref (adr 0)), (1, .int (nI f)), (2, .int (nI k)), (3, .int (nI t))] (by decide) rfl dL_moves_11 ?_
  have L13 : ∀ (fu i : Nat) , i ≤ σ.1 → σ.1 < i + fu → G Pg l Ev (headSpec wsL_moves { frames := 6, cells := 0, slots := 0, locals := 144 }).room Sv Mi args below Me Cd D N adr Ar Sv.heap 13 0 0 (MQ below (va_Qi (fun (v : Int32) (cell1 : Nat → va_E) => 1 = v ∧ ∃ (σ1 : SD) (hn1 : Nat) (hi1 : Nat → SD), XAt cell1 adr kc σ1 hn1 hi1 L ch ∧ Inv σ1) (fun (cell1 : Nat → va_E) (t : State) => va_P D vwCl (wld N adr cell1) t.heap) Ar) args Sv 0 0 Ar) cell 13 [(0, .ref (adr 0)), (1, .int (nI f)), (2, .int (nI k)), (3, .int (nI t)), (4, .int (nI (σ.1))), (5, .int (hF 101 σ.2.2.2.1 i)), (6, .int (nI i))] ([] : List Value) := by
    intro fu
    induction fu with
    | zero => intro i  hle hfu; exact absurd hfu (by omega)
    | succ fu ih =>
      intro i  hle13 hfu13  
      have tn_i : (nI i).toInt = ((i : Nat) : Int) := nI_toInt (by omega)
      refine g_iload C 6 rfl dL_moves_13 ?_
      refine g_iload C 4 rfl dL_moves_15 ?_
      refine g_icmp_ge C 40 (by decide) dL_moves_17 (fun c17 => ?_) (fun c17 => ?_)
      · -- taken at 17
        have c17' := i_le c17
        obtain rfl : σ.1 = i := by omega
        refine g_iconst C 0 (by decide) dL_moves_40 ?_
        refine g_istore C [(6, .int 0), (0, .ref (adr 0)), (1, .int (nI f)), (2, .int (nI k)), (3, .int (nI t)), (4, .int (nI (σ.1))), (5, .int (hF 101 σ.2.2.2.1 σ.1))] (by decide) rfl dL_moves_41 ?_
        refine g_iconst C 0 (by decide) dL_moves_43 ?_
        refine g_istore C [(7, .int 0), (6, .int 0), (0, .ref (adr 0)), (1, .int (nI f)), (2, .int (nI k)), (3, .int (nI t)), (4, .int (nI (σ.1))), (5, .int (hF 101 σ.2.2.2.1 σ.1))] (by decide) rfl dL_moves_44 ?_
        have L46 : ∀ (fu i2 : Nat) , i2 ≤ σ.2.1 → σ.2.1 < i2 + fu → G Pg l Ev (headSpec wsL_moves { frames := 6, cells := 0, slots := 0, locals := 144 }).room Sv Mi args below Me Cd D N adr Ar Sv.heap 13 0 0 (MQ below (va_Qi (fun (v : Int32) (cell1 : Nat → va_E) => 1 = v ∧ ∃ (σ1 : SD) (hn1 : Nat) (hi1 : Nat → SD), XAt cell1 adr kc σ1 hn1 hi1 L ch ∧ Inv σ1) (fun (cell1 : Nat → va_E) (t : State) => va_P D vwCl (wld N adr cell1) t.heap) Ar) args Sv 0 0 Ar) cell 46 [(0, .ref (adr 0)), (1, .int (nI f)), (2, .int (nI k)), (3, .int (nI t)), (4, .int (nI (σ.1))), (5, .int (hF 101 σ.2.2.2.1 σ.1)), (6, .int (hF 53 (fun k1 => orN (σ.2.2.2.2.2.2.2.2.1 k1)) i2)), (7, .int (nI i2))] ([] : List Value) := by
          intro fu
          induction fu with
          | zero => intro i2  hle hfu; exact absurd hfu (by omega)
          | succ fu ih46 =>
            intro i2  hle46 hfu46  
            have tn_i2 : (nI i2).toInt = ((i2 : Nat) : Int) := nI_toInt (by omega)
            refine g_iload C 7 rfl dL_moves_46 ?_
            refine g_aload_n C 0 rfl dL_moves_48 ?_
            refine g_iconst C 1 (by decide) dL_moves_49 ?_
            refine g_Vi C [.int 1] 0 6 (by omega) hX.1 rfl (c_X6_count l D kc N adr cell σ hn hi L ch 1 hX hI.1 hN) (cwV 1 C.2.2.2.2.1 gL_moves_X6_count rfl rfl rfl (by decide +kernel) ⟨Nat.le_of_ble_eq_true rfl, Nat.le_of_ble_eq_true rfl⟩) rfl rfl (Nat.le_of_ble_eq_true rfl) (Nat.zero_le _) (Nat.zero_le _) dL_moves_50 (fun v2 cell2 q2 => ?_)
            obtain ⟨rfl, rfl⟩ := q2
            refine g_eqst (st1 := ([.int (nI (σ.2.1)), .int (nI i2)] : List Value)) (by rw [show countR σ hn L 1 = nI (σ.2.1) from count_1]) ?_
            refine g_icmp_ge C 77 (by decide) dL_moves_53 (fun c53 => ?_) (fun c53 => ?_)
            · -- taken at 53
              have c53' := i_le c53
              obtain rfl : σ.2.1 = i2 := by omega
              refine g_aload_n C 0 rfl dL_moves_77 ?_
              refine g_iload_n C 1 rfl dL_moves_78 ?_
              refine g_Vi C [.int (nI f)] 0 6 (by omega) hX.1 rfl (c_X6_wordAt l D kc N adr cell σ hn hi L ch (nI f) hX hI.1 hN) (cwV 1 C.2.2.2.2.1 gL_moves_X6_wordAt rfl rfl rfl (by decide +kernel) ⟨Nat.le_of_ble_eq_true rfl, Nat.le_of_ble_eq_true rfl⟩) rfl rfl (Nat.le_of_ble_eq_true rfl) (Nat.zero_le _) (Nat.zero_le _) dL_moves_79 (fun v3 cell3 q3 => ?_)
              obtain ⟨rfl, rfl⟩ := q3
              refine g_eqst (st1 := ([.int (σ.2.2.2.1 f)] : List Value)) (by rw [wordAt_in (by omega) hnn]) ?_
              refine g_istore C [(7, .int (σ.2.2.2.1 f)), (0, .ref (adr 0)), (1, .int (nI f)), (2, .int (nI k)), (3, .int (nI t)), (4, .int (nI (σ.1))), (5, .int (hF 101 σ.2.2.2.1 σ.1)), (6, .int (hF 53 (fun k1 => orN (σ.2.2.2.2.2.2.2.2.1 k1)) σ.2.1))] (by decide) rfl dL_moves_82 ?_
              refine g_aload_n C 1 rfl dL_moves_84 ?_
              refine g_iload_n C 2 rfl dL_moves_85 ?_
              refine g_iload_n C 3 rfl dL_moves_86 ?_
              refine g_iload_n C 4 rfl dL_moves_87 ?_
              refine g_Vi C [.int (nI f), .int (nI k), .int (nI t)] 0 6 (by omega) hX.1 rfl (c_X6_move l D kc N adr cell σ hn hi L ch (nI f) (nI k) (nI t) hX hI.1 hN) (cwV 3 C.2.2.2.2.1 gL_moves_X6_move rfl rfl rfl (by decide +kernel) ⟨Nat.le_of_ble_eq_true rfl, Nat.le_of_ble_eq_true rfl⟩) rfl rfl (Nat.le_of_ble_eq_true rfl) (Nat.zero_le _) (Nat.zero_le _) dL_moves_88 (fun v4 cell4 q4 => ?_)
              have hl_5 := move_ok (σ := σ) (f := f) (k := k) (t := t) hnn hq1 hq2 hq3
              obtain ⟨rfl, hx_5⟩ := q4
              rw [hl_5.2] at hx_5
              have hX_5 : XAt cell4 adr kc (movD f k t σ) (rcN hn) (rcH hn hi σ) L ch := hx_5
              have hI_5 : Inv (movD f k t σ) := inv_mov hI hq2 hq3
              refine g_eqst (st1 := ([.int (nI (mvc f k t σ.1))] : List Value)) (by rw [hl_5.1]) ?_
              have hmv : mvc f k t σ.1 ≤ σ.1 := cnt_le _ _
              have tmv : (nI (mvc f k t σ.1)).toInt = ((mvc f k t σ.1 : Nat) : Int) := nI_toInt (by omega)
              refine g_istore C [(8, .int (nI (mvc f k t σ.1))), (7, .int (σ.2.2.2.1 f)), (0, .ref (adr 0)), (1, .int (nI f)), (2, .int (nI k)), (3, .int (nI t)), (4, .int (nI (σ.1))), (5, .int (hF 101 σ.2.2.2.1 σ.1)), (6, .int (hF 53 (fun k1 => orN (σ.2.2.2.2.2.2.2.2.1 k1)) σ.2.1))] (by decide) rfl dL_moves_91 ?_
              have J128 : G Pg l Ev (headSpec wsL_moves { frames := 6, cells := 0, slots := 0, locals := 144 }).room Sv Mi args below Me Cd D N adr Ar Sv.heap 13 0 0 (MQ below (va_Qi (fun (v : Int32) (cell1 : Nat → va_E) => 1 = v ∧ ∃ (σ1 : SD) (hn1 : Nat) (hi1 : Nat → SD), XAt cell1 adr kc σ1 hn1 hi1 L ch ∧ Inv σ1) (fun (cell1 : Nat → va_E) (t : State) => va_P D vwCl (wld N adr cell1) t.heap) Ar) args Sv 0 0 Ar) cell4 128 [(0, .ref (adr 0)), (1, .int (nI f)), (2, .int (nI k)), (3, .int (nI t)), (4, .int (nI (σ.1))), (5, .int (hF 101 σ.2.2.2.1 σ.1)), (6, .int (hF 53 (fun k1 => orN (σ.2.2.2.2.2.2.2.2.1 k1)) σ.2.1)), (7, .int (σ.2.2.2.1 f)), (8, .int (nI (mvc f k t σ.1)))] ([] : List Value) := by
                refine g_aload_n C 0 rfl dL_moves_128 ?_
                refine g_iload_n C 3 rfl dL_moves_129 ?_
                refine g_Vi C [.int (nI t)] 0 6 (by omega) hX_5.1 rfl (c_X6_wordAt l D kc N adr cell4 (movD f k t σ) (rcN hn) (rcH hn hi σ) L ch (nI t) hX_5 hI_5.1 hN) (cwV 1 C.2.2.2.2.1 gL_moves_X6_wordAt rfl rfl rfl (by decide +kernel) ⟨Nat.le_of_ble_eq_true rfl, Nat.le_of_ble_eq_true rfl⟩) rfl rfl (Nat.le_of_ble_eq_true rfl) (Nat.zero_le _) (Nat.zero_le _) dL_moves_130 (fun v6 cell6 q6 => ?_)
                obtain ⟨rfl, rfl⟩ := q6
                refine g_eqst (st1 := ([.int (σ.2.2.2.1 f)] : List Value)) (by rw [show wordAtR (movD f k t σ) (nI t) = σ.2.2.2.1 f from (wordAt_in (σ := movD f k t σ) (show t < σ.1 by omega) hnn).trans (mov_word hq1)]) ?_
                refine g_iload C 7 rfl dL_moves_133 ?_
                refine g_icmp_ne C 152 (by decide) dL_moves_135 (fun c135 => ?_) (fun c135 => ?_)
                · -- taken at 135
                  have c135' := i_ne c135
                  exact False.elim (c135 rfl)
                · -- not taken at 135
                  have c135' := i_eq c135
                  refine g_aload_n C 0 rfl dL_moves_138 ?_
                  refine g_iconst C 0 (by decide) dL_moves_139 ?_
                  refine g_Vi C [.int 0] 0 6 (by omega) hX_5.1 rfl (c_X6_count l D kc N adr cell4 (movD f k t σ) (rcN hn) (rcH hn hi σ) L ch 0 hX_5 hI_5.1 hN) (cwV 1 C.2.2.2.2.1 gL_moves_X6_count rfl rfl rfl (by decide +kernel) ⟨Nat.le_of_ble_eq_true rfl, Nat.le_of_ble_eq_true rfl⟩) rfl rfl (Nat.le_of_ble_eq_true rfl) (Nat.zero_le _) (Nat.zero_le _) dL_moves_140 (fun v7 cell7 q7 => ?_)
                  obtain ⟨rfl, rfl⟩ := q7
                  refine g_eqst (st1 := ([.int (nI (σ.1))] : List Value)) (by rw [show countR (movD f k t σ) (rcN hn) L 0 = nI (σ.1) from count_0]) ?_
                  refine g_iload C 4 rfl dL_moves_143 ?_
                  refine g_icmp_ne C 152 (by decide) dL_moves_145 (fun c145 => ?_) (fun c145 => ?_)
                  · -- taken at 145
                    have c145' := i_ne c145
                    exact False.elim (c145 rfl)
                  · -- not taken at 145
                    have c145' := i_eq c145
                    refine g_iconst C 1 (by decide) dL_moves_148 ?_
                    refine g_goto C 153 (by decide) dL_moves_149 ?_
                    refine g_istore C [(9, .int 1), (0, .ref (adr 0)), (1, .int (nI f)), (2, .int (nI k)), (3, .int (nI t)), (4, .int (nI (σ.1))), (5, .int (hF 101 σ.2.2.2.1 σ.1)), (6, .int (hF 53 (fun k1 => orN (σ.2.2.2.2.2.2.2.2.1 k1)) σ.2.1)), (7, .int (σ.2.2.2.1 f)), (8, .int (nI (mvc f k t σ.1)))] (by decide) rfl dL_moves_153 ?_
                    refine g_iload C 0 rfl dL_moves_155 ?_
                    refine g_if_eq C 176 (by decide) dL_moves_157 (fun c157 => ?_) (fun c157 => ?_)
                    · -- taken at 157
                      have c157' := i_eq c157
                      exact absurd c157 (by decide)
                    · -- not taken at 157
                      have c157' := i_ne c157
                      refine g_aload_n C 1 rfl dL_moves_160 ?_
                      refine g_iload_n C 4 rfl dL_moves_161 ?_
                      refine g_iload_n C 3 rfl dL_moves_162 ?_
                      refine g_iload_n C 2 rfl dL_moves_163 ?_
                      refine g_Vi C [.int (nI t), .int (nI k), .int (nI f)] 0 6 (by omega) hX_5.1 rfl (c_X6_move l D kc N adr cell4 (movD f k t σ) (rcN hn) (rcH hn hi σ) L ch (nI t) (nI k) (nI f) hX_5 hI_5.1 hN) (cwV 3 C.2.2.2.2.1 gL_moves_X6_move rfl rfl rfl (by decide +kernel) ⟨Nat.le_of_ble_eq_true rfl, Nat.le_of_ble_eq_true rfl⟩) rfl rfl (Nat.le_of_ble_eq_true rfl) (Nat.zero_le _) (Nat.zero_le _) dL_moves_164 (fun v8 cell8 q8 => ?_)
                      have hl_9 := (show moveR (movD f k t σ) (nI t) (nI k) (nI f) = nI (mvc f k t σ.1) ∧ moveO (movD f k t σ) (nI t) (nI k) (nI f) = some (movD t k f (movD f k t σ)) from ⟨(move_ok (σ := movD f k t σ) (f := t) (k := k) (t := f) hnn hq1 hq3 hq2).1.trans (congrArg nI (mvc_sym hq2 hq3)), (move_ok (σ := movD f k t σ) (f := t) (k := k) (t := f) hnn hq1 hq3 hq2).2⟩)
                      obtain ⟨rfl, hx_9⟩ := q8
                      rw [hl_9.2] at hx_9
                      have hX_9 : XAt cell8 adr kc (movD t k f (movD f k t σ)) (rcN (rcN hn)) (rcH (rcN hn) (rcH hn hi σ) (movD f k t σ)) L ch := hx_9
                      have hI_9 : Inv (movD t k f (movD f k t σ)) := inv_mov hI_5 hq3 hq2
                      refine g_eqst (st1 := ([.int (nI (mvc f k t σ.1))] : List Value)) (by rw [hl_9.1]) ?_
                      refine g_iload C 9 rfl dL_moves_167 ?_
                      refine g_icmp_ne C 176 (by decide) dL_moves_169 (fun c169 => ?_) (fun c169 => ?_)
                      · -- taken at 169
                        have c169' := i_ne c169
                        exact False.elim (c169 rfl)
                      · -- not taken at 169
                        have c169' := i_eq c169
                        refine g_iconst C 1 (by decide) dL_moves_172 ?_
                        refine g_goto C 177 (by decide) dL_moves_173 ?_
                        refine g_istore C [(9, .int 1), (0, .ref (adr 0)), (1, .int (nI f)), (2, .int (nI k)), (3, .int (nI t)), (4, .int (nI (σ.1))), (5, .int (hF 101 σ.2.2.2.1 σ.1)), (6, .int (hF 53 (fun k1 => orN (σ.2.2.2.2.2.2.2.2.1 k1)) σ.2.1)), (7, .int (σ.2.2.2.1 f)), (8, .int (nI (mvc f k t σ.1)))] (by decide) rfl dL_moves_177 ?_
                        refine g_iconst C 0 (by decide) dL_moves_179 ?_
                        refine g_istore C [(10, .int 0), (9, .int 1), (0, .ref (adr 0)), (1, .int (nI f)), (2, .int (nI k)), (3, .int (nI t)), (4, .int (nI (σ.1))), (5, .int (hF 101 σ.2.2.2.1 σ.1)), (6, .int (hF 53 (fun k1 => orN (σ.2.2.2.2.2.2.2.2.1 k1)) σ.2.1)), (7, .int (σ.2.2.2.1 f)), (8, .int (nI (mvc f k t σ.1)))] (by decide) rfl dL_moves_180 ?_
                        refine g_iconst C 0 (by decide) dL_moves_182 ?_
                        refine g_istore C [(11, .int 0), (10, .int 0), (9, .int 1), (0, .ref (adr 0)), (1, .int (nI f)), (2, .int (nI k)), (3, .int (nI t)), (4, .int (nI (σ.1))), (5, .int (hF 101 σ.2.2.2.1 σ.1)), (6, .int (hF 53 (fun k1 => orN (σ.2.2.2.2.2.2.2.2.1 k1)) σ.2.1)), (7, .int (σ.2.2.2.1 f)), (8, .int (nI (mvc f k t σ.1)))] (by decide) rfl dL_moves_183 ?_
                        have L185 : ∀ (fu i3 : Nat) , i3 ≤ σ.1 → σ.1 < i3 + fu → G Pg l Ev (headSpec wsL_moves { frames := 6, cells := 0, slots := 0, locals := 144 }).room Sv Mi args below Me Cd D N adr Ar Sv.heap 13 0 0 (MQ below (va_Qi (fun (v : Int32) (cell1 : Nat → va_E) => 1 = v ∧ ∃ (σ1 : SD) (hn1 : Nat) (hi1 : Nat → SD), XAt cell1 adr kc σ1 hn1 hi1 L ch ∧ Inv σ1) (fun (cell1 : Nat → va_E) (t : State) => va_P D vwCl (wld N adr cell1) t.heap) Ar) args Sv 0 0 Ar) cell8 185 [(0, .ref (adr 0)), (1, .int (nI f)), (2, .int (nI k)), (3, .int (nI t)), (4, .int (nI (σ.1))), (5, .int (hF 101 σ.2.2.2.1 σ.1)), (6, .int (hF 53 (fun k1 => orN (σ.2.2.2.2.2.2.2.2.1 k1)) σ.2.1)), (7, .int (σ.2.2.2.1 f)), (8, .int (nI (mvc f k t σ.1))), (9, .int 1), (10, .int (hF 101 (movD t k f (movD f k t σ)).2.2.2.1 i3)), (11, .int (nI i3))] ([] : List Value) := by
                          intro fu
                          induction fu with
                          | zero => intro i3  hle hfu; exact absurd hfu (by omega)
                          | succ fu ih185 =>
                            intro i3  hle185 hfu185  
                            have tn_i3 : (nI i3).toInt = ((i3 : Nat) : Int) := nI_toInt (by omega)
                            refine g_iload C 11 rfl dL_moves_185 ?_
                            refine g_iload C 4 rfl dL_moves_187 ?_
                            refine g_icmp_ge C 212 (by decide) dL_moves_189 (fun c189 => ?_) (fun c189 => ?_)
                            · -- taken at 189
                              have c189' := i_le c189
                              obtain rfl : σ.1 = i3 := by omega
                              refine g_iconst C 0 (by decide) dL_moves_212 ?_
                              refine g_istore C [(11, .int 0), (0, .ref (adr 0)), (1, .int (nI f)), (2, .int (nI k)), (3, .int (nI t)), (4, .int (nI (σ.1))), (5, .int (hF 101 σ.2.2.2.1 σ.1)), (6, .int (hF 53 (fun k1 => orN (σ.2.2.2.2.2.2.2.2.1 k1)) σ.2.1)), (7, .int (σ.2.2.2.1 f)), (8, .int (nI (mvc f k t σ.1))), (9, .int 1), (10, .int (hF 101 (movD t k f (movD f k t σ)).2.2.2.1 σ.1))] (by decide) rfl dL_moves_213 ?_
                              refine g_iconst C 0 (by decide) dL_moves_215 ?_
                              refine g_istore C [(12, .int 0), (11, .int 0), (0, .ref (adr 0)), (1, .int (nI f)), (2, .int (nI k)), (3, .int (nI t)), (4, .int (nI (σ.1))), (5, .int (hF 101 σ.2.2.2.1 σ.1)), (6, .int (hF 53 (fun k1 => orN (σ.2.2.2.2.2.2.2.2.1 k1)) σ.2.1)), (7, .int (σ.2.2.2.1 f)), (8, .int (nI (mvc f k t σ.1))), (9, .int 1), (10, .int (hF 101 (movD t k f (movD f k t σ)).2.2.2.1 σ.1))] (by decide) rfl dL_moves_216 ?_
                              have L218 : ∀ (fu i4 : Nat) , i4 ≤ σ.2.1 → σ.2.1 < i4 + fu → G Pg l Ev (headSpec wsL_moves { frames := 6, cells := 0, slots := 0, locals := 144 }).room Sv Mi args below Me Cd D N adr Ar Sv.heap 13 0 0 (MQ below (va_Qi (fun (v : Int32) (cell1 : Nat → va_E) => 1 = v ∧ ∃ (σ1 : SD) (hn1 : Nat) (hi1 : Nat → SD), XAt cell1 adr kc σ1 hn1 hi1 L ch ∧ Inv σ1) (fun (cell1 : Nat → va_E) (t : State) => va_P D vwCl (wld N adr cell1) t.heap) Ar) args Sv 0 0 Ar) cell8 218 [(0, .ref (adr 0)), (1, .int (nI f)), (2, .int (nI k)), (3, .int (nI t)), (4, .int (nI (σ.1))), (5, .int (hF 101 σ.2.2.2.1 σ.1)), (6, .int (hF 53 (fun k1 => orN (σ.2.2.2.2.2.2.2.2.1 k1)) σ.2.1)), (7, .int (σ.2.2.2.1 f)), (8, .int (nI (mvc f k t σ.1))), (9, .int 1), (10, .int (hF 101 (movD t k f (movD f k t σ)).2.2.2.1 σ.1)), (11, .int (hF 53 (fun k1 => orN ((movD t k f (movD f k t σ)).2.2.2.2.2.2.2.2.1 k1)) i4)), (12, .int (nI i4))] ([] : List Value) := by
                                intro fu
                                induction fu with
                                | zero => intro i4  hle hfu; exact absurd hfu (by omega)
                                | succ fu ih218 =>
                                  intro i4  hle218 hfu218  
                                  have tn_i4 : (nI i4).toInt = ((i4 : Nat) : Int) := nI_toInt (by omega)
                                  refine g_iload C 12 rfl dL_moves_218 ?_
                                  refine g_aload_n C 0 rfl dL_moves_220 ?_
                                  refine g_iconst C 1 (by decide) dL_moves_221 ?_
                                  refine g_Vi C [.int 1] 0 6 (by omega) hX_9.1 rfl (c_X6_count l D kc N adr cell8 (movD t k f (movD f k t σ)) (rcN (rcN hn)) (rcH (rcN hn) (rcH hn hi σ) (movD f k t σ)) L ch 1 hX_9 hI_9.1 hN) (cwV 1 C.2.2.2.2.1 gL_moves_X6_count rfl rfl rfl (by decide +kernel) ⟨Nat.le_of_ble_eq_true rfl, Nat.le_of_ble_eq_true rfl⟩) rfl rfl (Nat.le_of_ble_eq_true rfl) (Nat.zero_le _) (Nat.zero_le _) dL_moves_222 (fun v10 cell10 q10 => ?_)
                                  obtain ⟨rfl, rfl⟩ := q10
                                  refine g_eqst (st1 := ([.int (nI (σ.2.1)), .int (nI i4)] : List Value)) (by rw [show countR (movD t k f (movD f k t σ)) (rcN (rcN hn)) L 1 = nI (σ.2.1) from count_1]) ?_
                                  refine g_icmp_ge C 249 (by decide) dL_moves_225 (fun c225 => ?_) (fun c225 => ?_)
                                  · -- taken at 225
                                    have c225' := i_le c225
                                    obtain rfl : σ.2.1 = i4 := by omega
                                    refine g_iload C 9 rfl dL_moves_249 ?_
                                    refine g_if_eq C 272 (by decide) dL_moves_251 (fun c251 => ?_) (fun c251 => ?_)
                                    · -- taken at 251
                                      have c251' := i_eq c251
                                      exact absurd c251 (by decide)
                                    · -- not taken at 251
                                      have c251' := i_ne c251
                                      refine g_iload C 10 rfl dL_moves_254 ?_
                                      refine g_iload C 5 rfl dL_moves_256 ?_
                                      refine g_icmp_ne C 272 (by decide) dL_moves_258 (fun c258 => ?_) (fun c258 => ?_)
                                      · -- taken at 258
                                        have c258' := i_ne c258
                                        exact False.elim (c258 (hF_cong (fun p hp => mov_back hq2 hq3 hp)))
                                      · -- not taken at 258
                                        have c258' := i_eq c258
                                        refine g_iload C 11 rfl dL_moves_261 ?_
                                        refine g_iload C 6 rfl dL_moves_263 ?_
                                        refine g_icmp_ne C 272 (by decide) dL_moves_265 (fun c265 => ?_) (fun c265 => ?_)
                                        · -- taken at 265
                                          have c265' := i_ne c265
                                          exact False.elim (c265 (hF_cong (fun p hp => congrArg orN (mov_true hI.1 hq2 hq3 hp))))
                                        · -- not taken at 265
                                          have c265' := i_eq c265
                                          refine g_iconst C 1 (by decide) dL_moves_268 ?_
                                          refine g_goto C 273 (by decide) dL_moves_269 ?_
                                          refine g_iret C hr rfl hlk dL_moves_273 ?_
                                          exact ⟨rfl, _, _, _, hX_9, hI_9⟩
                                  · -- not taken at 225
                                    have c225' := i_nle c225
                                    refine g_bipush C 53 (by decide) dL_moves_228 ?_
                                    refine g_iload C 11 rfl dL_moves_230 ?_
                                    refine g_imul C dL_moves_232 ?_
                                    refine g_aload_n C 0 rfl dL_moves_233 ?_
                                    refine g_iload C 12 rfl dL_moves_234 ?_
                                    refine g_iconst C 1 (by decide) dL_moves_236 ?_
                                    refine g_Vi C [.int (nI i4), .int 1] 0 6 (by omega) hX_9.1 rfl (c_X6_anchorOf l D kc N adr cell8 (movD t k f (movD f k t σ)) (rcN (rcN hn)) (rcH (rcN hn) (rcH hn hi σ) (movD f k t σ)) L ch (nI i4) 1 hX_9 hI_9.1 hN) (cwV 2 C.2.2.2.2.1 gL_moves_X6_anchorOf rfl rfl rfl (by decide +kernel) ⟨Nat.le_of_ble_eq_true rfl, Nat.le_of_ble_eq_true rfl⟩) rfl rfl (Nat.le_of_ble_eq_true rfl) (Nat.zero_le _) (Nat.zero_le _) dL_moves_237 (fun v11 cell11 q11 => ?_)
                                    obtain ⟨rfl, rfl⟩ := q11
                                    refine g_eqst (st1 := ([.int (orN ((movD t k f (movD f k t σ)).2.2.2.2.2.2.2.2.1 i4)), .int (53 * (hF 53 (fun k1 => orN ((movD t k f (movD f k t σ)).2.2.2.2.2.2.2.2.1 k1)) i4))] : List Value)) (by rw [show anchorOfR (movD t k f (movD f k t σ)) (nI i4) 1 = orN ((movD t k f (movD f k t σ)).2.2.2.2.2.2.2.2.1 i4) from anc_1 (σ := movD t k f (movD f k t σ)) (show i4 < σ.2.1 by omega) hm]) ?_
                                    refine g_iadd C dL_moves_240 ?_
                                    refine g_istore C [(11, .int ((53 * (hF 53 (fun k1 => orN ((movD t k f (movD f k t σ)).2.2.2.2.2.2.2.2.1 k1)) i4)) + (orN ((movD t k f (movD f k t σ)).2.2.2.2.2.2.2.2.1 i4)))), (0, .ref (adr 0)), (1, .int (nI f)), (2, .int (nI k)), (3, .int (nI t)), (4, .int (nI (σ.1))), (5, .int (hF 101 σ.2.2.2.1 σ.1)), (6, .int (hF 53 (fun k1 => orN (σ.2.2.2.2.2.2.2.2.1 k1)) σ.2.1)), (7, .int (σ.2.2.2.1 f)), (8, .int (nI (mvc f k t σ.1))), (9, .int 1), (10, .int (hF 101 (movD t k f (movD f k t σ)).2.2.2.1 σ.1)), (12, .int (nI i4))] (by decide) rfl dL_moves_241 ?_
                                    refine g_iinc C 12 [(12, .int (nI (i4 + 1))), (11, .int ((53 * (hF 53 (fun k1 => orN ((movD t k f (movD f k t σ)).2.2.2.2.2.2.2.2.1 k1)) i4)) + (orN ((movD t k f (movD f k t σ)).2.2.2.2.2.2.2.2.1 i4)))), (0, .ref (adr 0)), (1, .int (nI f)), (2, .int (nI k)), (3, .int (nI t)), (4, .int (nI (σ.1))), (5, .int (hF 101 σ.2.2.2.1 σ.1)), (6, .int (hF 53 (fun k1 => orN (σ.2.2.2.2.2.2.2.2.1 k1)) σ.2.1)), (7, .int (σ.2.2.2.1 f)), (8, .int (nI (mvc f k t σ.1))), (9, .int 1), (10, .int (hF 101 (movD t k f (movD f k t σ)).2.2.2.1 σ.1))] rfl (iinc_nI i4) (by decide) rfl dL_moves_243 ?_
                                    refine g_goto C 218 (by decide) dL_moves_246 ?_
                                    refine g_sub [2, 3, 4, 5, 6, 7, 8, 9, 10, 11, 12, 1, 0] rfl ?_
                                    have ev_12 : (53 * (hF 53 (fun k1 => orN ((movD t k f (movD f k t σ)).2.2.2.2.2.2.2.2.1 k1)) i4)) + (orN ((movD t k f (movD f k t σ)).2.2.2.2.2.2.2.2.1 i4)) = hF 53 (fun k1 => orN ((movD t k f (movD f k t σ)).2.2.2.2.2.2.2.2.1 k1)) (i4 + 1) := by rfl
                                    refine g_eqlv (lv1 := [(0, .ref (adr 0)), (1, .int (nI f)), (2, .int (nI k)), (3, .int (nI t)), (4, .int (nI (σ.1))), (5, .int (hF 101 σ.2.2.2.1 σ.1)), (6, .int (hF 53 (fun k1 => orN (σ.2.2.2.2.2.2.2.2.1 k1)) σ.2.1)), (7, .int (σ.2.2.2.1 f)), (8, .int (nI (mvc f k t σ.1))), (9, .int 1), (10, .int (hF 101 (movD t k f (movD f k t σ)).2.2.2.1 σ.1)), (11, .int (hF 53 (fun k1 => orN ((movD t k f (movD f k t σ)).2.2.2.2.2.2.2.2.1 k1)) (i4 + 1))), (12, .int (nI (i4 + 1)))]) (congrArg (fun z0 : Int32 => ([(0, .ref (adr 0)), (1, .int (nI f)), (2, .int (nI k)), (3, .int (nI t)), (4, .int (nI (σ.1))), (5, .int (hF 101 σ.2.2.2.1 σ.1)), (6, .int (hF 53 (fun k1 => orN (σ.2.2.2.2.2.2.2.2.1 k1)) σ.2.1)), (7, .int (σ.2.2.2.1 f)), (8, .int (nI (mvc f k t σ.1))), (9, .int 1), (10, .int (hF 101 (movD t k f (movD f k t σ)).2.2.2.1 σ.1)), (11, .int z0), (12, .int (nI (i4 + 1)))] : List (Nat × Value))) ev_12) ?_
                                    exact ih218 (i4 + 1) (by omega) (by omega) 
                              refine g_sub [2, 3, 4, 5, 6, 7, 8, 9, 10, 11, 12, 1, 0] rfl ?_
                              have ev_13 : 0 = hF 53 (fun k1 => orN ((movD t k f (movD f k t σ)).2.2.2.2.2.2.2.2.1 k1)) 0 := by rfl
                              refine g_eqlv (lv1 := [(0, .ref (adr 0)), (1, .int (nI f)), (2, .int (nI k)), (3, .int (nI t)), (4, .int (nI (σ.1))), (5, .int (hF 101 σ.2.2.2.1 σ.1)), (6, .int (hF 53 (fun k1 => orN (σ.2.2.2.2.2.2.2.2.1 k1)) σ.2.1)), (7, .int (σ.2.2.2.1 f)), (8, .int (nI (mvc f k t σ.1))), (9, .int 1), (10, .int (hF 101 (movD t k f (movD f k t σ)).2.2.2.1 σ.1)), (11, .int (hF 53 (fun k1 => orN ((movD t k f (movD f k t σ)).2.2.2.2.2.2.2.2.1 k1)) 0)), (12, .int 0)]) (congrArg (fun z0 : Int32 => ([(0, .ref (adr 0)), (1, .int (nI f)), (2, .int (nI k)), (3, .int (nI t)), (4, .int (nI (σ.1))), (5, .int (hF 101 σ.2.2.2.1 σ.1)), (6, .int (hF 53 (fun k1 => orN (σ.2.2.2.2.2.2.2.2.1 k1)) σ.2.1)), (7, .int (σ.2.2.2.1 f)), (8, .int (nI (mvc f k t σ.1))), (9, .int 1), (10, .int (hF 101 (movD t k f (movD f k t σ)).2.2.2.1 σ.1)), (11, .int z0), (12, .int 0)] : List (Nat × Value))) ev_13) ?_
                              exact L218 (σ.2.1 + 1) 0 (by omega) (by omega) 
                            · -- not taken at 189
                              have c189' := i_nle c189
                              refine g_bipush C 101 (by decide) dL_moves_192 ?_
                              refine g_iload C 10 rfl dL_moves_194 ?_
                              refine g_imul C dL_moves_196 ?_
                              refine g_aload_n C 0 rfl dL_moves_197 ?_
                              refine g_iload C 11 rfl dL_moves_198 ?_
                              refine g_Vi C [.int (nI i3)] 0 6 (by omega) hX_9.1 rfl (c_X6_wordAt l D kc N adr cell8 (movD t k f (movD f k t σ)) (rcN (rcN hn)) (rcH (rcN hn) (rcH hn hi σ) (movD f k t σ)) L ch (nI i3) hX_9 hI_9.1 hN) (cwV 1 C.2.2.2.2.1 gL_moves_X6_wordAt rfl rfl rfl (by decide +kernel) ⟨Nat.le_of_ble_eq_true rfl, Nat.le_of_ble_eq_true rfl⟩) rfl rfl (Nat.le_of_ble_eq_true rfl) (Nat.zero_le _) (Nat.zero_le _) dL_moves_200 (fun v14 cell14 q14 => ?_)
                              obtain ⟨rfl, rfl⟩ := q14
                              refine g_eqst (st1 := ([.int ((movD t k f (movD f k t σ)).2.2.2.1 i3), .int (101 * (hF 101 (movD t k f (movD f k t σ)).2.2.2.1 i3))] : List Value)) (by rw [show wordAtR (movD t k f (movD f k t σ)) (nI i3) = (movD t k f (movD f k t σ)).2.2.2.1 i3 from wordAt_in (σ := movD t k f (movD f k t σ)) (show i3 < σ.1 by omega) hnn]) ?_
                              refine g_iadd C dL_moves_203 ?_
                              refine g_istore C [(10, .int ((101 * (hF 101 (movD t k f (movD f k t σ)).2.2.2.1 i3)) + ((movD t k f (movD f k t σ)).2.2.2.1 i3))), (0, .ref (adr 0)), (1, .int (nI f)), (2, .int (nI k)), (3, .int (nI t)), (4, .int (nI (σ.1))), (5, .int (hF 101 σ.2.2.2.1 σ.1)), (6, .int (hF 53 (fun k1 => orN (σ.2.2.2.2.2.2.2.2.1 k1)) σ.2.1)), (7, .int (σ.2.2.2.1 f)), (8, .int (nI (mvc f k t σ.1))), (9, .int 1), (11, .int (nI i3))] (by decide) rfl dL_moves_204 ?_
                              refine g_iinc C 11 [(11, .int (nI (i3 + 1))), (10, .int ((101 * (hF 101 (movD t k f (movD f k t σ)).2.2.2.1 i3)) + ((movD t k f (movD f k t σ)).2.2.2.1 i3))), (0, .ref (adr 0)), (1, .int (nI f)), (2, .int (nI k)), (3, .int (nI t)), (4, .int (nI (σ.1))), (5, .int (hF 101 σ.2.2.2.1 σ.1)), (6, .int (hF 53 (fun k1 => orN (σ.2.2.2.2.2.2.2.2.1 k1)) σ.2.1)), (7, .int (σ.2.2.2.1 f)), (8, .int (nI (mvc f k t σ.1))), (9, .int 1)] rfl (iinc_nI i3) (by decide) rfl dL_moves_206 ?_
                              refine g_goto C 185 (by decide) dL_moves_209 ?_
                              refine g_sub [2, 3, 4, 5, 6, 7, 8, 9, 10, 11, 1, 0] rfl ?_
                              have ev_15 : (101 * (hF 101 (movD t k f (movD f k t σ)).2.2.2.1 i3)) + ((movD t k f (movD f k t σ)).2.2.2.1 i3) = hF 101 (movD t k f (movD f k t σ)).2.2.2.1 (i3 + 1) := by rfl
                              refine g_eqlv (lv1 := [(0, .ref (adr 0)), (1, .int (nI f)), (2, .int (nI k)), (3, .int (nI t)), (4, .int (nI (σ.1))), (5, .int (hF 101 σ.2.2.2.1 σ.1)), (6, .int (hF 53 (fun k1 => orN (σ.2.2.2.2.2.2.2.2.1 k1)) σ.2.1)), (7, .int (σ.2.2.2.1 f)), (8, .int (nI (mvc f k t σ.1))), (9, .int 1), (10, .int (hF 101 (movD t k f (movD f k t σ)).2.2.2.1 (i3 + 1))), (11, .int (nI (i3 + 1)))]) (congrArg (fun z0 : Int32 => ([(0, .ref (adr 0)), (1, .int (nI f)), (2, .int (nI k)), (3, .int (nI t)), (4, .int (nI (σ.1))), (5, .int (hF 101 σ.2.2.2.1 σ.1)), (6, .int (hF 53 (fun k1 => orN (σ.2.2.2.2.2.2.2.2.1 k1)) σ.2.1)), (7, .int (σ.2.2.2.1 f)), (8, .int (nI (mvc f k t σ.1))), (9, .int 1), (10, .int z0), (11, .int (nI (i3 + 1)))] : List (Nat × Value))) ev_15) ?_
                              exact ih185 (i3 + 1) (by omega) (by omega) 
                        refine g_sub [3, 4, 5, 6, 7, 8, 9, 10, 11, 2, 1, 0] rfl ?_
                        have ev_16 : 0 = hF 101 (movD t k f (movD f k t σ)).2.2.2.1 0 := by rfl
                        refine g_eqlv (lv1 := [(0, .ref (adr 0)), (1, .int (nI f)), (2, .int (nI k)), (3, .int (nI t)), (4, .int (nI (σ.1))), (5, .int (hF 101 σ.2.2.2.1 σ.1)), (6, .int (hF 53 (fun k1 => orN (σ.2.2.2.2.2.2.2.2.1 k1)) σ.2.1)), (7, .int (σ.2.2.2.1 f)), (8, .int (nI (mvc f k t σ.1))), (9, .int 1), (10, .int (hF 101 (movD t k f (movD f k t σ)).2.2.2.1 0)), (11, .int 0)]) (congrArg (fun z0 : Int32 => ([(0, .ref (adr 0)), (1, .int (nI f)), (2, .int (nI k)), (3, .int (nI t)), (4, .int (nI (σ.1))), (5, .int (hF 101 σ.2.2.2.1 σ.1)), (6, .int (hF 53 (fun k1 => orN (σ.2.2.2.2.2.2.2.2.1 k1)) σ.2.1)), (7, .int (σ.2.2.2.1 f)), (8, .int (nI (mvc f k t σ.1))), (9, .int 1), (10, .int z0), (11, .int 0)] : List (Nat × Value))) ev_16) ?_
                        exact L185 (σ.1 + 1) 0 (by omega) (by omega) 
              refine g_iload C 0 rfl dL_moves_93 ?_
              refine g_if_lt C 152 (by decide) dL_moves_95 (fun c95 => ?_) (fun c95 => ?_)
              · -- taken at 95
                have c95' := i_lt c95
                exfalso; omega
              · -- not taken at 95
                have c95' := i_nlt c95
                refine g_iload C 0 rfl dL_moves_98 ?_
                refine g_iload C 6 rfl dL_moves_100 ?_
                refine g_icmp_gt C 152 (by decide) dL_moves_102 (fun c102 => ?_) (fun c102 => ?_)
                · -- taken at 102
                  have c102' := i_lt c102
                  exfalso; omega
                · -- not taken at 102
                  have c102' := i_nlt c102
                  refine g_iload C 0 rfl dL_moves_105 ?_
                  refine g_if_ne C 114 (by decide) dL_moves_107 (fun c107 => ?_) (fun c107 => ?_)
                  · -- taken at 107
                    have c107' := i_ne c107
                    have hft : ¬ f = t := fun e0 => absurd ((mvc_0 hq2 hq3 hq1).mpr e0) (by omega)
                    refine g_iconst C 0 (by decide) dL_moves_114 ?_
                    refine g_iload_n C 3 rfl dL_moves_115 ?_
                    refine g_iload_n C 5 rfl dL_moves_116 ?_
                    refine g_icmp_ne C 124 (by decide) dL_moves_117 (fun c117 => ?_) (fun c117 => ?_)
                    · -- taken at 117
                      have c117' := i_ne c117
                      refine g_iconst C 0 (by decide) dL_moves_124 ?_
                      refine g_icmp_ne C 152 (by decide) dL_moves_125 (fun c125 => ?_) (fun c125 => ?_)
                      · -- taken at 125
                        have c125' := i_ne c125
                        exact False.elim (c125 rfl)
                      · -- not taken at 125
                        have c125' := i_eq c125
                        refine g_sub [2, 3, 4, 5, 6, 7, 8, 1, 0] rfl ?_
                        exact J128
                    · -- not taken at 117
                      have c117' := i_eq c117
                      exfalso; omega --done
                  · -- not taken at 107
                    have c107' := i_eq c107
                    have hft : f = t := (mvc_0 hq2 hq3 hq1).mp (by omega)
                    refine g_iconst C 1 (by decide) dL_moves_110 ?_
                    refine g_goto C 115 (by decide) dL_moves_111 ?_
                    refine g_iload_n C 3 rfl dL_moves_115 ?_
                    refine g_iload_n C 5 rfl dL_moves_116 ?_
                    refine g_icmp_ne C 124 (by decide) dL_moves_117 (fun c117 => ?_) (fun c117 => ?_)
                    · -- taken at 117
                      have c117' := i_ne c117
                      exfalso; omega --done
                    · -- not taken at 117
                      have c117' := i_eq c117
                      refine g_iconst C 1 (by decide) dL_moves_120 ?_
                      refine g_goto C 125 (by decide) dL_moves_121 ?_
                      refine g_icmp_ne C 152 (by decide) dL_moves_125 (fun c125 => ?_) (fun c125 => ?_)
                      · -- taken at 125
                        have c125' := i_ne c125
                        exact False.elim (c125 rfl)
                      · -- not taken at 125
                        have c125' := i_eq c125
                        refine g_sub [2, 3, 4, 5, 6, 7, 8, 1, 0] rfl ?_
                        exact J128
            · -- not taken at 53
              have c53' := i_nle c53
              refine g_bipush C 53 (by decide) dL_moves_56 ?_
              refine g_iload C 6 rfl dL_moves_58 ?_
              refine g_imul C dL_moves_60 ?_
              refine g_aload_n C 0 rfl dL_moves_61 ?_
              refine g_iload C 7 rfl dL_moves_62 ?_
              refine g_iconst C 1 (by decide) dL_moves_64 ?_
              refine g_Vi C [.int (nI i2), .int 1] 0 6 (by omega) hX.1 rfl (c_X6_anchorOf l D kc N adr cell σ hn hi L ch (nI i2) 1 hX hI.1 hN) (cwV 2 C.2.2.2.2.1 gL_moves_X6_anchorOf rfl rfl rfl (by decide +kernel) ⟨Nat.le_of_ble_eq_true rfl, Nat.le_of_ble_eq_true rfl⟩) rfl rfl (Nat.le_of_ble_eq_true rfl) (Nat.zero_le _) (Nat.zero_le _) dL_moves_65 (fun v17 cell17 q17 => ?_)
              obtain ⟨rfl, rfl⟩ := q17
              refine g_eqst (st1 := ([.int (orN (σ.2.2.2.2.2.2.2.2.1 i2)), .int (53 * (hF 53 (fun k1 => orN (σ.2.2.2.2.2.2.2.2.1 k1)) i2))] : List Value)) (by rw [anc_1 (by omega) hm]) ?_
              refine g_iadd C dL_moves_68 ?_
              refine g_istore C [(6, .int ((53 * (hF 53 (fun k1 => orN (σ.2.2.2.2.2.2.2.2.1 k1)) i2)) + (orN (σ.2.2.2.2.2.2.2.2.1 i2)))), (0, .ref (adr 0)), (1, .int (nI f)), (2, .int (nI k)), (3, .int (nI t)), (4, .int (nI (σ.1))), (5, .int (hF 101 σ.2.2.2.1 σ.1)), (7, .int (nI i2))] (by decide) rfl dL_moves_69 ?_
              refine g_iinc C 7 [(7, .int (nI (i2 + 1))), (6, .int ((53 * (hF 53 (fun k1 => orN (σ.2.2.2.2.2.2.2.2.1 k1)) i2)) + (orN (σ.2.2.2.2.2.2.2.2.1 i2)))), (0, .ref (adr 0)), (1, .int (nI f)), (2, .int (nI k)), (3, .int (nI t)), (4, .int (nI (σ.1))), (5, .int (hF 101 σ.2.2.2.1 σ.1))] rfl (iinc_nI i2) (by decide) rfl dL_moves_71 ?_
              refine g_goto C 46 (by decide) dL_moves_74 ?_
              refine g_sub [2, 3, 4, 5, 6, 7, 1, 0] rfl ?_
              have ev_18 : (53 * (hF 53 (fun k1 => orN (σ.2.2.2.2.2.2.2.2.1 k1)) i2)) + (orN (σ.2.2.2.2.2.2.2.2.1 i2)) = hF 53 (fun k1 => orN (σ.2.2.2.2.2.2.2.2.1 k1)) (i2 + 1) := by rfl
              refine g_eqlv (lv1 := [(0, .ref (adr 0)), (1, .int (nI f)), (2, .int (nI k)), (3, .int (nI t)), (4, .int (nI (σ.1))), (5, .int (hF 101 σ.2.2.2.1 σ.1)), (6, .int (hF 53 (fun k1 => orN (σ.2.2.2.2.2.2.2.2.1 k1)) (i2 + 1))), (7, .int (nI (i2 + 1)))]) (congrArg (fun z0 : Int32 => ([(0, .ref (adr 0)), (1, .int (nI f)), (2, .int (nI k)), (3, .int (nI t)), (4, .int (nI (σ.1))), (5, .int (hF 101 σ.2.2.2.1 σ.1)), (6, .int z0), (7, .int (nI (i2 + 1)))] : List (Nat × Value))) ev_18) ?_
              exact ih46 (i2 + 1) (by omega) (by omega) 
        refine g_sub [2, 3, 4, 5, 6, 7, 1, 0] rfl ?_
        have ev_19 : 0 = hF 53 (fun k1 => orN (σ.2.2.2.2.2.2.2.2.1 k1)) 0 := by rfl
        refine g_eqlv (lv1 := [(0, .ref (adr 0)), (1, .int (nI f)), (2, .int (nI k)), (3, .int (nI t)), (4, .int (nI (σ.1))), (5, .int (hF 101 σ.2.2.2.1 σ.1)), (6, .int (hF 53 (fun k1 => orN (σ.2.2.2.2.2.2.2.2.1 k1)) 0)), (7, .int 0)]) (congrArg (fun z0 : Int32 => ([(0, .ref (adr 0)), (1, .int (nI f)), (2, .int (nI k)), (3, .int (nI t)), (4, .int (nI (σ.1))), (5, .int (hF 101 σ.2.2.2.1 σ.1)), (6, .int z0), (7, .int 0)] : List (Nat × Value))) ev_19) ?_
        exact L46 (σ.2.1 + 1) 0 (by omega) (by omega) 
      · -- not taken at 17
        have c17' := i_nle c17
        refine g_bipush C 101 (by decide) dL_moves_20 ?_
        refine g_iload C 5 rfl dL_moves_22 ?_
        refine g_imul C dL_moves_24 ?_
        refine g_aload_n C 0 rfl dL_moves_25 ?_
        refine g_iload C 6 rfl dL_moves_26 ?_
        refine g_Vi C [.int (nI i)] 0 6 (by omega) hX.1 rfl (c_X6_wordAt l D kc N adr cell σ hn hi L ch (nI i) hX hI.1 hN) (cwV 1 C.2.2.2.2.1 gL_moves_X6_wordAt rfl rfl rfl (by decide +kernel) ⟨Nat.le_of_ble_eq_true rfl, Nat.le_of_ble_eq_true rfl⟩) rfl rfl (Nat.le_of_ble_eq_true rfl) (Nat.zero_le _) (Nat.zero_le _) dL_moves_28 (fun v20 cell20 q20 => ?_)
        obtain ⟨rfl, rfl⟩ := q20
        refine g_eqst (st1 := ([.int (σ.2.2.2.1 i), .int (101 * (hF 101 σ.2.2.2.1 i))] : List Value)) (by rw [wordAt_in (by omega) hnn]) ?_
        refine g_iadd C dL_moves_31 ?_
        refine g_istore C [(5, .int ((101 * (hF 101 σ.2.2.2.1 i)) + (σ.2.2.2.1 i))), (0, .ref (adr 0)), (1, .int (nI f)), (2, .int (nI k)), (3, .int (nI t)), (4, .int (nI (σ.1))), (6, .int (nI i))] (by decide) rfl dL_moves_32 ?_
        refine g_iinc C 6 [(6, .int (nI (i + 1))), (5, .int ((101 * (hF 101 σ.2.2.2.1 i)) + (σ.2.2.2.1 i))), (0, .ref (adr 0)), (1, .int (nI f)), (2, .int (nI k)), (3, .int (nI t)), (4, .int (nI (σ.1)))] rfl (iinc_nI i) (by decide) rfl dL_moves_34 ?_
        refine g_goto C 13 (by decide) dL_moves_37 ?_
        refine g_sub [2, 3, 4, 5, 6, 1, 0] rfl ?_
        have ev_21 : (101 * (hF 101 σ.2.2.2.1 i)) + (σ.2.2.2.1 i) = hF 101 σ.2.2.2.1 (i + 1) := by rfl
        refine g_eqlv (lv1 := [(0, .ref (adr 0)), (1, .int (nI f)), (2, .int (nI k)), (3, .int (nI t)), (4, .int (nI (σ.1))), (5, .int (hF 101 σ.2.2.2.1 (i + 1))), (6, .int (nI (i + 1)))]) (congrArg (fun z0 : Int32 => ([(0, .ref (adr 0)), (1, .int (nI f)), (2, .int (nI k)), (3, .int (nI t)), (4, .int (nI (σ.1))), (5, .int z0), (6, .int (nI (i + 1)))] : List (Nat × Value))) ev_21) ?_
        exact ih (i + 1) (by omega) (by omega) 
  refine g_sub [3, 4, 5, 6, 2, 1, 0] rfl ?_
  have ev_22 : 0 = hF 101 σ.2.2.2.1 0 := by rfl
  refine g_eqlv (lv1 := [(0, .ref (adr 0)), (1, .int (nI f)), (2, .int (nI k)), (3, .int (nI t)), (4, .int (nI (σ.1))), (5, .int (hF 101 σ.2.2.2.1 0)), (6, .int 0)]) (congrArg (fun z0 : Int32 => ([(0, .ref (adr 0)), (1, .int (nI f)), (2, .int (nI k)), (3, .int (nI t)), (4, .int (nI (σ.1))), (5, .int z0), (6, .int 0)] : List (Nat × Value))) ev_22) ?_
  exact L13 (σ.1 + 1) 0 (by omega) (by omega) 
