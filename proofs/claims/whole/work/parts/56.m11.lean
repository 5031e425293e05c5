set_option maxRecDepth 100000 in
set_option maxHeartbeats 4000000 in
theorem c_X7_moves (l : Launch) (D : va_G) (kc : Nat → ClassId) (N : Nat) (adr : Nat → Nat) (cell : Nat → va_E) (S Wa Bg As tx : Nat → Int32) (st ty at' re : Int32) (nu mo sh : Nat → Int32) (σ : SD) (f k t : Int32) (hB : MB cell adr kc S Wa Bg As st tx ty at' re nu mo sh) (hN : 9 ≤ N) (hS : MS S σ) (hG : Good σ) : MI l yX7_moves wsX7_moves ({ frames := 2, cells := 0, slots := 0, locals := 46 }) D kc N adr cell [.ref (adr 0), .int f, .int k, .int t] (fun (v : Int32) (cell1 : Nat → va_E) => moveR σ f k t = v ∧ ∃ S1 mo1 : Nat → Int32, MB cell1 adr kc S1 Wa Bg As st tx ty at' re nu mo1 sh ∧ MS S1 (nxS σ (moveO σ f k t))) := by
  refine met_i (cc := cX7_moves) (maxL := 7) (ret := (some .int)) (by decide) rfl (Nat.le_of_ble_eq_true rfl) (lv := [(0, .ref (adr 0)), (1, .int f), (2, .int k), (3, .int t)]) rfl ?_
  intro Pg Ev Sv Mi args below Me Cd Ar C hr hlk hnm
  have in7 : ∀ w ∈ u_ws RX7 TX7 12, w ∈ wsX7_moves := by decide +kernel
  have k43 := C.2.2.2.2.1 (.constant RX7 43 (-1000001)) (by decide +kernel)
  have f7 := C.2.2.2.2.1 (.fieldLink RX7 7 "WordAnchorsModel" "s" "[I") (by decide +kernel)
  have f29 := C.2.2.2.2.1 (.fieldLink RX7 29 "WordAnchorsModel" "moved" "[I") (by decide +kernel)
  have hB0 := hB
  obtain ⟨m0, m1, m2, m3, m4, m5, m6, m7, m8⟩ := hB
  have hg1 := hG.1
  have hg2 := hG.2.1
  have e0 := hS.1
  have e1 := hS.2.1
  have litm1000001 : ((-1000001) : Int32).toInt = -1000001 := rfl
  have litm1 : ((-1) : Int32).toInt = -1 := rfl
  have lit0 : (0 : Int32).toInt = 0 := rfl
  have lit1 : (1 : Int32).toInt = 1 := rfl
  have lit2 : (2 : Int32).toInt = 2 := rfl
  have lit7 : (7 : Int32).toInt = 7 := rfl
  have lit8 : (8 : Int32).toInt = 8 := rfl
  have lit48 : (48 : Int32).toInt = 48 := rfl
  have tn___1 : (nI σ.1).toInt = ((σ.1 : Nat) : Int) := nI_toInt (by omega)
  have tn___2_1 : (nI σ.2.1).toInt = ((σ.2.1 : Nat) : Int) := nI_toInt (by omega)
  refine g_aload_n C 0 rfl dX7_moves_0 ?_
  refine g_iload_n C 1 rfl dX7_moves_1 ?_
  refine g_Vi C [.int f] 0 7 (by omega) m0 rfl (c_X7_isPlace l D kc N adr cell S Wa Bg As tx st ty at' re nu mo sh σ f ⟨m0, m1, m2, m3, m4, m5, m6, m7, m8⟩ (by omega) hS hG.1 hG.2.1) (cwV 1 C.2.2.2.2.1 gX7_moves_X7_isPlace rfl rfl rfl (by decide +kernel) ⟨Nat.le_of_ble_eq_true rfl, Nat.le_of_ble_eq_true rfl⟩) rfl rfl (Nat.le_of_ble_eq_true rfl) (Nat.zero_le _) (Nat.zero_le _) dX7_moves_2 (fun v1 cell1 q1 => ?_)
  obtain ⟨rfl, rfl⟩ := q1
  refine g_if_eq C 41 (by decide) dX7_moves_5 (fun c5 => ?_) (fun c5 => ?_)
  · -- taken at 5
    have c5' := bI_f c5
    refine g_ldc C (-1000001) k43 dX7_moves_41 ?_
    refine g_iret C hr rfl hlk dX7_moves_43 ?_
    exact ⟨by unfold moveR; exact if_pos (by omega), _, _, ⟨m0, m1, m2, m3, m4, m5, m6, m7, m8⟩, ms_no (by unfold moveO; exact if_neg (by omega)) hS⟩
  · -- not taken at 5
    have c5' := bI_t c5
    refine g_iload_n C 2 rfl dX7_moves_8 ?_
    refine g_iconst C 1 (by decide) dX7_moves_9 ?_
    refine g_icmp_lt C 41 (by decide) dX7_moves_10 (fun c10 => ?_) (fun c10 => ?_)
    · -- taken at 10
      have c10' := i_lt c10
      refine g_ldc C (-1000001) k43 dX7_moves_41 ?_
      refine g_iret C hr rfl hlk dX7_moves_43 ?_
      exact ⟨by unfold moveR; exact if_pos (by omega), _, _, ⟨m0, m1, m2, m3, m4, m5, m6, m7, m8⟩, ms_no (by unfold moveO; exact if_neg (by omega)) hS⟩
    · -- not taken at 10
      have c10' := i_nlt c10
      refine g_iload_n C 2 rfl dX7_moves_13 ?_
      refine g_aload_n C 0 rfl dX7_moves_14 ?_
      refine g_get C 0 7 0 (by omega) m0 rfl in7 (by decide) f7 (fun _ h9 => h9) rfl dX7_moves_15 ?_
      refine g_iconst C 0 (by decide) dX7_moves_18 ?_
      refine g_iald C 1 (by omega) m1 (vp_in_iff.mpr (by omega)) dX7_moves_19 ?_
      refine g_eqst (st1 := ([.int (S 0), .int k] : List Value)) rfl ?_
      refine g_eqst (show ([.int (S 0), .int k] : List Value) = ([.int (nI σ.1), .int k] : List Value) from by rw [e0]) ?_
      refine g_iload_n C 1 rfl dX7_moves_20 ?_
      refine g_isub C dX7_moves_21 ?_
      have ta_3 : ((nI σ.1) - f).toInt = (nI σ.1).toInt - f.toInt := t_sub (by omega) (by omega)
      refine g_icmp_gt C 41 (by decide) dX7_moves_22 (fun c22 => ?_) (fun c22 => ?_)
      · -- taken at 22
        have c22' := i_lt c22
        refine g_ldc C (-1000001) k43 dX7_moves_41 ?_
        refine g_iret C hr rfl hlk dX7_moves_43 ?_
        exact ⟨by unfold moveR; exact if_pos (by omega), _, _, ⟨m0, m1, m2, m3, m4, m5, m6, m7, m8⟩, ms_no (by unfold moveO; exact if_neg (by omega)) hS⟩
      · -- not taken at 22
        have c22' := i_nlt c22
        refine g_iload_n C 3 rfl dX7_moves_25 ?_
        refine g_iconst C 0 (by decide) dX7_moves_26 ?_
        refine g_aload_n C 0 rfl dX7_moves_27 ?_
        refine g_get C 0 7 0 (by omega) m0 rfl in7 (by decide) f7 (fun _ h9 => h9) rfl dX7_moves_28 ?_
        refine g_iconst C 0 (by decide) dX7_moves_31 ?_
        refine g_iald C 1 (by omega) m1 (vp_in_iff.mpr (by omega)) dX7_moves_32 ?_
        refine g_eqst (st1 := ([.int (S 0), .int 0, .int t] : List Value)) rfl ?_
        refine g_eqst (show ([.int (S 0), .int 0, .int t] : List Value) = ([.int (nI σ.1), .int 0, .int t] : List Value) from by rw [e0]) ?_
        refine g_iload_n C 2 rfl dX7_moves_33 ?_
        refine g_isub C dX7_moves_34 ?_
        have ta_5 : ((nI σ.1) - k).toInt = (nI σ.1).toInt - k.toInt := t_sub (by omega) (by omega)
        refine g_Si C [.int t, .int 0, .int ((nI σ.1) - k)] (c_X7_in l D kc N adr cell t 0 ((nI σ.1) - k)) (va_cwS 3 C.2.2.2.2.1 gX7_moves_X7_in rfl rfl rfl (by decide +kernel) ⟨Nat.le_of_ble_eq_true rfl, Nat.le_of_ble_eq_true rfl⟩) rfl rfl (Nat.le_of_ble_eq_true rfl) (Nat.zero_le _) (Nat.zero_le _) dX7_moves_35 (fun v6 cell6 q6 => ?_)
        obtain ⟨rfl, rfl⟩ := q6
        refine g_if_ne C 44 (by decide) dX7_moves_38 (fun c38 => ?_) (fun c38 => ?_)
        · -- taken at 38
          have c38' := bI_t c38
          have ezf : f = nI f.toNatClampNeg := nI_cl (by omega)
          have kzf := cl_toInt (x := f) (by omega)
          generalize hzzf : f.toNatClampNeg = zf at ezf kzf
          refine g_eqlv (lv1 := [(0, .ref (adr 0)), (1, .int (nI zf)), (2, .int k), (3, .int t)]) (congrArg (fun z0 : Int32 => ([(0, .ref (adr 0)), (1, .int z0), (2, .int k), (3, .int t)] : List (Nat × Value))) ezf) ?_
          have ezk : k = nI k.toNatClampNeg := nI_cl (by omega)
          have kzk := cl_toInt (x := k) (by omega)
          generalize hzzk : k.toNatClampNeg = zk at ezk kzk
          refine g_eqlv (lv1 := [(0, .ref (adr 0)), (1, .int (nI zf)), (2, .int (nI zk)), (3, .int t)]) (congrArg (fun z0 : Int32 => ([(0, .ref (adr 0)), (1, .int (nI zf)), (2, .int z0), (3, .int t)] : List (Nat × Value))) ezk) ?_
          have ezt : t = nI t.toNatClampNeg := nI_cl (by omega)
          have kzt := cl_toInt (x := t) (by omega)
          generalize hzzt : t.toNatClampNeg = zt at ezt kzt
          refine g_eqlv (lv1 := [(0, .ref (adr 0)), (1, .int (nI zf)), (2, .int (nI zk)), (3, .int (nI zt))]) (congrArg (fun z0 : Int32 => ([(0, .ref (adr 0)), (1, .int (nI zf)), (2, .int (nI zk)), (3, .int z0)] : List (Nat × Value))) ezt) ?_
          refine g_iconst C 0 (by decide) dX7_moves_44 ?_
          refine g_istore C [(4, .int 0), (0, .ref (adr 0)), (1, .int (nI zf)), (2, .int (nI zk)), (3, .int (nI zt))] (by decide) rfl dX7_moves_45 ?_
          refine g_iconst C 0 (by decide) dX7_moves_47 ?_
          refine g_istore C [(5, .int 0), (4, .int 0), (0, .ref (adr 0)), (1, .int (nI zf)), (2, .int (nI zk)), (3, .int (nI zt))] (by decide) rfl dX7_moves_48 ?_
          have L50 : ∀ (fu p : Nat) (cl : Nat → va_E) (mol : Nat → Int32), p ≤ σ.1 → σ.1 < p + fu → (q0 : cl 0 = .inr (7, [.ref (adr 1), .ref (adr 2), .ref (adr 3), .ref (adr 4), .int st, .ref (adr 5), .int ty, .int at', .int re, .ref (adr 6), .ref (adr 7), .ref (adr 8)])) → (q1 : cl 1 = .inl (kc 0, 90, .inl S)) → (q2 : cl 2 = .inl (kc 0, 360, .inl Wa)) → (q3 : cl 3 = .inl (kc 0, 90, .inl Bg)) → (q4 : cl 4 = .inl (kc 0, 90, .inl As)) → (q5 : cl 5 = .inl (kc 1, 60, .inl tx)) → (q6 : cl 6 = .inl (kc 0, 3, .inl nu)) → (q7 : cl 7 = .inl (kc 0, 40, .inl mol)) → (q8 : cl 8 = .inl (kc 0, 6, .inl sh)) → (hmo : ∀ q : Nat, q < p → mol (pasF zf zk zt q) = σ.2.2.2.1 q) → G Pg l Ev (headSpec wsX7_moves { frames := 2, cells := 0, slots := 0, locals := 46 }).room Sv Mi args below Me Cd D N adr Ar Sv.heap 7 0 0 (MQ below (va_Qi (fun (v : Int32) (cell1 : Nat → va_E) => moveR σ f k t = v ∧ ∃ S1 mo1 : Nat → Int32, MB cell1 adr kc S1 Wa Bg As st tx ty at' re nu mo1 sh ∧ MS S1 (nxS σ (moveO σ f k t))) (fun (cell1 : Nat → va_E) (t : State) => va_P D vwCl (wld N adr cell1) t.heap) Ar) args Sv 0 0 Ar) cl 50 [(0, .ref (adr 0)), (1, .int (nI zf)), (2, .int (nI zk)), (3, .int (nI zt)), (4, .int (nI (cnt (fun y0 => decide (¬ pasF zf zk zt y0 = y0)) p))), (5, .int (nI p))] ([] : List Value) := by
            intro fu
            induction fu with
            | zero => intro p cl mol hle hfu; exact absurd hfu (by omega)
            | succ fu ih =>
              intro p cl mol hle50 hfu50 q0 q1 q2 q3 q4 q5 q6 q7 q8 hmo
              have tn_p : (nI p).toInt = ((p : Nat) : Int) := nI_toInt (by omega)
              refine g_iload C 5 rfl dX7_moves_50 ?_
              refine g_aload_n C 0 rfl dX7_moves_52 ?_
              refine g_get C 0 7 0 (by omega) q0 rfl in7 (by decide) f7 (fun _ h9 => h9) rfl dX7_moves_53 ?_
              refine g_iconst C 0 (by decide) dX7_moves_56 ?_
              refine g_iald C 1 (by omega) q1 (vp_in_iff.mpr (by omega)) dX7_moves_57 ?_
              refine g_eqst (st1 := ([.int (S 0), .int (nI p)] : List Value)) rfl ?_
              refine g_eqst (show ([.int (S 0), .int (nI p)] : List Value) = ([.int (nI σ.1), .int (nI p)] : List Value) from by rw [e0]) ?_
              refine g_icmp_ge C 111 (by decide) dX7_moves_58 (fun c58 => ?_) (fun c58 => ?_)
              · -- taken at 58
                have c58' := i_le c58
                obtain rfl : σ.1 = p := by omega
                refine g_iconst C 0 (by decide) dX7_moves_111 ?_
                refine g_istore C [(5, .int 0), (0, .ref (adr 0)), (1, .int (nI zf)), (2, .int (nI zk)), (3, .int (nI zt)), (4, .int (nI (cnt (fun y0 => decide (¬ pasF zf zk zt y0 = y0)) σ.1)))] (by decide) rfl dX7_moves_112 ?_
                have L114 : ∀ (fu r : Nat) (cm : Nat → va_E) (Sl : Nat → Int32), r ≤ σ.1 → σ.1 < r + fu → (u0 : cm 0 = .inr (7, [.ref (adr 1), .ref (adr 2), .ref (adr 3), .ref (adr 4), .int st, .ref (adr 5), .int ty, .int at', .int re, .ref (adr 6), .ref (adr 7), .ref (adr 8)])) → (u1 : cm 1 = .inl (kc 0, 90, .inl Sl)) → (u2 : cm 2 = .inl (kc 0, 360, .inl Wa)) → (u3 : cm 3 = .inl (kc 0, 90, .inl Bg)) → (u4 : cm 4 = .inl (kc 0, 90, .inl As)) → (u5 : cm 5 = .inl (kc 1, 60, .inl tx)) → (u6 : cm 6 = .inl (kc 0, 3, .inl nu)) → (u7 : cm 7 = .inl (kc 0, 40, .inl mol)) → (u8 : cm 8 = .inl (kc 0, 6, .inl sh)) → (hsl : ∀ j : Nat, Sl j = if 8 ≤ j ∧ j < 8 + r then mol (j - 8) else S j) → G Pg l Ev (headSpec wsX7_moves { frames := 2, cells := 0, slots := 0, locals := 46 }).room Sv Mi args below Me Cd D N adr Ar Sv.heap 7 0 0 (MQ below (va_Qi (fun (v : Int32) (cell1 : Nat → va_E) => moveR σ f k t = v ∧ ∃ S1 mo1 : Nat → Int32, MB cell1 adr kc S1 Wa Bg As st tx ty at' re nu mo1 sh ∧ MS S1 (nxS σ (moveO σ f k t))) (fun (cell1 : Nat → va_E) (t : State) => va_P D vwCl (wld N adr cell1) t.heap) Ar) args Sv 0 0 Ar) cm 114 [(0, .ref (adr 0)), (1, .int (nI zf)), (2, .int (nI zk)), (3, .int (nI zt)), (4, .int (nI (cnt (fun y0 => decide (¬ pasF zf zk zt y0 = y0)) σ.1))), (5, .int (nI r))] ([] : List Value) := by
                  intro fu
                  induction fu with
                  | zero => intro r cm Sl hle hfu; exact absurd hfu (by omega)
                  | succ fu ih =>
                    intro r cm Sl hle114 hfu114 u0 u1 u2 u3 u4 u5 u6 u7 u8 hsl
                    have tn_r : (nI r).toInt = ((r : Nat) : Int) := nI_toInt (by omega)
                    refine g_iload C 5 rfl dX7_moves_114 ?_
                    refine g_aload_n C 0 rfl dX7_moves_116 ?_
                    refine g_get C 0 7 0 (by omega) u0 rfl in7 (by decide) f7 (fun _ h9 => h9) rfl dX7_moves_117 ?_
                    refine g_iconst C 0 (by decide) dX7_moves_120 ?_
                    refine g_iald C 1 (by omega) u1 (vp_in_iff.mpr (by omega)) dX7_moves_121 ?_
                    refine g_eqst (st1 := ([.int (Sl 0), .int (nI r)] : List Value)) rfl ?_
                    refine g_eqst (show ([.int (Sl 0), .int (nI r)] : List Value) = ([.int (nI σ.1), .int (nI r)] : List Value) from by rw [hsl, if_neg (by omega), e0]) ?_
                    refine g_icmp_ge C 148 (by decide) dX7_moves_122 (fun c122 => ?_) (fun c122 => ?_)
                    · -- taken at 122
                      have c122' := i_le c122
                      obtain rfl : σ.1 = r := by omega
                      refine g_iconst C 0 (by decide) dX7_moves_148 ?_
                      refine g_istore C [(5, .int 0), (0, .ref (adr 0)), (1, .int (nI zf)), (2, .int (nI zk)), (3, .int (nI zt)), (4, .int (nI (cnt (fun y0 => decide (¬ pasF zf zk zt y0 = y0)) σ.1)))] (by decide) rfl dX7_moves_149 ?_
                      have L151 : ∀ (fu a : Nat) (cn : Nat → va_E) (Sm : Nat → Int32), a ≤ σ.2.1 → σ.2.1 < a + fu → (v0 : cn 0 = .inr (7, [.ref (adr 1), .ref (adr 2), .ref (adr 3), .ref (adr 4), .int st, .ref (adr 5), .int ty, .int at', .int re, .ref (adr 6), .ref (adr 7), .ref (adr 8)])) → (v1 : cn 1 = .inl (kc 0, 90, .inl Sm)) → (v2 : cn 2 = .inl (kc 0, 360, .inl Wa)) → (v3 : cn 3 = .inl (kc 0, 90, .inl Bg)) → (v4 : cn 4 = .inl (kc 0, 90, .inl As)) → (v5 : cn 5 = .inl (kc 1, 60, .inl tx)) → (v6 : cn 6 = .inl (kc 0, 3, .inl nu)) → (v7 : cn 7 = .inl (kc 0, 40, .inl mol)) → (v8 : cn 8 = .inl (kc 0, 6, .inl sh)) → (h31 : ∀ k : Nat, k < a → Sm (49 + 7 * k) = folV (fun p => nI (pasF zf zk zt p)) (σ.2.2.2.2.2.2.2.2.1 k)) → (h32 : ∀ j : Nat, (∀ k : Nat, k < a → j ≠ 49 + 7 * k) → Sm j = Sl j) → G Pg l Ev (headSpec wsX7_moves { frames := 2, cells := 0, slots := 0, locals := 46 }).room Sv Mi args below Me Cd D N adr Ar Sv.heap 7 0 0 (MQ below (va_Qi (fun (v : Int32) (cell1 : Nat → va_E) => moveR σ f k t = v ∧ ∃ S1 mo1 : Nat → Int32, MB cell1 adr kc S1 Wa Bg As st tx ty at' re nu mo1 sh ∧ MS S1 (nxS σ (moveO σ f k t))) (fun (cell1 : Nat → va_E) (t : State) => va_P D vwCl (wld N adr cell1) t.heap) Ar) args Sv 0 0 Ar) cn 151 [(0, .ref (adr 0)), (1, .int (nI zf)), (2, .int (nI zk)), (3, .int (nI zt)), (4, .int (nI (cnt (fun y0 => decide (¬ pasF zf zk zt y0 = y0)) σ.1))), (5, .int (nI a))] ([] : List Value) := by
                        intro fu
                        induction fu with
                        | zero => intro a cn Sm hle hfu; exact absurd hfu (by omega)
                        | succ fu ih =>
                          intro a cn Sm hle151 hfu151 v0 v1 v2 v3 v4 v5 v6 v7 v8 h31 h32
                          have tn_a : (nI a).toInt = ((a : Nat) : Int) := nI_toInt (by omega)
                          refine g_iload C 5 rfl dX7_moves_151 ?_
                          refine g_aload_n C 0 rfl dX7_moves_153 ?_
                          refine g_get C 0 7 0 (by omega) v0 rfl in7 (by decide) f7 (fun _ h9 => h9) rfl dX7_moves_154 ?_
                          refine g_iconst C 1 (by decide) dX7_moves_157 ?_
                          refine g_iald C 1 (by omega) v1 (vp_in_iff.mpr (by omega)) dX7_moves_158 ?_
                          refine g_eqst (st1 := ([.int (Sm 1), .int (nI a)] : List Value)) rfl ?_
                          refine g_eqst (show ([.int (Sm 1), .int (nI a)] : List Value) = ([.int (nI σ.2.1), .int (nI a)] : List Value) from by rw [h32 1 (fun k hk => by omega), hsl, if_neg (by omega), e1]) ?_
                          refine g_icmp_ge C 209 (by decide) dX7_moves_159 (fun c159 => ?_) (fun c159 => ?_)
                          · -- taken at 159
                            have c159' := i_le c159
                            obtain rfl : σ.2.1 = a := by omega
                            refine g_aload_n C 0 rfl dX7_moves_209 ?_
                            refine g_get C 0 7 0 (by omega) v0 rfl in7 (by decide) f7 (fun _ h9 => h9) rfl dX7_moves_210 ?_
                            refine g_iconst C 2 (by decide) dX7_moves_213 ?_
                            refine g_dup2 C rfl rfl dX7_moves_214 ?_
                            refine g_iald C 1 (by omega) v1 (vp_in_iff.mpr (by omega)) dX7_moves_215 ?_
                            refine g_eqst (st1 := ([.int (Sm 2), .int 2, .ref (adr 1)] : List Value)) rfl ?_
                            refine g_eqst (show ([.int (Sm 2), .int 2, .ref (adr 1)] : List Value) = ([.int (S 2), .int 2, .ref (adr 1)] : List Value) from by rw [h32 2 (fun k hk => by omega), hsl, if_neg (by omega)]) ?_
                            refine g_iconst C 1 (by decide) dX7_moves_216 ?_
                            refine g_iadd C dX7_moves_217 ?_
                            refine g_iast C 1 (by omega) v1 (vp_in_iff.mpr (by omega)) dX7_moves_218 ?_
                            refine g_cell (fun cell11 ec11 => ?_)
                            have h_12 : cell11 0 = .inr (7, [.ref (adr 1), .ref (adr 2), .ref (adr 3), .ref (adr 4), .int st, .ref (adr 5), .int ty, .int at', .int re, .ref (adr 6), .ref (adr 7), .ref (adr 8)]) := by rw [ec11, va_up_ne _ _ (by omega)]; exact v0
                            have h_13 : cell11 1 = .inl (kc 0, 90, .inl (upd Sm (2 : Int32).toNatClampNeg ((S 2) + 1))) := by rw [ec11]; exact va_up_self _ _ _
                            have h_14 : cell11 2 = .inl (kc 0, 360, .inl Wa) := by rw [ec11, va_up_ne _ _ (by omega)]; exact v2
                            have h_15 : cell11 3 = .inl (kc 0, 90, .inl Bg) := by rw [ec11, va_up_ne _ _ (by omega)]; exact v3
                            have h_16 : cell11 4 = .inl (kc 0, 90, .inl As) := by rw [ec11, va_up_ne _ _ (by omega)]; exact v4
                            have h_17 : cell11 5 = .inl (kc 1, 60, .inl tx) := by rw [ec11, va_up_ne _ _ (by omega)]; exact v5
                            have h_18 : cell11 6 = .inl (kc 0, 3, .inl nu) := by rw [ec11, va_up_ne _ _ (by omega)]; exact v6
                            have h_19 : cell11 7 = .inl (kc 0, 40, .inl mol) := by rw [ec11, va_up_ne _ _ (by omega)]; exact v7
                            have h_20 : cell11 8 = .inl (kc 0, 6, .inl sh) := by rw [ec11, va_up_ne _ _ (by omega)]; exact v8
                            have h_22 : cell11 1 = .inl (kc 0, 90, .inl (upd Sm 2 ((S 2) + 1))) := h_13.trans (congrArg (fun z0 : Nat => (.inl (kc 0, 90, .inl (upd Sm z0 ((S 2) + 1))) : va_E)) (show (2 : Int32).toNatClampNeg = 2 by decide))
                            have hms : MS (upd Sm 2 ((S 2) + 1)) (movD zf zk zt σ) := by
                              refine ms_step hS hg1 ?_ upd_s ?_ ?_ ?_
                              · rw [upd_n (by omega), h32 _ (fun k hk => by omega), hsl, if_neg (by omega), e0]
                              · intro q hq
                                rw [upd_n (by omega), h32 _ (fun k hk => by omega), hsl, if_pos (by omega), show 8 + q - 8 = q by omega]
                                have h9 := hmo (pasF zt zk zf q) (pas_lt (by omega) (by omega) hq)
                                rw [pas_inv (n := σ.1) (by omega) (by omega) hq] at h9
                                exact h9
                              · intro k hk
                                rw [upd_n (by omega)]; exact h31 k hk
                              · intro j q0 q2 qj qk
                                rw [upd_n q2, h32 j qk, hsl, if_neg (by omega)]
                            refine g_iload C 4 rfl dX7_moves_219 ?_
                            refine g_iret C hr rfl hlk dX7_moves_221 ?_
                            exact ⟨by unfold moveR; rw [if_neg (by omega), hzzf, hzzk, hzzt], _, _, ⟨h_12, h_22, h_14, h_15, h_16, h_17, h_18, h_19, h_20⟩, ms_yes (by unfold moveO; rw [hzzf, hzzk, hzzt]; exact if_pos (by omega)) hms⟩
                          · -- not taken at 159
                            have c159' := i_nle c159
                            refine g_aload_n C 0 rfl dX7_moves_162 ?_
                            refine g_iload C 5 rfl dX7_moves_163 ?_
                            refine g_iconst C 1 (by decide) dX7_moves_165 ?_
                            refine g_Vi C [.int (nI a), .int 1] 0 7 (by omega) v0 rfl (c_X7_an l D kc N adr cn Sm Wa Bg As tx st ty at' re nu mol sh a 1 ⟨v0, v1, v2, v3, v4, v5, v6, v7, v8⟩ (by omega) (by omega)) (cwV 2 C.2.2.2.2.1 gX7_moves_X7_an rfl rfl rfl (by decide +kernel) ⟨Nat.le_of_ble_eq_true rfl, Nat.le_of_ble_eq_true rfl⟩) rfl rfl (Nat.le_of_ble_eq_true rfl) (Nat.zero_le _) (Nat.zero_le _) dX7_moves_166 (fun v23 cell23 q23 => ?_)
                            obtain ⟨rfl, rfl⟩ := q23
                            refine g_eqst (st1 := ([.int (σ.2.2.2.2.2.2.2.2.1 a)] : List Value)) (by rw [show Sm (48 + 7 * a + 1) = σ.2.2.2.2.2.2.2.2.1 a from (congrArg Sm (by omega : 48 + 7 * a + 1 = 49 + 7 * a)).trans ((h32 _ (fun k hk => by omega)).trans ((hsl _).trans ((if_neg (by omega)).trans (hS.2.2.2.2.2 a (by omega)).2.1)))]) ?_
                            refine g_istore C [(6, .int (σ.2.2.2.2.2.2.2.2.1 a)), (0, .ref (adr 0)), (1, .int (nI zf)), (2, .int (nI zk)), (3, .int (nI zt)), (4, .int (nI (cnt (fun y0 => decide (¬ pasF zf zk zt y0 = y0)) σ.1))), (5, .int (nI a))] (by decide) rfl dX7_moves_169 ?_
                            have hva := (hG.2.2.2.2 a (by omega)).2.1
                            refine g_aload_n C 1 rfl dX7_moves_171 ?_
                            refine g_get C 0 7 0 (by omega) v0 rfl in7 (by decide) f7 (fun _ h9 => h9) rfl dX7_moves_172 ?_
                            refine g_bipush C 48 (by decide) dX7_moves_175 ?_
                            refine g_bipush C 7 (by decide) dX7_moves_177 ?_
                            refine g_iload C 6 rfl dX7_moves_179 ?_
                            refine g_imul C dX7_moves_181 ?_
                            refine g_eqst (st1 := ([.int (nI (7 * a)), .int 48, .ref (adr 1)] : List Value)) (congrArg (fun z0 : Int32 => (([.int z0, .int 48, .ref (adr 1)] : List Value))) (mI_mul 7 a)) ?_
                            refine g_iadd C dX7_moves_182 ?_
                            refine g_eqst (st1 := ([.int (nI (48 + (7 * a))), .ref (adr 1)] : List Value)) (congrArg (fun z0 : Int32 => (([.int z0, .ref (adr 1)] : List Value))) (mI_add 48 (7 * a))) ?_
                            refine g_iconst C 1 (by decide) dX7_moves_183 ?_
                            refine g_iadd C dX7_moves_184 ?_
                            refine g_eqst (st1 := ([.int (nI (48 + (7 * a) + 1)), .ref (adr 1)] : List Value)) (congrArg (fun z0 : Int32 => (([.int z0, .ref (adr 1)] : List Value))) (mI_add (48 + (7 * a)) 1)) ?_
                            refine g_iload C 0 rfl dX7_moves_185 ?_
                            refine g_if_ge C 194 (by decide) dX7_moves_187 (fun c187 => ?_) (fun c187 => ?_)
                            · -- taken at 187
                              have c187' := i_le c187
                              have ezo : (σ.2.2.2.2.2.2.2.2.1 a) = nI (σ.2.2.2.2.2.2.2.2.1 a).toNatClampNeg := nI_cl (by omega)
                              have kzo := cl_toInt (x := (σ.2.2.2.2.2.2.2.2.1 a)) (by omega)
                              generalize hzzo : (σ.2.2.2.2.2.2.2.2.1 a).toNatClampNeg = zo at ezo kzo
                              refine g_eqlv (lv1 := [(6, .int (nI zo)), (0, .ref (adr 0)), (1, .int (nI zf)), (2, .int (nI zk)), (3, .int (nI zt)), (4, .int (nI (cnt (fun y0 => decide (¬ pasF zf zk zt y0 = y0)) σ.1))), (5, .int (nI a))]) (congrArg (fun z0 : Int32 => ([(6, .int z0), (0, .ref (adr 0)), (1, .int (nI zf)), (2, .int (nI zk)), (3, .int (nI zt)), (4, .int (nI (cnt (fun y0 => decide (¬ pasF zf zk zt y0 = y0)) σ.1))), (5, .int (nI a))] : List (Nat × Value))) ezo) ?_
                              refine g_iload C 0 rfl dX7_moves_194 ?_
                              refine g_iload_n C 2 rfl dX7_moves_196 ?_
                              refine g_iload_n C 3 rfl dX7_moves_197 ?_
                              refine g_iload_n C 4 rfl dX7_moves_198 ?_
                              refine g_Si C [.int (nI zo), .int (nI zf), .int (nI zk), .int (nI zt)] (c_X7_then l D kc N adr cn zo zf zk zt (by omega)) (va_cwS 4 C.2.2.2.2.1 gX7_moves_X7_then rfl rfl rfl (by decide +kernel) ⟨Nat.le_of_ble_eq_true rfl, Nat.le_of_ble_eq_true rfl⟩) rfl rfl (Nat.le_of_ble_eq_true rfl) (Nat.zero_le _) (Nat.zero_le _) dX7_moves_199 (fun v25 cell25 q25 => ?_)
                              obtain ⟨rfl, rfl⟩ := q25
                              refine g_iast C 1 (by omega) v1 (vp_in_nI (by omega) (by omega)) dX7_moves_202 ?_
                              refine g_cell (fun cell26 ec26 => ?_)
                              have h_27 : cell26 0 = .inr (7, [.ref (adr 1), .ref (adr 2), .ref (adr 3), .ref (adr 4), .int st, .ref (adr 5), .int ty, .int at', .int re, .ref (adr 6), .ref (adr 7), .ref (adr 8)]) := by rw [ec26, va_up_ne _ _ (by omega)]; exact v0
                              have h_28 : cell26 1 = .inl (kc 0, 90, .inl (upd Sm (nI (48 + (7 * a) + 1)).toNatClampNeg (nI (pasF zf zk zt zo)))) := by rw [ec26]; exact va_up_self _ _ _
                              have h_29 : cell26 2 = .inl (kc 0, 360, .inl Wa) := by rw [ec26, va_up_ne _ _ (by omega)]; exact v2
                              have h_30 : cell26 3 = .inl (kc 0, 90, .inl Bg) := by rw [ec26, va_up_ne _ _ (by omega)]; exact v3
                              have h_31 : cell26 4 = .inl (kc 0, 90, .inl As) := by rw [ec26, va_up_ne _ _ (by omega)]; exact v4
                              have h_32 : cell26 5 = .inl (kc 1, 60, .inl tx) := by rw [ec26, va_up_ne _ _ (by omega)]; exact v5
                              have h_33 : cell26 6 = .inl (kc 0, 3, .inl nu) := by rw [ec26, va_up_ne _ _ (by omega)]; exact v6
                              have h_34 : cell26 7 = .inl (kc 0, 40, .inl mol) := by rw [ec26, va_up_ne _ _ (by omega)]; exact v7
                              have h_35 : cell26 8 = .inl (kc 0, 6, .inl sh) := by rw [ec26, va_up_ne _ _ (by omega)]; exact v8
                              have h_37 : cell26 1 = .inl (kc 0, 90, .inl (upd Sm (48 + (7 * a) + 1) (nI (pasF zf zk zt zo)))) := by rw [h_28, nI_clamp (by omega)]
                              refine g_iinc C 6 [(5, .int (nI (a + 1))), (6, .int (nI zo)), (0, .ref (adr 0)), (1, .int (nI zf)), (2, .int (nI zk)), (3, .int (nI zt)), (4, .int (nI (cnt (fun y0 => decide (¬ pasF zf zk zt y0 = y0)) σ.1)))] rfl (iinc_nI a) (by decide) rfl dX7_moves_203 ?_
                              refine g_goto C 151 (by decide) dX7_moves_206 ?_
                              have hV : (nI (pasF zf zk zt zo)) = folV (fun p => nI (pasF zf zk zt p)) (σ.2.2.2.2.2.2.2.2.1 a) := Eq.symm (by unfold folV; rw [if_neg (by omega), hzzo])
                              have hb1 : ∀ k : Nat, k < a + 1 → (upd Sm (48 + (7 * a) + 1) (nI (pasF zf zk zt zo))) (49 + 7 * k) = folV (fun p => nI (pasF zf zk zt p)) (σ.2.2.2.2.2.2.2.2.1 k) := fun k hk => by
                                by_cases e : k = a
                                · rw [e, show 49 + 7 * a = 48 + (7 * a) + 1 by omega, upd_s]; exact hV
                                · rw [upd_n (by omega)]; exact h31 k (by omega)
                              have hb2 : ∀ j : Nat, (∀ k : Nat, k < a + 1 → j ≠ 49 + 7 * k) → (upd Sm (48 + (7 * a) + 1) (nI (pasF zf zk zt zo))) j = Sl j := fun j hj => by
                                rw [upd_n (by have := hj a (by omega); omega)]; exact h32 j (fun k hk => hj k (by omega))
                              refine g_sub [2, 3, 4, 5, 6, 0] rfl ?_
                              exact ih (a + 1) _ _ (by omega) (by omega) h_27 h_37 h_29 h_30 h_31 h_32 h_33 h_34 h_35 hb1 hb2
                            · -- not taken at 187
                              have c187' := i_nle c187
                              refine g_iconst C (-1) (by decide) dX7_moves_190 ?_
                              refine g_goto C 202 (by decide) dX7_moves_191 ?_
                              refine g_iast C 1 (by omega) v1 (vp_in_nI (by omega) (by omega)) dX7_moves_202 ?_
                              refine g_cell (fun cell38 ec38 => ?_)
                              have h_39 : cell38 0 = .inr (7, [.ref (adr 1), .ref (adr 2), .ref (adr 3), .ref (adr 4), .int st, .ref (adr 5), .int ty, .int at', .int re, .ref (adr 6), .ref (adr 7), .ref (adr 8)]) := by rw [ec38, va_up_ne _ _ (by omega)]; exact v0
                              have h_40 : cell38 1 = .inl (kc 0, 90, .inl (upd Sm (nI (48 + (7 * a) + 1)).toNatClampNeg (-1))) := by rw [ec38]; exact va_up_self _ _ _
                              have h_41 : cell38 2 = .inl (kc 0, 360, .inl Wa) := by rw [ec38, va_up_ne _ _ (by omega)]; exact v2
                              have h_42 : cell38 3 = .inl (kc 0, 90, .inl Bg) := by rw [ec38, va_up_ne _ _ (by omega)]; exact v3
                              have h_43 : cell38 4 = .inl (kc 0, 90, .inl As) := by rw [ec38, va_up_ne _ _ (by omega)]; exact v4
                              have h_44 : cell38 5 = .inl (kc 1, 60, .inl tx) := by rw [ec38, va_up_ne _ _ (by omega)]; exact v5
                              have h_45 : cell38 6 = .inl (kc 0, 3, .inl nu) := by rw [ec38, va_up_ne _ _ (by omega)]; exact v6
                              have h_46 : cell38 7 = .inl (kc 0, 40, .inl mol) := by rw [ec38, va_up_ne _ _ (by omega)]; exact v7
                              have h_47 : cell38 8 = .inl (kc 0, 6, .inl sh) := by rw [ec38, va_up_ne _ _ (by omega)]; exact v8
                              have h_49 : cell38 1 = .inl (kc 0, 90, .inl (upd Sm (48 + (7 * a) + 1) (-1))) := by rw [h_40, nI_clamp (by omega)]
                              refine g_iinc C 6 [(5, .int (nI (a + 1))), (6, .int (σ.2.2.2.2.2.2.2.2.1 a)), (0, .ref (adr 0)), (1, .int (nI zf)), (2, .int (nI zk)), (3, .int (nI zt)), (4, .int (nI (cnt (fun y0 => decide (¬ pasF zf zk zt y0 = y0)) σ.1)))] rfl (iinc_nI a) (by decide) rfl dX7_moves_203 ?_
                              refine g_goto C 151 (by decide) dX7_moves_206 ?_
                              have hV : (-1) = folV (fun p => nI (pasF zf zk zt p)) (σ.2.2.2.2.2.2.2.2.1 a) := Eq.symm (if_pos (by omega))
                              have hb1 : ∀ k : Nat, k < a + 1 → (upd Sm (48 + (7 * a) + 1) (-1)) (49 + 7 * k) = folV (fun p => nI (pasF zf zk zt p)) (σ.2.2.2.2.2.2.2.2.1 k) := fun k hk => by
                                by_cases e : k = a
                                · rw [e, show 49 + 7 * a = 48 + (7 * a) + 1 by omega, upd_s]; exact hV
                                · rw [upd_n (by omega)]; exact h31 k (by omega)
                              have hb2 : ∀ j : Nat, (∀ k : Nat, k < a + 1 → j ≠ 49 + 7 * k) → (upd Sm (48 + (7 * a) + 1) (-1)) j = Sl j := fun j hj => by
                                rw [upd_n (by have := hj a (by omega); omega)]; exact h32 j (fun k hk => hj k (by omega))
                              refine g_sub [2, 3, 4, 5, 6, 0] rfl ?_
                              exact ih (a + 1) _ _ (by omega) (by omega) h_39 h_49 h_41 h_42 h_43 h_44 h_45 h_46 h_47 hb1 hb2
                      refine g_sub [1, 2, 3, 4, 5, 0] rfl ?_
                      exact L151 (σ.2.1 + 1) 0 _ _ (by omega) (by omega) u0 u1 u2 u3 u4 u5 u6 u7 u8 (fun k hk => absurd hk (Nat.not_lt_zero k)) (fun j hj => rfl)
                    · -- not taken at 122
                      have c122' := i_nle c122
                      refine g_aload_n C 0 rfl dX7_moves_125 ?_
                      refine g_get C 0 7 0 (by omega) u0 rfl in7 (by decide) f7 (fun _ h9 => h9) rfl dX7_moves_126 ?_
                      refine g_bipush C 8 (by decide) dX7_moves_129 ?_
                      refine g_iload C 5 rfl dX7_moves_131 ?_
                      refine g_iadd C dX7_moves_133 ?_
                      refine g_eqst (st1 := ([.int (nI (8 + r)), .ref (adr 1)] : List Value)) (congrArg (fun z0 : Int32 => (([.int z0, .ref (adr 1)] : List Value))) (mI_add 8 r)) ?_
                      refine g_aload_n C 0 rfl dX7_moves_134 ?_
                      refine g_get C 0 7 10 (by omega) u0 rfl in7 (by decide) f29 (fun _ h9 => h9) rfl dX7_moves_135 ?_
                      refine g_iload C 5 rfl dX7_moves_138 ?_
                      refine g_iald C 7 (by omega) u7 (vp_in_nI (by omega) (by omega)) dX7_moves_140 ?_
                      refine g_eqst (show ([.int (mol (nI r).toNatClampNeg), .int (nI (8 + r)), .ref (adr 1)] : List Value) = ([.int (mol r), .int (nI (8 + r)), .ref (adr 1)] : List Value) from by rw [nI_clamp (by omega)]) ?_
                      refine g_iast C 1 (by omega) u1 (vp_in_nI (by omega) (by omega)) dX7_moves_141 ?_
                      refine g_cell (fun cell50 ec50 => ?_)
                      have h_51 : cell50 0 = .inr (7, [.ref (adr 1), .ref (adr 2), .ref (adr 3), .ref (adr 4), .int st, .ref (adr 5), .int ty, .int at', .int re, .ref (adr 6), .ref (adr 7), .ref (adr 8)]) := by rw [ec50, va_up_ne _ _ (by omega)]; exact u0
                      have h_52 : cell50 1 = .inl (kc 0, 90, .inl (upd Sl (nI (8 + r)).toNatClampNeg (mol r))) := by rw [ec50]; exact va_up_self _ _ _
                      have h_53 : cell50 2 = .inl (kc 0, 360, .inl Wa) := by rw [ec50, va_up_ne _ _ (by omega)]; exact u2
                      have h_54 : cell50 3 = .inl (kc 0, 90, .inl Bg) := by rw [ec50, va_up_ne _ _ (by omega)]; exact u3
                      have h_55 : cell50 4 = .inl (kc 0, 90, .inl As) := by rw [ec50, va_up_ne _ _ (by omega)]; exact u4
                      have h_56 : cell50 5 = .inl (kc 1, 60, .inl tx) := by rw [ec50, va_up_ne _ _ (by omega)]; exact u5
                      have h_57 : cell50 6 = .inl (kc 0, 3, .inl nu) := by rw [ec50, va_up_ne _ _ (by omega)]; exact u6
                      have h_58 : cell50 7 = .inl (kc 0, 40, .inl mol) := by rw [ec50, va_up_ne _ _ (by omega)]; exact u7
                      have h_59 : cell50 8 = .inl (kc 0, 6, .inl sh) := by rw [ec50, va_up_ne _ _ (by omega)]; exact u8
                      have h_61 : cell50 1 = .inl (kc 0, 90, .inl (upd Sl (8 + r) (mol r))) := by rw [h_52, nI_clamp (by omega)]
                      refine g_iinc C 5 [(5, .int (nI (r + 1))), (0, .ref (adr 0)), (1, .int (nI zf)), (2, .int (nI zk)), (3, .int (nI zt)), (4, .int (nI (cnt (fun y0 => decide (¬ pasF zf zk zt y0 = y0)) σ.1)))] rfl (iinc_nI r) (by decide) rfl dX7_moves_142 ?_
                      refine g_goto C 114 (by decide) dX7_moves_145 ?_
                      have hb : ∀ j : Nat, (upd Sl (8 + r) (mol r)) j = if 8 ≤ j ∧ j < 8 + (r + 1) then mol (j - 8) else S j := fun j => by
                        by_cases e : j = 8 + r
                        · rw [e, upd_s, if_pos (by omega)]; exact congrArg mol (by omega)
                        · rw [upd_n e, hsl]
                          by_cases c : 8 ≤ j ∧ j < 8 + r
                          · rw [if_pos c, if_pos (by omega)]
                          · rw [if_neg c, if_neg (by omega)]
                      refine g_sub [1, 2, 3, 4, 5, 0] rfl ?_
                      exact ih (r + 1) _ _ (by omega) (by omega) h_51 h_61 h_53 h_54 h_55 h_56 h_57 h_58 h_59 hb
                refine g_sub [1, 2, 3, 4, 5, 0] rfl ?_
                exact L114 (σ.1 + 1) 0 _ _ (by omega) (by omega) q0 q1 q2 q3 q4 q5 q6 q7 q8 (fun j => (if_neg (by omega)).symm)
              · -- not taken at 58
                have c58' := i_nle c58
                refine g_iload C 5 rfl dX7_moves_61 ?_
                refine g_iload_n C 1 rfl dX7_moves_63 ?_
                refine g_iload_n C 2 rfl dX7_moves_64 ?_
                refine g_iload_n C 3 rfl dX7_moves_65 ?_
                refine g_Si C [.int (nI p), .int (nI zf), .int (nI zk), .int (nI zt)] (c_X7_then l D kc N adr cl p zf zk zt (by omega)) (va_cwS 4 C.2.2.2.2.1 gX7_moves_X7_then rfl rfl rfl (by decide +kernel) ⟨Nat.le_of_ble_eq_true rfl, Nat.le_of_ble_eq_true rfl⟩) rfl rfl (Nat.le_of_ble_eq_true rfl) (Nat.zero_le _) (Nat.zero_le _) dX7_moves_66 (fun v62 cell62 q62 => ?_)
                obtain ⟨rfl, rfl⟩ := q62
                refine g_istore C [(6, .int (nI (pasF zf zk zt p))), (0, .ref (adr 0)), (1, .int (nI zf)), (2, .int (nI zk)), (3, .int (nI zt)), (4, .int (nI (cnt (fun y0 => decide (¬ pasF zf zk zt y0 = y0)) p))), (5, .int (nI p))] (by decide) rfl dX7_moves_69 ?_
                have hpl : pasF zf zk zt p < σ.1 := pas_lt (by omega) (by omega) (by omega)
                refine g_aload_n C 1 rfl dX7_moves_71 ?_
                refine g_get C 0 7 10 (by omega) q0 rfl in7 (by decide) f29 (fun _ h9 => h9) rfl dX7_moves_72 ?_
                refine g_iload C 0 rfl dX7_moves_75 ?_
                refine g_aload_n C 1 rfl dX7_moves_77 ?_
                refine g_get C 0 7 0 (by omega) q0 rfl in7 (by decide) f7 (fun _ h9 => h9) rfl dX7_moves_78 ?_
                refine g_bipush C 8 (by decide) dX7_moves_81 ?_
                refine g_iload C 6 rfl dX7_moves_83 ?_
                refine g_iadd C dX7_moves_85 ?_
                refine g_eqst (st1 := ([.int (nI (8 + p)), .ref (adr 1), .int (nI (pasF zf zk zt p)), .ref (adr 7)] : List Value)) (congrArg (fun z0 : Int32 => (([.int z0, .ref (adr 1), .int (nI (pasF zf zk zt p)), .ref (adr 7)] : List Value))) (mI_add 8 p)) ?_
                refine g_iald C 1 (by omega) q1 (vp_in_nI (by omega) (by omega)) dX7_moves_86 ?_
                refine g_eqst (show ([.int (S (nI (8 + p)).toNatClampNeg), .int (nI (pasF zf zk zt p)), .ref (adr 7)] : List Value) = ([.int (S (8 + p)), .int (nI (pasF zf zk zt p)), .ref (adr 7)] : List Value) from by rw [nI_clamp (by omega)]) ?_
                refine g_iast C 7 (by omega) q7 (vp_in_nI (by omega) (by omega)) dX7_moves_87 ?_
                refine g_cell (fun cell63 ec63 => ?_)
                have h_64 : cell63 0 = .inr (7, [.ref (adr 1), .ref (adr 2), .ref (adr 3), .ref (adr 4), .int st, .ref (adr 5), .int ty, .int at', .int re, .ref (adr 6), .ref (adr 7), .ref (adr 8)]) := by rw [ec63, va_up_ne _ _ (by omega)]; exact q0
                have h_65 : cell63 1 = .inl (kc 0, 90, .inl S) := by rw [ec63, va_up_ne _ _ (by omega)]; exact q1
                have h_66 : cell63 2 = .inl (kc 0, 360, .inl Wa) := by rw [ec63, va_up_ne _ _ (by omega)]; exact q2
                have h_67 : cell63 3 = .inl (kc 0, 90, .inl Bg) := by rw [ec63, va_up_ne _ _ (by omega)]; exact q3
                have h_68 : cell63 4 = .inl (kc 0, 90, .inl As) := by rw [ec63, va_up_ne _ _ (by omega)]; exact q4
                have h_69 : cell63 5 = .inl (kc 1, 60, .inl tx) := by rw [ec63, va_up_ne _ _ (by omega)]; exact q5
                have h_70 : cell63 6 = .inl (kc 0, 3, .inl nu) := by rw [ec63, va_up_ne _ _ (by omega)]; exact q6
                have h_71 : cell63 7 = .inl (kc 0, 40, .inl (upd mol (nI (pasF zf zk zt p)).toNatClampNeg (S (8 + p)))) := by rw [ec63]; exact va_up_self _ _ _
                have h_72 : cell63 8 = .inl (kc 0, 6, .inl sh) := by rw [ec63, va_up_ne _ _ (by omega)]; exact q8
                have h_74 : cell63 7 = .inl (kc 0, 40, .inl (upd mol (pasF zf zk zt p) (S (8 + p)))) := by rw [h_71, nI_clamp (by omega)]
                refine g_iload C 5 rfl dX7_moves_88 ?_
                refine g_iload C 0 rfl dX7_moves_90 ?_
                refine g_iload C 6 rfl dX7_moves_92 ?_
                refine g_icmp_eq C 101 (by decide) dX7_moves_94 (fun c94 => ?_) (fun c94 => ?_)
                · -- taken at 94
                  have c94' := i_eq c94
                  refine g_iconst C 0 (by decide) dX7_moves_101 ?_
                  refine g_iadd C dX7_moves_102 ?_
                  refine g_eqst (st1 := ([.int (nI (cnt (fun y0 => decide (¬ pasF zf zk zt y0 = y0)) p + 0))] : List Value)) (congrArg (fun z0 : Int32 => (([.int z0] : List Value))) (mI_add (cnt (fun y0 => decide (¬ pasF zf zk zt y0 = y0)) p) 0)) ?_
                  refine g_istore C [(4, .int (nI (cnt (fun y0 => decide (¬ pasF zf zk zt y0 = y0)) p + 0))), (6, .int (nI (pasF zf zk zt p))), (0, .ref (adr 0)), (1, .int (nI zf)), (2, .int (nI zk)), (3, .int (nI zt)), (5, .int (nI p))] (by decide) rfl dX7_moves_103 ?_
                  refine g_iinc C 6 [(5, .int (nI (p + 1))), (4, .int (nI (cnt (fun y0 => decide (¬ pasF zf zk zt y0 = y0)) p + 0))), (6, .int (nI (pasF zf zk zt p))), (0, .ref (adr 0)), (1, .int (nI zf)), (2, .int (nI zk)), (3, .int (nI zt))] rfl (iinc_nI p) (by decide) rfl dX7_moves_105 ?_
                  refine g_goto C 50 (by decide) dX7_moves_108 ?_
                  have hb : ∀ q : Nat, q < p + 1 → (upd mol (pasF zf zk zt p) (S (8 + p))) (pasF zf zk zt q) = σ.2.2.2.1 q := fun q hq => by
                    by_cases e : q = p
                    · rw [e, upd_s]; exact hS.2.2.2.2.1 p (by omega)
                    · rw [upd_n (fun h => e (pas_inj (n := σ.1) (by omega) (by omega) (by omega) (by omega) h))]; exact hmo q (by omega)
                  have hbc : nI (cnt (fun y0 => decide (¬ pasF zf zk zt y0 = y0)) p + 0) = nI (cnt (fun y0 => decide (¬ pasF zf zk zt y0 = y0)) (p + 1)) := cnt_no (by rw [decide_eq_true_eq]; exact fun h => h ((nI_eq (by omega) (by omega)).mp c94))
                  refine g_sub [3, 4, 5, 6, 1, 0] rfl ?_
                  have ev_75 : nI (cnt (fun y0 => decide (¬ pasF zf zk zt y0 = y0)) p + 0) = nI (cnt (fun y0 => decide (¬ pasF zf zk zt y0 = y0)) (p + 1)) := by exact hbc
                  refine g_eqlv (lv1 := [(0, .ref (adr 0)), (1, .int (nI zf)), (2, .int (nI zk)), (3, .int (nI zt)), (4, .int (nI (cnt (fun y0 => decide (¬ pasF zf zk zt y0 = y0)) (p + 1)))), (5, .int (nI (p + 1)))]) (congrArg (fun z0 : Int32 => ([(0, .ref (adr 0)), (1, .int (nI zf)), (2, .int (nI zk)), (3, .int (nI zt)), (4, .int z0), (5, .int (nI (p + 1)))] : List (Nat × Value))) ev_75) ?_
                  exact ih (p + 1) _ _ (by omega) (by omega) h_64 h_65 h_66 h_67 h_68 h_69 h_70 h_74 h_72 hb
                · -- not taken at 94
                  have c94' := i_ne c94
                  refine g_iconst C 1 (by decide) dX7_moves_97 ?_
                  refine g_goto C 102 (by decide) dX7_moves_98 ?_
                  refine g_iadd C dX7_moves_102 ?_
                  refine g_eqst (st1 := ([.int (nI (cnt (fun y0 => decide (¬ pasF zf zk zt y0 = y0)) p + 1))] : List Value)) (congrArg (fun z0 : Int32 => (([.int z0] : List Value))) (mI_add (cnt (fun y0 => decide (¬ pasF zf zk zt y0 = y0)) p) 1)) ?_
                  refine g_istore C [(4, .int (nI (cnt (fun y0 => decide (¬ pasF zf zk zt y0 = y0)) p + 1))), (6, .int (nI (pasF zf zk zt p))), (0, .ref (adr 0)), (1, .int (nI zf)), (2, .int (nI zk)), (3, .int (nI zt)), (5, .int (nI p))] (by decide) rfl dX7_moves_103 ?_
                  refine g_iinc C 6 [(5, .int (nI (p + 1))), (4, .int (nI (cnt (fun y0 => decide (¬ pasF zf zk zt y0 = y0)) p + 1))), (6, .int (nI (pasF zf zk zt p))), (0, .ref (adr 0)), (1, .int (nI zf)), (2, .int (nI zk)), (3, .int (nI zt))] rfl (iinc_nI p) (by decide) rfl dX7_moves_105 ?_
                  refine g_goto C 50 (by decide) dX7_moves_108 ?_
                  have hb : ∀ q : Nat, q < p + 1 → (upd mol (pasF zf zk zt p) (S (8 + p))) (pasF zf zk zt q) = σ.2.2.2.1 q := fun q hq => by
                    by_cases e : q = p
                    · rw [e, upd_s]; exact hS.2.2.2.2.1 p (by omega)
                    · rw [upd_n (fun h => e (pas_inj (n := σ.1) (by omega) (by omega) (by omega) (by omega) h))]; exact hmo q (by omega)
                  have hbc : nI (cnt (fun y0 => decide (¬ pasF zf zk zt y0 = y0)) p + 1) = nI (cnt (fun y0 => decide (¬ pasF zf zk zt y0 = y0)) (p + 1)) := cnt_yes (decide_eq_true (fun h => c94 (congrArg nI h)))
                  refine g_sub [3, 4, 5, 6, 1, 0] rfl ?_
                  have ev_76 : nI (cnt (fun y0 => decide (¬ pasF zf zk zt y0 = y0)) p + 1) = nI (cnt (fun y0 => decide (¬ pasF zf zk zt y0 = y0)) (p + 1)) := by exact hbc
                  refine g_eqlv (lv1 := [(0, .ref (adr 0)), (1, .int (nI zf)), (2, .int (nI zk)), (3, .int (nI zt)), (4, .int (nI (cnt (fun y0 => decide (¬ pasF zf zk zt y0 = y0)) (p + 1)))), (5, .int (nI (p + 1)))]) (congrArg (fun z0 : Int32 => ([(0, .ref (adr 0)), (1, .int (nI zf)), (2, .int (nI zk)), (3, .int (nI zt)), (4, .int z0), (5, .int (nI (p + 1)))] : List (Nat × Value))) ev_76) ?_
                  exact ih (p + 1) _ _ (by omega) (by omega) h_64 h_65 h_66 h_67 h_68 h_69 h_70 h_74 h_72 hb
          refine g_sub [2, 3, 4, 5, 1, 0] rfl ?_
          have ev_77 : 0 = nI (cnt (fun y0 => decide (¬ pasF zf zk zt y0 = y0)) 0) := by rfl
          refine g_eqlv (lv1 := [(0, .ref (adr 0)), (1, .int (nI zf)), (2, .int (nI zk)), (3, .int (nI zt)), (4, .int (nI (cnt (fun y0 => decide (¬ pasF zf zk zt y0 = y0)) 0))), (5, .int 0)]) (congrArg (fun z0 : Int32 => ([(0, .ref (adr 0)), (1, .int (nI zf)), (2, .int (nI zk)), (3, .int (nI zt)), (4, .int z0), (5, .int 0)] : List (Nat × Value))) ev_77) ?_
          exact L50 (σ.1 + 1) 0 _ _ (by omega) (by omega) m0 m1 m2 m3 m4 m5 m6 m7 m8 (fun q hq => absurd hq (Nat.not_lt_zero q))
        · -- not taken at 38
          have c38' := bI_f c38
          refine g_ldc C (-1000001) k43 dX7_moves_41 ?_
          refine g_iret C hr rfl hlk dX7_moves_43 ?_
          exact ⟨by unfold moveR; exact if_pos (by omega), _, _, ⟨m0, m1, m2, m3, m4, m5, m6, m7, m8⟩, ms_no (by unfold moveO; exact if_neg (by omega)) hS⟩
