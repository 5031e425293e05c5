set_option maxRecDepth 100000 in
set_option maxHeartbeats 4000000 in
theorem c_X7_ones (l : Launch) (D : va_G) (kc : Nat → ClassId) (N : Nat) (adr : Nat → Nat) (cell : Nat → va_E) (x : Int32)  : MI l yX7_ones wsX7_ones ({ frames := 0, cells := 0, slots := 0, locals := 0 }) D kc N adr cell [.int x] (fun (w : Int32) (cell1 : Nat → va_E) => onF x 6 = w ∧ cell = cell1) := by
  refine met_i (cc := cX7_ones) (maxL := 3) (ret := (some .int)) (by decide) rfl (Nat.le_of_ble_eq_true rfl) (lv := [(0, .int x)]) rfl ?_
  intro Pg Ev Sv Mi args below Me Cd Ar C hr hlk hnm
  have litm1 : ((-1) : Int32).toInt = -1 := rfl
  have lit0 : (0 : Int32).toInt = 0 := rfl
  have lit1 : (1 : Int32).toInt = 1 := rfl
  have lit6 : (6 : Int32).toInt = 6 := rfl
  refine g_iconst C 0 (by decide) dX7_ones_0 ?_
  refine g_istore_n C [(1, .int 0), (0, .int x)] (by decide) rfl dX7_ones_1 ?_
  refine g_iconst C 0 (by decide) dX7_ones_2 ?_
  refine g_istore_n C [(2, .int 0), (1, .int 0), (0, .int x)] (by decide) rfl dX7_ones_3 ?_
  have L4 : ∀ (fu i : Nat) , i ≤ 6 → 6 < i + fu → G Pg l Ev (headSpec wsX7_ones { frames := 0, cells := 0, slots := 0, locals := 0 }).room Sv Mi args below Me Cd D N adr Ar Sv.heap 3 0 0 (MQ below (va_Qi (fun (w : Int32) (cell1 : Nat → va_E) => onF x 6 = w ∧ cell = cell1) (fun (cell1 : Nat → va_E) (t : State) => va_P D vwCl (wld N adr cell1) t.heap) Ar) args Sv 0 0 Ar) cell 4 [(0, .int x), (1, .int (onF x i)), (2, .int (nI i))] ([] : List Value) := by
    intro fu
    induction fu with
    | zero => intro i  hle hfu; exact absurd hfu (by omega)
    | succ fu ih =>
      intro i  hle4 hfu4  
      have tn_i : (nI i).toInt = ((i : Nat) : Int) := nI_toInt (by omega)
      refine g_iload_n C 2 rfl dX7_ones_4 ?_
      refine g_bipush C 6 (by decide) dX7_ones_5 ?_
      refine g_icmp_ge C 24 (by decide) dX7_ones_7 (fun c7 => ?_) (fun c7 => ?_)
      · -- taken at 7
        have c7' := i_le c7
        obtain rfl : 6 = i := by omega
        refine g_iload_n C 1 rfl dX7_ones_24 ?_
        refine g_iret C hr rfl hlk dX7_ones_25 ?_
        exact ⟨rfl, rfl⟩
      · -- not taken at 7
        have c7' := i_nle c7
        refine g_iload_n C 1 rfl dX7_ones_10 ?_
        refine g_iload_n C 0 rfl dX7_ones_11 ?_
        refine g_iload_n C 2 rfl dX7_ones_12 ?_
        refine g_ishr C dX7_ones_13 ?_
        refine g_iconst C 1 (by decide) dX7_ones_14 ?_
        refine g_iand C dX7_ones_15 ?_
        refine g_iadd C dX7_ones_16 ?_
        refine g_istore_n C [(1, .int ((onF x i) + ((x >>> ((nI i) &&& 31)) &&& 1))), (0, .int x), (2, .int (nI i))] (by decide) rfl dX7_ones_17 ?_
        refine g_iinc C 2 [(2, .int (nI (i + 1))), (1, .int ((onF x i) + ((x >>> ((nI i) &&& 31)) &&& 1))), (0, .int x)] rfl (iinc_nI i) (by decide) rfl dX7_ones_18 ?_
        refine g_goto C 4 (by decide) dX7_ones_21 ?_
        refine g_sub [2, 1, 0] rfl ?_
        have ev_1 : (onF x i) + ((x >>> ((nI i) &&& 31)) &&& 1) = onF x (i + 1) := by rfl
        refine g_eqlv (lv1 := [(0, .int x), (1, .int (onF x (i + 1))), (2, .int (nI (i + 1)))]) (congrArg (fun z0 : Int32 => ([(0, .int x), (1, .int z0), (2, .int (nI (i + 1)))] : List (Nat × Value))) ev_1) ?_
        exact ih (i + 1) (by omega) (by omega) 
  refine g_sub [2, 1, 0] rfl ?_
  have ev_2 : 0 = onF x 0 := by rfl
  refine g_eqlv (lv1 := [(0, .int x), (1, .int (onF x 0)), (2, .int 0)]) (congrArg (fun z0 : Int32 => ([(0, .int x), (1, .int z0), (2, .int 0)] : List (Nat × Value))) ev_2) ?_
  exact L4 (6 + 1) 0 (by omega) (by omega) 
set_option maxRecDepth 100000 in
set_option maxHeartbeats 4000000 in
theorem c_X7_shifts (l : Launch) (D : va_G) (kc : Nat → ClassId) (N : Nat) (adr : Nat → Nat) (cell : Nat → va_E) (S Wa Bg As tx : Nat → Int32) (st ty at' re : Int32) (nu mo sh : Nat → Int32) (σ : SD)  (hB : MB cell adr kc S Wa Bg As st tx ty at' re nu mo sh) (hN : 9 ≤ N) (hS : MS S σ) (hG : Good σ) : MV l yX7_shifts wsX7_shifts ({ frames := 6, cells := 0, slots := 0, locals := 140 }) D kc N adr cell [.ref (adr 0)] (fun (cell1 : Nat → va_E) => ∃ sh1 : Nat → Int32, MB cell1 adr kc S Wa Bg As st tx ty at' re nu mo sh1 ∧ ∀ k : Nat, k < σ.2.1 → sh1 k = aH σ k) := by
  refine met_v (cc := cX7_shifts) (maxL := 2) (ret := none) (by decide) rfl (Nat.le_of_ble_eq_true rfl) (lv := [(0, .ref (adr 0))]) rfl ?_
  intro Pg Ev Sv Mi args below Me Cd Ar C hr hlk hnm
  have in7 : ∀ w ∈ u_ws RX7 TX7 12, w ∈ wsX7_shifts := by decide +kernel
  have f7 := C.2.2.2.2.1 (.fieldLink RX7 7 "WordAnchorsModel" "s" "[I") (by decide +kernel)
  have f32 := C.2.2.2.2.1 (.fieldLink RX7 32 "WordAnchorsModel" "shift" "[I") (by decide +kernel)
  have hB0 := hB
  obtain ⟨m0, m1, m2, m3, m4, m5, m6, m7, m8⟩ := hB
  have hg1 := hG.1
  have hg2 := hG.2.1
  have e0 := hS.1
  have e1 := hS.2.1
  have litm1 : ((-1) : Int32).toInt = -1 := rfl
  have lit0 : (0 : Int32).toInt = 0 := rfl
  have lit1 : (1 : Int32).toInt = 1 := rfl
  have lit2 : (2 : Int32).toInt = 2 := rfl
  have tn___2_1 : (nI σ.2.1).toInt = ((σ.2.1 : Nat) : Int) := nI_toInt (by omega)
  refine g_iconst C 0 (by decide) dX7_shifts_0 ?_
  refine g_istore_n C [(1, .int 0), (0, .ref (adr 0))] (by decide) rfl dX7_shifts_1 ?_
  have L2 : ∀ (fu i : Nat) (cl : Nat → va_E) (shl : Nat → Int32), i ≤ σ.2.1 → σ.2.1 < i + fu → (q0 : cl 0 = .inr (7, [.ref (adr 1), .ref (adr 2), .ref (adr 3), .ref (adr 4), .int st, .ref (adr 5), .int ty, .int at', .int re, .ref (adr 6), .ref (adr 7), .ref (adr 8)])) → (q1 : cl 1 = .inl (kc 0, 90, .inl S)) → (q2 : cl 2 = .inl (kc 0, 360, .inl Wa)) → (q3 : cl 3 = .inl (kc 0, 90, .inl Bg)) → (q4 : cl 4 = .inl (kc 0, 90, .inl As)) → (q5 : cl 5 = .inl (kc 1, 60, .inl tx)) → (q6 : cl 6 = .inl (kc 0, 3, .inl nu)) → (q7 : cl 7 = .inl (kc 0, 40, .inl mo)) → (q8 : cl 8 = .inl (kc 0, 6, .inl shl)) → (hsl : ∀ k : Nat, k < i → shl k = aH σ k) → G Pg l Ev (headSpec wsX7_shifts { frames := 6, cells := 0, slots := 0, locals := 140 }).room Sv Mi args below Me Cd D N adr Ar Sv.heap 2 0 0 (MQ below (va_Qv (fun (cell1 : Nat → va_E) => ∃ sh1 : Nat → Int32, MB cell1 adr kc S Wa Bg As st tx ty at' re nu mo sh1 ∧ ∀ k : Nat, k < σ.2.1 → sh1 k = aH σ k) (fun (cell1 : Nat → va_E) (t : State) => va_P D vwCl (wld N adr cell1) t.heap) Ar) args Sv 0 0 Ar) cl 2 [(0, .ref (adr 0)), (1, .int (nI i))] ([] : List Value) := by
    intro fu
    induction fu with
    | zero => intro i cl shl hle hfu; exact absurd hfu (by omega)
    | succ fu ih =>
      intro i cl shl hle2 hfu2 q0 q1 q2 q3 q4 q5 q6 q7 q8 hsl
      have tn_i : (nI i).toInt = ((i : Nat) : Int) := nI_toInt (by omega)
      refine g_iload_n C 1 rfl dX7_shifts_2 ?_
      refine g_aload_n C 0 rfl dX7_shifts_3 ?_
      refine g_get C 0 7 0 (by omega) q0 rfl in7 (by decide) f7 (fun _ h9 => h9) rfl dX7_shifts_4 ?_
      refine g_iconst C 1 (by decide) dX7_shifts_7 ?_
      refine g_iald C 1 (by omega) q1 (vp_in_iff.mpr (by omega)) dX7_shifts_8 ?_
      refine g_eqst (st1 := ([.int (S 1), .int (nI i)] : List Value)) rfl ?_
      refine g_eqst (show ([.int (S 1), .int (nI i)] : List Value) = ([.int (nI σ.2.1), .int (nI i)] : List Value) from by rw [e1]) ?_
      refine g_icmp_ge C 50 (by decide) dX7_shifts_9 (fun c9 => ?_) (fun c9 => ?_)
      · -- taken at 9
        have c9' := i_le c9
        obtain rfl : σ.2.1 = i := by omega
        refine g_vret C hr hlk dX7_shifts_50 ?_
        exact ⟨_, ⟨q0, q1, q2, q3, q4, q5, q6, q7, q8⟩, hsl⟩
      · -- not taken at 9
        have c9' := i_nle c9
        refine g_aload_n C 0 rfl dX7_shifts_12 ?_
        refine g_get C 0 7 11 (by omega) q0 rfl in7 (by decide) f32 (fun _ h9 => h9) rfl dX7_shifts_13 ?_
        refine g_iload_n C 1 rfl dX7_shifts_16 ?_
        refine g_aload_n C 0 rfl dX7_shifts_17 ?_
        refine g_iload_n C 1 rfl dX7_shifts_18 ?_
        refine g_Vi C [.int (nI i)] 0 7 (by omega) q0 rfl (c_X7_how l D kc N adr cl S Wa Bg As tx st ty at' re nu mo shl σ i ⟨q0, q1, q2, q3, q4, q5, q6, q7, q8⟩ (by omega) hS hG (by omega)) (cwV 1 C.2.2.2.2.1 gX7_shifts_X7_how rfl rfl rfl (by decide +kernel) ⟨Nat.le_of_ble_eq_true rfl, Nat.le_of_ble_eq_true rfl⟩) rfl rfl (Nat.le_of_ble_eq_true rfl) (Nat.zero_le _) (Nat.zero_le _) dX7_shifts_19 (fun v2 cell2 q2 => ?_)
        obtain ⟨rfl, rfl⟩ := q2
        refine g_iconst C 2 (by decide) dX7_shifts_22 ?_
        refine g_icmp_ne C 30 (by decide) dX7_shifts_23 (fun c23 => ?_) (fun c23 => ?_)
        · -- taken at 23
          have c23' := i_ne c23
          refine g_aload_n C 0 rfl dX7_shifts_30 ?_
          refine g_iload_n C 1 rfl dX7_shifts_31 ?_
          refine g_iconst C (-1) (by decide) dX7_shifts_32 ?_
          refine g_Vi C [.int (nI i), .int (-1)] 0 7 (by omega) q0 rfl (c_X7_best l D kc N adr cl S Wa Bg As tx st ty at' re nu mo shl σ i (-1) ⟨q0, q1, q2, q3, q4, q5, q6, q7, q8⟩ (by omega) hS hG (by omega)) (cwV 2 C.2.2.2.2.1 gX7_shifts_X7_best rfl rfl rfl (by decide +kernel) ⟨Nat.le_of_ble_eq_true rfl, Nat.le_of_ble_eq_true rfl⟩) rfl rfl (Nat.le_of_ble_eq_true rfl) (Nat.zero_le _) (Nat.zero_le _) dX7_shifts_33 (fun v3 cell3 q3 => ?_)
          obtain ⟨rfl, rfl⟩ := q3
          refine g_aload_n C 0 rfl dX7_shifts_36 ?_
          refine g_iload_n C 1 rfl dX7_shifts_37 ?_
          refine g_iconst C 0 (by decide) dX7_shifts_38 ?_
          refine g_Vi C [.int (nI i), .int 0] 0 7 (by omega) q0 rfl (c_X7_an l D kc N adr cl S Wa Bg As tx st ty at' re nu mo shl i 0 ⟨q0, q1, q2, q3, q4, q5, q6, q7, q8⟩ (by omega) (by omega)) (cwV 2 C.2.2.2.2.1 gX7_shifts_X7_an rfl rfl rfl (by decide +kernel) ⟨Nat.le_of_ble_eq_true rfl, Nat.le_of_ble_eq_true rfl⟩) rfl rfl (Nat.le_of_ble_eq_true rfl) (Nat.zero_le _) (Nat.zero_le _) dX7_shifts_39 (fun v4 cell4 q4 => ?_)
          obtain ⟨rfl, rfl⟩ := q4
          refine g_eqst (st1 := ([.int (σ.2.2.2.2.2.2.2.1 i), .int (bpF σ.1 σ.2.2.2.1 σ.2.2.2.2.2.2.1 (σ.2.2.2.2.2.2.2.2.2 i) (σ.2.2.2.2.2.2.2.1 i) (-1)), .int (nI i), .ref (adr 8)] : List Value)) (by rw [show S (48 + 7 * i + 0) = _ from (hS.2.2.2.2.2 i (by omega)).1]) ?_
          refine g_isub C dX7_shifts_42 ?_
          refine g_iast C 8 (by omega) q8 (vp_in_nI (by omega) (by omega)) dX7_shifts_43 ?_
          refine g_cell (fun cell6 ec6 => ?_)
          have h_7 : cell6 0 = .inr (7, [.ref (adr 1), .ref (adr 2), .ref (adr 3), .ref (adr 4), .int st, .ref (adr 5), .int ty, .int at', .int re, .ref (adr 6), .ref (adr 7), .ref (adr 8)]) := by rw [ec6, va_up_ne _ _ (by omega)]; exact q0
          have h_8 : cell6 1 = .inl (kc 0, 90, .inl S) := by rw [ec6, va_up_ne _ _ (by omega)]; exact q1
          have h_9 : cell6 2 = .inl (kc 0, 360, .inl Wa) := by rw [ec6, va_up_ne _ _ (by omega)]; exact q2
          have h_10 : cell6 3 = .inl (kc 0, 90, .inl Bg) := by rw [ec6, va_up_ne _ _ (by omega)]; exact q3
          have h_11 : cell6 4 = .inl (kc 0, 90, .inl As) := by rw [ec6, va_up_ne _ _ (by omega)]; exact q4
          have h_12 : cell6 5 = .inl (kc 1, 60, .inl tx) := by rw [ec6, va_up_ne _ _ (by omega)]; exact q5
          have h_13 : cell6 6 = .inl (kc 0, 3, .inl nu) := by rw [ec6, va_up_ne _ _ (by omega)]; exact q6
          have h_14 : cell6 7 = .inl (kc 0, 40, .inl mo) := by rw [ec6, va_up_ne _ _ (by omega)]; exact q7
          have h_15 : cell6 8 = .inl (kc 0, 6, .inl (upd shl (nI i).toNatClampNeg ((bpF σ.1 σ.2.2.2.1 σ.2.2.2.2.2.2.1 (σ.2.2.2.2.2.2.2.2.2 i) (σ.2.2.2.2.2.2.2.1 i) (-1)) - (σ.2.2.2.2.2.2.2.1 i)))) := by rw [ec6]; exact va_up_self _ _ _
          have h_17 : cell6 8 = .inl (kc 0, 6, .inl (upd shl i ((bpF σ.1 σ.2.2.2.1 σ.2.2.2.2.2.2.1 (σ.2.2.2.2.2.2.2.2.2 i) (σ.2.2.2.2.2.2.2.1 i) (-1)) - (σ.2.2.2.2.2.2.2.1 i)))) := by rw [h_15, nI_clamp (by omega)]
          refine g_iinc C 1 [(1, .int (nI (i + 1))), (0, .ref (adr 0))] rfl (iinc_nI i) (by decide) rfl dX7_shifts_44 ?_
          refine g_goto C 2 (by decide) dX7_shifts_47 ?_
          have hb : ∀ k : Nat, k < i + 1 → (upd shl i ((bpF σ.1 σ.2.2.2.1 σ.2.2.2.2.2.2.1 (σ.2.2.2.2.2.2.2.2.2 i) (σ.2.2.2.2.2.2.2.1 i) (-1)) - (σ.2.2.2.2.2.2.2.1 i))) k = aH σ k := fun k hk => by
            by_cases e : k = i
            · rw [e, upd_s]; exact (if_neg (fun h => c23 (stand_2.mpr h))).symm
            · rw [upd_n e]; exact hsl k (by omega)
          refine g_sub [1, 0] rfl ?_
          exact ih (i + 1) _ _ (by omega) (by omega) h_7 h_8 h_9 h_10 h_11 h_12 h_13 h_14 h_17 hb
        · -- not taken at 23
          have c23' := i_eq c23
          refine g_iconst C 0 (by decide) dX7_shifts_26 ?_
          refine g_goto C 43 (by decide) dX7_shifts_27 ?_
          refine g_iast C 8 (by omega) q8 (vp_in_nI (by omega) (by omega)) dX7_shifts_43 ?_
          refine g_cell (fun cell18 ec18 => ?_)
          have h_19 : cell18 0 = .inr (7, [.ref (adr 1), .ref (adr 2), .ref (adr 3), .ref (adr 4), .int st, .ref (adr 5), .int ty, .int at', .int re, .ref (adr 6), .ref (adr 7), .ref (adr 8)]) := by rw [ec18, va_up_ne _ _ (by omega)]; exact q0
          have h_20 : cell18 1 = .inl (kc 0, 90, .inl S) := by rw [ec18, va_up_ne _ _ (by omega)]; exact q1
          have h_21 : cell18 2 = .inl (kc 0, 360, .inl Wa) := by rw [ec18, va_up_ne _ _ (by omega)]; exact q2
          have h_22 : cell18 3 = .inl (kc 0, 90, .inl Bg) := by rw [ec18, va_up_ne _ _ (by omega)]; exact q3
          have h_23 : cell18 4 = .inl (kc 0, 90, .inl As) := by rw [ec18, va_up_ne _ _ (by omega)]; exact q4
          have h_24 : cell18 5 = .inl (kc 1, 60, .inl tx) := by rw [ec18, va_up_ne _ _ (by omega)]; exact q5
          have h_25 : cell18 6 = .inl (kc 0, 3, .inl nu) := by rw [ec18, va_up_ne _ _ (by omega)]; exact q6
          have h_26 : cell18 7 = .inl (kc 0, 40, .inl mo) := by rw [ec18, va_up_ne _ _ (by omega)]; exact q7
          have h_27 : cell18 8 = .inl (kc 0, 6, .inl (upd shl (nI i).toNatClampNeg 0)) := by rw [ec18]; exact va_up_self _ _ _
          have h_29 : cell18 8 = .inl (kc 0, 6, .inl (upd shl i 0)) := by rw [h_27, nI_clamp (by omega)]
          refine g_iinc C 1 [(1, .int (nI (i + 1))), (0, .ref (adr 0))] rfl (iinc_nI i) (by decide) rfl dX7_shifts_44 ?_
          refine g_goto C 2 (by decide) dX7_shifts_47 ?_
          have hb : ∀ k : Nat, k < i + 1 → (upd shl i 0) k = aH σ k := fun k hk => by
            by_cases e : k = i
            · rw [e, upd_s]; exact (if_pos (stand_2.mp c23)).symm
            · rw [upd_n e]; exact hsl k (by omega)
          refine g_sub [1, 0] rfl ?_
          exact ih (i + 1) _ _ (by omega) (by omega) h_19 h_20 h_21 h_22 h_23 h_24 h_25 h_26 h_29 hb
  refine g_sub [1, 0] rfl ?_
  exact L2 (σ.2.1 + 1) 0 _ _ (by omega) (by omega) m0 m1 m2 m3 m4 m5 m6 m7 m8 (fun k hk => absurd hk (Nat.not_lt_zero k))
set_option maxRecDepth 100000 in
set_option maxHeartbeats 4000000 in
theorem c_X7_block (l : Launch) (D : va_G) (kc : Nat → ClassId) (N : Nat) (adr : Nat → Nat) (cell : Nat → va_E) (S Wa Bg As tx : Nat → Int32) (st ty at' re : Int32) (nu mo sh : Nat → Int32) (m a : Nat) (hB : MB cell adr kc S Wa Bg As st tx ty at' re nu mo sh) (hN : 9 ≤ N) (hm1 : S 1 = nI m) (hm6 : m ≤ 6) (ha : a < 6) : MI l yX7_block wsX7_block ({ frames := 0, cells := 0, slots := 0, locals := 0 }) D kc N adr cell [.ref (adr 0), .int (nI a)] (fun (v : Int32) (cell1 : Nat → va_E) => blkF sh m a = v ∧ cell = cell1) := by
  refine met_i (cc := cX7_block) (maxL := 4) (ret := (some .int)) (by decide) rfl (Nat.le_of_ble_eq_true rfl) (lv := [(0, .ref (adr 0)), (1, .int (nI a))]) rfl ?_
  intro Pg Ev Sv Mi args below Me Cd Ar C hr hlk hnm
  have in7 : ∀ w ∈ u_ws RX7 TX7 12, w ∈ wsX7_block := by decide +kernel
  have f7 := C.2.2.2.2.1 (.fieldLink RX7 7 "WordAnchorsModel" "s" "[I") (by decide +kernel)
  have f32 := C.2.2.2.2.1 (.fieldLink RX7 32 "WordAnchorsModel" "shift" "[I") (by decide +kernel)
  have hB0 := hB
  obtain ⟨m0, m1, m2, m3, m4, m5, m6, m7, m8⟩ := hB
  have litm1 : ((-1) : Int32).toInt = -1 := rfl
  have lit0 : (0 : Int32).toInt = 0 := rfl
  have lit1 : (1 : Int32).toInt = 1 := rfl
  have tn_m : (nI m).toInt = ((m : Nat) : Int) := nI_toInt (by omega)
  have tn_a : (nI a).toInt = ((a : Nat) : Int) := nI_toInt (by omega)
  refine g_iconst C 0 (by decide) dX7_block_0 ?_
  refine g_istore_n C [(2, .int 0), (0, .ref (adr 0)), (1, .int (nI a))] (by decide) rfl dX7_block_1 ?_
  refine g_iconst C 0 (by decide) dX7_block_2 ?_
  refine g_istore_n C [(3, .int 0), (2, .int 0), (0, .ref (adr 0)), (1, .int (nI a))] (by decide) rfl dX7_block_3 ?_
  have L4 : ∀ (fu i : Nat) , i ≤ m → m < i + fu → G Pg l Ev (headSpec wsX7_block { frames := 0, cells := 0, slots := 0, locals := 0 }).room Sv Mi args below Me Cd D N adr Ar Sv.heap 4 0 0 (MQ below (va_Qi (fun (v : Int32) (cell1 : Nat → va_E) => blkF sh m a = v ∧ cell = cell1) (fun (cell1 : Nat → va_E) (t : State) => va_P D vwCl (wld N adr cell1) t.heap) Ar) args Sv 0 0 Ar) cell 4 [(0, .ref (adr 0)), (1, .int (nI a)), (2, .int (mkF sh (sh a) i)), (3, .int (nI i))] ([] : List Value) := by
    intro fu
    induction fu with
    | zero => intro i  hle hfu; exact absurd hfu (by omega)
    | succ fu ih =>
      intro i  hle4 hfu4  
      have tn_i : (nI i).toInt = ((i : Nat) : Int) := nI_toInt (by omega)
      refine g_iload_n C 3 rfl dX7_block_4 ?_
      refine g_aload_n C 0 rfl dX7_block_5 ?_
      refine g_get C 0 7 0 (by omega) m0 rfl in7 (by decide) f7 (fun _ h9 => h9) rfl dX7_block_6 ?_
      refine g_iconst C 1 (by decide) dX7_block_9 ?_
      refine g_iald C 1 (by omega) m1 (vp_in_iff.mpr (by omega)) dX7_block_10 ?_
      refine g_eqst (st1 := ([.int (S 1), .int (nI i)] : List Value)) rfl ?_
      refine g_eqst (show ([.int (S 1), .int (nI i)] : List Value) = ([.int (nI m), .int (nI i)] : List Value) from by rw [hm1]) ?_
      refine g_icmp_ge C 45 (by decide) dX7_block_11 (fun c11 => ?_) (fun c11 => ?_)
      · -- taken at 11
        have c11' := i_le c11
        obtain rfl : m = i := by omega
        refine g_aload_n C 0 rfl dX7_block_45 ?_
        refine g_get C 0 7 11 (by omega) m0 rfl in7 (by decide) f32 (fun _ h9 => h9) rfl dX7_block_46 ?_
        refine g_iload_n C 1 rfl dX7_block_49 ?_
        refine g_iald C 8 (by omega) m8 (vp_in_nI (by omega) (by omega)) dX7_block_50 ?_
        refine g_eqst (show ([.int (sh (nI a).toNatClampNeg)] : List Value) = ([.int (sh a)] : List Value) from by rw [nI_clamp (by omega)]) ?_
        refine g_if_eq C 64 (by decide) dX7_block_51 (fun c51 => ?_) (fun c51 => ?_)
        · -- taken at 51
          have c51' := i_eq c51
          refine g_iconst C 0 (by decide) dX7_block_64 ?_
          refine g_goto C 69 (by decide) dX7_block_65 ?_
          refine g_iret C hr rfl hlk dX7_block_69 ?_
          exact ⟨if_pos (Or.inl c51), rfl⟩
        · -- not taken at 51
          have c51' := i_ne c51
          refine g_iload_n C 2 rfl dX7_block_54 ?_
          refine g_iconst C 1 (by decide) dX7_block_55 ?_
          refine g_iload_n C 1 rfl dX7_block_56 ?_
          refine g_ishl C dX7_block_57 ?_
          refine g_iconst C 1 (by decide) dX7_block_58 ?_
          refine g_isub C dX7_block_59 ?_
          refine g_iand C dX7_block_60 ?_
          refine g_if_eq C 68 (by decide) dX7_block_61 (fun c61 => ?_) (fun c61 => ?_)
          · -- taken at 61
            have c61' := i_eq c61
            refine g_iload_n C 2 rfl dX7_block_68 ?_
            refine g_iret C hr rfl hlk dX7_block_69 ?_
            exact ⟨if_neg (fun h => h.elim c51 (fun h => h c61)), rfl⟩
          · -- not taken at 61
            have c61' := i_ne c61
            refine g_iconst C 0 (by decide) dX7_block_64 ?_
            refine g_goto C 69 (by decide) dX7_block_65 ?_
            refine g_iret C hr rfl hlk dX7_block_69 ?_
            exact ⟨if_pos (Or.inr c61), rfl⟩
      · -- not taken at 11
        have c11' := i_nle c11
        refine g_iload_n C 2 rfl dX7_block_14 ?_
        refine g_aload_n C 0 rfl dX7_block_15 ?_
        refine g_get C 0 7 11 (by omega) m0 rfl in7 (by decide) f32 (fun _ h9 => h9) rfl dX7_block_16 ?_
        refine g_iload_n C 3 rfl dX7_block_19 ?_
        refine g_iald C 8 (by omega) m8 (vp_in_nI (by omega) (by omega)) dX7_block_20 ?_
        refine g_eqst (show ([.int (sh (nI i).toNatClampNeg), .int (mkF sh (sh a) i)] : List Value) = ([.int (sh i), .int (mkF sh (sh a) i)] : List Value) from by rw [nI_clamp (by omega)]) ?_
        refine g_aload_n C 0 rfl dX7_block_21 ?_
        refine g_get C 0 7 11 (by omega) m0 rfl in7 (by decide) f32 (fun _ h9 => h9) rfl dX7_block_22 ?_
        refine g_iload_n C 1 rfl dX7_block_25 ?_
        refine g_iald C 8 (by omega) m8 (vp_in_nI (by omega) (by omega)) dX7_block_26 ?_
        refine g_eqst (show ([.int (sh (nI a).toNatClampNeg), .int (sh i), .int (mkF sh (sh a) i)] : List Value) = ([.int (sh a), .int (sh i), .int (mkF sh (sh a) i)] : List Value) from by rw [nI_clamp (by omega)]) ?_
        refine g_icmp_ne C 36 (by decide) dX7_block_27 (fun c27 => ?_) (fun c27 => ?_)
        · -- taken at 27
          have c27' := i_ne c27
          refine g_iconst C 0 (by decide) dX7_block_36 ?_
          refine g_ior C dX7_block_37 ?_
          refine g_istore_n C [(2, .int ((mkF sh (sh a) i) ||| 0)), (0, .ref (adr 0)), (1, .int (nI a)), (3, .int (nI i))] (by decide) rfl dX7_block_38 ?_
          refine g_iinc C 3 [(3, .int (nI (i + 1))), (2, .int ((mkF sh (sh a) i) ||| 0)), (0, .ref (adr 0)), (1, .int (nI a))] rfl (iinc_nI i) (by decide) rfl dX7_block_39 ?_
          refine g_goto C 4 (by decide) dX7_block_42 ?_
          have hb : mkF sh (sh a) i ||| 0 = mkF sh (sh a) (i + 1) := (Int32.or_zero).trans (mkF_n c27).symm
          refine g_sub [2, 3, 1, 0] rfl ?_
          have ev_2 : (mkF sh (sh a) i) ||| 0 = mkF sh (sh a) (i + 1) := by exact hb
          refine g_eqlv (lv1 := [(0, .ref (adr 0)), (1, .int (nI a)), (2, .int (mkF sh (sh a) (i + 1))), (3, .int (nI (i + 1)))]) (congrArg (fun z0 : Int32 => ([(0, .ref (adr 0)), (1, .int (nI a)), (2, .int z0), (3, .int (nI (i + 1)))] : List (Nat × Value))) ev_2) ?_
          exact ih (i + 1) (by omega) (by omega) 
        · -- not taken at 27
          have c27' := i_eq c27
          refine g_iconst C 1 (by decide) dX7_block_30 ?_
          refine g_iload_n C 3 rfl dX7_block_31 ?_
          refine g_ishl C dX7_block_32 ?_
          refine g_goto C 37 (by decide) dX7_block_33 ?_
          refine g_ior C dX7_block_37 ?_
          refine g_istore_n C [(2, .int ((mkF sh (sh a) i) ||| (1 <<< ((nI i) &&& 31)))), (0, .ref (adr 0)), (1, .int (nI a)), (3, .int (nI i))] (by decide) rfl dX7_block_38 ?_
          refine g_iinc C 3 [(3, .int (nI (i + 1))), (2, .int ((mkF sh (sh a) i) ||| (1 <<< ((nI i) &&& 31)))), (0, .ref (adr 0)), (1, .int (nI a))] rfl (iinc_nI i) (by decide) rfl dX7_block_39 ?_
          refine g_goto C 4 (by decide) dX7_block_42 ?_
          have hb : mkF sh (sh a) i ||| ((1 : Int32) <<< (nI i &&& 31)) = mkF sh (sh a) (i + 1) := (mkF_y c27).symm
          refine g_sub [2, 3, 1, 0] rfl ?_
          have ev_3 : (mkF sh (sh a) i) ||| (1 <<< ((nI i) &&& 31)) = mkF sh (sh a) (i + 1) := by exact hb
          refine g_eqlv (lv1 := [(0, .ref (adr 0)), (1, .int (nI a)), (2, .int (mkF sh (sh a) (i + 1))), (3, .int (nI (i + 1)))]) (congrArg (fun z0 : Int32 => ([(0, .ref (adr 0)), (1, .int (nI a)), (2, .int z0), (3, .int (nI (i + 1)))] : List (Nat × Value))) ev_3) ?_
          exact ih (i + 1) (by omega) (by omega) 
  refine g_sub [2, 3, 1, 0] rfl ?_
  have ev_4 : 0 = mkF sh (sh a) 0 := by rfl
  refine g_eqlv (lv1 := [(0, .ref (adr 0)), (1, .int (nI a)), (2, .int (mkF sh (sh a) 0)), (3, .int 0)]) (congrArg (fun z0 : Int32 => ([(0, .ref (adr 0)), (1, .int (nI a)), (2, .int z0), (3, .int 0)] : List (Nat × Value))) ev_4) ?_
  exact L4 (m + 1) 0 (by omega) (by omega) 
set_option maxRecDepth 100000 in
set_option maxHeartbeats 4000000 in
theorem c_X7_blockOf (l : Launch) (D : va_G) (kc : Nat → ClassId) (N : Nat) (adr : Nat → Nat) (cell : Nat → va_E) (σ : SD) (hn : Nat) (hi : Nat → SD) (L : Nat) (ch : Nat → Int32) (x y : Int32) (hM : MAt cell adr kc σ hn hi L ch) (hG : Good σ) (hN : 9 ≤ N) : MI l yX7_blockOf wsX7_blockOf ({ frames := 7, cells := 0, slots := 0, locals := 161 }) D kc N adr cell [.ref (adr 0), .int x, .int y] (fun (v : Int32) (cell1 : Nat → va_E) => blockOfR σ x y = v ∧ MAt cell1 adr kc σ hn hi L ch) := by
  refine met_i (cc := cX7_blockOf) (maxL := 8) (ret := (some .int)) (by decide) rfl (Nat.le_of_ble_eq_true rfl) (lv := [(0, .ref (adr 0)), (1, .int x), (2, .int y)]) rfl ?_
  intro Pg Ev Sv Mi args below Me Cd Ar C hr hlk hnm
  have in7 : ∀ w ∈ u_ws RX7 TX7 12, w ∈ wsX7_blockOf := by decide +kernel
  have k43 := C.2.2.2.2.1 (.constant RX7 43 (-1000001)) (by decide +kernel)
  have f7 := C.2.2.2.2.1 (.fieldLink RX7 7 "WordAnchorsModel" "s" "[I") (by decide +kernel)
  have k100 := C.2.2.2.2.1 (.constant RX7 100 (-1000004)) (by decide +kernel)
  have f32 := C.2.2.2.2.1 (.fieldLink RX7 32 "WordAnchorsModel" "shift" "[I") (by decide +kernel)
  have hM0 := hM
  obtain ⟨S, Wa, Bg, As, tx, at', re, nu, mo, sh, hB, hS, hH, htx, hh4, hL60⟩ := hM
  have hB0 := hB
  obtain ⟨m0, m1, m2, m3, m4, m5, m6, m7, m8⟩ := hB
  have hg1 := hG.1
  have hg2 := hG.2.1
  have e0 := hS.1
  have e1 := hS.2.1
  have litm1000004 : ((-1000004) : Int32).toInt = -1000004 := rfl
  have litm1000001 : ((-1000001) : Int32).toInt = -1000001 := rfl
  have litm1 : ((-1) : Int32).toInt = -1 := rfl
  have lit0 : (0 : Int32).toInt = 0 := rfl
  have lit1 : (1 : Int32).toInt = 1 := rfl
  have lit100 : (100 : Int32).toInt = 100 := rfl
  have tn___1 : (nI σ.1).toInt = ((σ.1 : Nat) : Int) := nI_toInt (by omega)
  have tn___2_1 : (nI σ.2.1).toInt = ((σ.2.1 : Nat) : Int) := nI_toInt (by omega)
  have tn_hn : (nI hn).toInt = ((hn : Nat) : Int) := nI_toInt (by omega)
  have tn_L : (nI L).toInt = ((L : Nat) : Int) := nI_toInt (by omega)
  refine g_iload_n C 1 rfl dX7_blockOf_0 ?_
  refine g_if_lt C 13 (by decide) dX7_blockOf_1 (fun c1 => ?_) (fun c1 => ?_)
  · -- taken at 1
    have c1' := i_lt c1
    refine g_ldc C (-1000001) k43 dX7_blockOf_13 ?_
    refine g_iret C hr rfl hlk dX7_blockOf_15 ?_
    exact ⟨by unfold blockOfR; exact if_pos (by omega), hM0⟩
  · -- not taken at 1
    have c1' := i_nlt c1
    refine g_iload_n C 2 rfl dX7_blockOf_4 ?_
    refine g_iconst C 0 (by decide) dX7_blockOf_5 ?_
    refine g_iconst C 1 (by decide) dX7_blockOf_6 ?_
    refine g_Si C [.int y, .int 0, .int 1] (c_X7_in l D kc N adr cell y 0 1) (va_cwS 3 C.2.2.2.2.1 gX7_blockOf_X7_in rfl rfl rfl (by decide +kernel) ⟨Nat.le_of_ble_eq_true rfl, Nat.le_of_ble_eq_true rfl⟩) rfl rfl (Nat.le_of_ble_eq_true rfl) (Nat.zero_le _) (Nat.zero_le _) dX7_blockOf_7 (fun v1 cell1 q1 => ?_)
    obtain ⟨rfl, rfl⟩ := q1
    refine g_if_ne C 16 (by decide) dX7_blockOf_10 (fun c10 => ?_) (fun c10 => ?_)
    · -- taken at 10
      have c10' := bI_t c10
      refine g_aload_n C 0 rfl dX7_blockOf_16 ?_
      refine g_Vv C [] 0 7 (by omega) m0 rfl (c_X7_shifts l D kc N adr cell S Wa Bg As tx (nI hn) (nI L) at' re nu mo sh σ  ⟨m0, m1, m2, m3, m4, m5, m6, m7, m8⟩ (by omega) hS hG) (cwV 0 C.2.2.2.2.1 gX7_blockOf_X7_shifts rfl rfl rfl (by decide +kernel) ⟨Nat.le_of_ble_eq_true rfl, Nat.le_of_ble_eq_true rfl⟩) rfl rfl (Nat.le_of_ble_eq_true rfl) (Nat.zero_le _) (Nat.zero_le _) dX7_blockOf_17 (fun cell2 q2 => ?_)
      obtain ⟨sh1, ⟨h_3, h_4, h_5, h_6, h_7, h_8, h_9, h_10, h_11⟩, hsh⟩ := q2
      refine g_iconst C 0 (by decide) dX7_blockOf_20 ?_
      refine g_istore_n C [(3, .int 0), (0, .ref (adr 0)), (1, .int x), (2, .int y)] (by decide) rfl dX7_blockOf_21 ?_
      have L22 : ∀ (fu i : Nat) , i ≤ σ.2.1 → σ.2.1 < i + fu → (hno : ∀ k : Nat, k < i → ¬ (0 < blkF sh1 σ.2.1 k ∧ nI (cnt (bmF sh1 σ.2.1 k) σ.2.1) = x)) → G Pg l Ev (headSpec wsX7_blockOf { frames := 7, cells := 0, slots := 0, locals := 161 }).room Sv Mi args below Me Cd D N adr Ar Sv.heap 8 0 0 (MQ below (va_Qi (fun (v : Int32) (cell1 : Nat → va_E) => blockOfR σ x y = v ∧ MAt cell1 adr kc σ hn hi L ch) (fun (cell1 : Nat → va_E) (t : State) => va_P D vwCl (wld N adr cell1) t.heap) Ar) args Sv 0 0 Ar) cell2 22 [(0, .ref (adr 0)), (1, .int x), (2, .int y), (3, .int (nI i))] ([] : List Value) := by
        intro fu
        induction fu with
        | zero => intro i  hle hfu; exact absurd hfu (by omega)
        | succ fu ih =>
          intro i  hle22 hfu22  hno
          have tn_i : (nI i).toInt = ((i : Nat) : Int) := nI_toInt (by omega)
          refine g_iload_n C 3 rfl dX7_blockOf_22 ?_
          refine g_aload_n C 0 rfl dX7_blockOf_23 ?_
          refine g_get C 0 7 0 (by omega) h_3 rfl in7 (by decide) f7 (fun _ h9 => h9) rfl dX7_blockOf_24 ?_
          refine g_iconst C 1 (by decide) dX7_blockOf_27 ?_
          refine g_iald C 1 (by omega) h_4 (vp_in_iff.mpr (by omega)) dX7_blockOf_28 ?_
          refine g_eqst (st1 := ([.int (S 1), .int (nI i)] : List Value)) rfl ?_
          refine g_eqst (show ([.int (S 1), .int (nI i)] : List Value) = ([.int (nI σ.2.1), .int (nI i)] : List Value) from by rw [e1]) ?_
          refine g_icmp_ge C 163 (by decide) dX7_blockOf_29 (fun c29 => ?_) (fun c29 => ?_)
          · -- taken at 29
            have c29' := i_le c29
            obtain rfl : σ.2.1 = i := by omega
            refine g_ldc C (-1000004) k100 dX7_blockOf_163 ?_
            refine g_iret C hr rfl hlk dX7_blockOf_165 ?_
            exact ⟨bo_noR hg2 hsh ⟨by omega, by omega⟩ hno, ⟨_, _, _, _, _, _, _, _, _, _, ⟨h_3, h_4, h_5, h_6, h_7, h_8, h_9, h_10, h_11⟩, hS, hH, htx, hh4, hL60⟩⟩
          · -- not taken at 29
            have c29' := i_nle c29
            refine g_aload_n C 0 rfl dX7_blockOf_32 ?_
            refine g_iload_n C 3 rfl dX7_blockOf_33 ?_
            refine g_Vi C [.int (nI i)] 0 7 (by omega) h_3 rfl (c_X7_block l D kc N adr cell2 S Wa Bg As tx (nI hn) (nI L) at' re nu mo sh1 σ.2.1 i ⟨h_3, h_4, h_5, h_6, h_7, h_8, h_9, h_10, h_11⟩ (by omega) e1 (by omega) (by omega)) (cwV 1 C.2.2.2.2.1 gX7_blockOf_X7_block rfl rfl rfl (by decide +kernel) ⟨Nat.le_of_ble_eq_true rfl, Nat.le_of_ble_eq_true rfl⟩) rfl rfl (Nat.le_of_ble_eq_true rfl) (Nat.zero_le _) (Nat.zero_le _) dX7_blockOf_34 (fun v13 cell13 q13 => ?_)
            obtain ⟨rfl, rfl⟩ := q13
            refine g_istore C [(4, .int (blkF sh1 σ.2.1 i)), (0, .ref (adr 0)), (1, .int x), (2, .int y), (3, .int (nI i))] (by decide) rfl dX7_blockOf_37 ?_
            refine g_iconst C 0 (by decide) dX7_blockOf_39 ?_
            refine g_istore C [(5, .int 0), (4, .int (blkF sh1 σ.2.1 i)), (0, .ref (adr 0)), (1, .int x), (2, .int y), (3, .int (nI i))] (by decide) rfl dX7_blockOf_40 ?_
            refine g_iconst C 0 (by decide) dX7_blockOf_42 ?_
            refine g_istore C [(6, .int 0), (5, .int 0), (4, .int (blkF sh1 σ.2.1 i)), (0, .ref (adr 0)), (1, .int x), (2, .int y), (3, .int (nI i))] (by decide) rfl dX7_blockOf_43 ?_
            have L45 : ∀ (fu j : Nat) , j ≤ σ.2.1 → σ.2.1 < j + fu → G Pg l Ev (headSpec wsX7_blockOf { frames := 7, cells := 0, slots := 0, locals := 161 }).room Sv Mi args below Me Cd D N adr Ar Sv.heap 8 0 0 (MQ below (va_Qi (fun (v : Int32) (cell1 : Nat → va_E) => blockOfR σ x y = v ∧ MAt cell1 adr kc σ hn hi L ch) (fun (cell1 : Nat → va_E) (t : State) => va_P D vwCl (wld N adr cell1) t.heap) Ar) args Sv 0 0 Ar) cell2 45 [(0, .ref (adr 0)), (1, .int x), (2, .int y), (3, .int (nI i)), (4, .int (blkF sh1 σ.2.1 i)), (5, .int (nI (cnt (bmF sh1 σ.2.1 i) j))), (6, .int (nI j))] ([] : List Value) := by
              intro fu
              induction fu with
              | zero => intro j  hle hfu; exact absurd hfu (by omega)
              | succ fu ih45 =>
                intro j  hle45 hfu45  
                have tn_j : (nI j).toInt = ((j : Nat) : Int) := nI_toInt (by omega)
                refine g_iload C 6 rfl dX7_blockOf_45 ?_
                refine g_aload_n C 0 rfl dX7_blockOf_47 ?_
                refine g_get C 0 7 0 (by omega) h_3 rfl in7 (by decide) f7 (fun _ h9 => h9) rfl dX7_blockOf_48 ?_
                refine g_iconst C 1 (by decide) dX7_blockOf_51 ?_
                refine g_iald C 1 (by omega) h_4 (vp_in_iff.mpr (by omega)) dX7_blockOf_52 ?_
                refine g_eqst (st1 := ([.int (S 1), .int (nI j)] : List Value)) rfl ?_
                refine g_eqst (show ([.int (S 1), .int (nI j)] : List Value) = ([.int (nI σ.2.1), .int (nI j)] : List Value) from by rw [e1]) ?_
                refine g_icmp_ge C 127 (by decide) dX7_blockOf_53 (fun c53 => ?_) (fun c53 => ?_)
                · -- taken at 53
                  have c53' := i_le c53
                  obtain rfl : σ.2.1 = j := by omega
                  refine g_iload C 4 rfl dX7_blockOf_127 ?_
                  refine g_if_le C 157 (by decide) dX7_blockOf_129 (fun c129 => ?_) (fun c129 => ?_)
                  · -- taken at 129
                    have c129' := i_le c129
                    refine g_iinc C 3 [(3, .int (nI (i + 1))), (0, .ref (adr 0)), (1, .int x), (2, .int y), (4, .int (blkF sh1 σ.2.1 i)), (5, .int (nI (cnt (bmF sh1 σ.2.1 i) σ.2.1))), (6, .int (nI σ.2.1))] rfl (iinc_nI i) (by decide) rfl dX7_blockOf_157 ?_
                    refine g_goto C 22 (by decide) dX7_blockOf_160 ?_
                    have hb : ∀ k : Nat, k < i + 1 → ¬ (0 < blkF sh1 σ.2.1 k ∧ nI (cnt (bmF sh1 σ.2.1 k) σ.2.1) = x) := fun k hk h => by
                      by_cases e : k = i
                      · rw [e] at h; exact Int32.not_lt.mpr c129 h.1
                      · exact hno k (by omega) h
                    refine g_sub [1, 2, 3, 0] rfl ?_
                    exact ih (i + 1) (by omega) (by omega) hb
                  · -- not taken at 129
                    have c129' := i_nle c129
                    refine g_iload C 5 rfl dX7_blockOf_132 ?_
                    refine g_iload_n C 1 rfl dX7_blockOf_134 ?_
                    refine g_icmp_ne C 157 (by decide) dX7_blockOf_135 (fun c135 => ?_) (fun c135 => ?_)
                    · -- taken at 135
                      have c135' := i_ne c135
                      refine g_iinc C 3 [(3, .int (nI (i + 1))), (0, .ref (adr 0)), (1, .int x), (2, .int y), (4, .int (blkF sh1 σ.2.1 i)), (5, .int (nI (cnt (bmF sh1 σ.2.1 i) σ.2.1))), (6, .int (nI σ.2.1))] rfl (iinc_nI i) (by decide) rfl dX7_blockOf_157 ?_
                      refine g_goto C 22 (by decide) dX7_blockOf_160 ?_
                      have hb : ∀ k : Nat, k < i + 1 → ¬ (0 < blkF sh1 σ.2.1 k ∧ nI (cnt (bmF sh1 σ.2.1 k) σ.2.1) = x) := fun k hk h => by
                        by_cases e : k = i
                        · rw [e] at h; exact c135 h.2
                        · exact hno k (by omega) h
                      refine g_sub [1, 2, 3, 0] rfl ?_
                      exact ih (i + 1) (by omega) (by omega) hb
                    · -- not taken at 135
                      have c135' := i_eq c135
                      refine g_iload_n C 2 rfl dX7_blockOf_138 ?_
                      refine g_if_ne C 147 (by decide) dX7_blockOf_139 (fun c139 => ?_) (fun c139 => ?_)
                      · -- taken at 139
                        have c139' := i_ne c139
                        refine g_aload_n C 0 rfl dX7_blockOf_147 ?_
                        refine g_get C 0 7 11 (by omega) h_3 rfl in7 (by decide) f32 (fun _ h9 => h9) rfl dX7_blockOf_148 ?_
                        refine g_iload_n C 3 rfl dX7_blockOf_151 ?_
                        refine g_iald C 8 (by omega) h_11 (vp_in_nI (by omega) (by omega)) dX7_blockOf_152 ?_
                        refine g_eqst (show ([.int (sh1 (nI i).toNatClampNeg)] : List Value) = ([.int (sh1 i)] : List Value) from by rw [nI_clamp (by omega)]) ?_
                        refine g_bipush C 100 (by decide) dX7_blockOf_153 ?_
                        refine g_iadd C dX7_blockOf_155 ?_
                        refine g_iret C hr rfl hlk dX7_blockOf_156 ?_
                        exact ⟨bo_yesR hg2 hsh ⟨by omega, by omega⟩ (by omega) (Int32.not_le.mp c129) c135 hno ⟨fun h => absurd h c139, fun _ => rfl⟩, ⟨_, _, _, _, _, _, _, _, _, _, ⟨h_3, h_4, h_5, h_6, h_7, h_8, h_9, h_10, h_11⟩, hS, hH, htx, hh4, hL60⟩⟩
                      · -- not taken at 139
                        have c139' := i_eq c139
                        refine g_iload C 4 rfl dX7_blockOf_142 ?_
                        refine g_goto C 156 (by decide) dX7_blockOf_144 ?_
                        refine g_iret C hr rfl hlk dX7_blockOf_156 ?_
                        exact ⟨bo_yesR hg2 hsh ⟨by omega, by omega⟩ (by omega) (Int32.not_le.mp c129) c135 hno ⟨fun _ => rfl, fun h => absurd c139 h⟩, ⟨_, _, _, _, _, _, _, _, _, _, ⟨h_3, h_4, h_5, h_6, h_7, h_8, h_9, h_10, h_11⟩, hS, hH, htx, hh4, hL60⟩⟩
                · -- not taken at 53
                  have c53' := i_nle c53
                  refine g_aload_n C 0 rfl dX7_blockOf_56 ?_
                  refine g_iload C 6 rfl dX7_blockOf_57 ?_
                  refine g_Vi C [.int (nI j)] 0 7 (by omega) h_3 rfl (c_X7_block l D kc N adr cell2 S Wa Bg As tx (nI hn) (nI L) at' re nu mo sh1 σ.2.1 j ⟨h_3, h_4, h_5, h_6, h_7, h_8, h_9, h_10, h_11⟩ (by omega) e1 (by omega) (by omega)) (cwV 1 C.2.2.2.2.1 gX7_blockOf_X7_block rfl rfl rfl (by decide +kernel) ⟨Nat.le_of_ble_eq_true rfl, Nat.le_of_ble_eq_true rfl⟩) rfl rfl (Nat.le_of_ble_eq_true rfl) (Nat.zero_le _) (Nat.zero_le _) dX7_blockOf_59 (fun v15 cell15 q15 => ?_)
                  obtain ⟨rfl, rfl⟩ := q15
                  refine g_istore C [(7, .int (blkF sh1 σ.2.1 j)), (0, .ref (adr 0)), (1, .int x), (2, .int y), (3, .int (nI i)), (4, .int (blkF sh1 σ.2.1 i)), (5, .int (nI (cnt (bmF sh1 σ.2.1 i) j))), (6, .int (nI j))] (by decide) rfl dX7_blockOf_62 ?_
                  refine g_iload C 6 rfl dX7_blockOf_64 ?_
                  refine g_iload C 0 rfl dX7_blockOf_66 ?_
                  refine g_Si C [.int (blkF sh1 σ.2.1 j)] (c_X7_ones l D kc N adr cell2 (blkF sh1 σ.2.1 j)) (va_cwS 1 C.2.2.2.2.1 gX7_blockOf_X7_ones rfl rfl rfl (by decide +kernel) ⟨Nat.le_of_ble_eq_true rfl, Nat.le_of_ble_eq_true rfl⟩) rfl rfl (Nat.le_of_ble_eq_true rfl) (Nat.zero_le _) (Nat.zero_le _) dX7_blockOf_68 (fun v16 cell16 q16 => ?_)
                  obtain ⟨rfl, rfl⟩ := q16
                  refine g_iload C 5 rfl dX7_blockOf_71 ?_
                  refine g_Si C [.int (blkF sh1 σ.2.1 i)] (c_X7_ones l D kc N adr cell2 (blkF sh1 σ.2.1 i)) (va_cwS 1 C.2.2.2.2.1 gX7_blockOf_X7_ones rfl rfl rfl (by decide +kernel) ⟨Nat.le_of_ble_eq_true rfl, Nat.le_of_ble_eq_true rfl⟩) rfl rfl (Nat.le_of_ble_eq_true rfl) (Nat.zero_le _) (Nat.zero_le _) dX7_blockOf_73 (fun v17 cell17 q17 => ?_)
                  obtain ⟨rfl, rfl⟩ := q17
                  refine g_icmp_gt C 113 (by decide) dX7_blockOf_76 (fun c76 => ?_) (fun c76 => ?_)
                  · -- taken at 76
                    have c76' := i_lt c76
                    refine g_iconst C 1 (by decide) dX7_blockOf_113 ?_
                    refine g_goto C 118 (by decide) dX7_blockOf_114 ?_
                    refine g_iadd C dX7_blockOf_118 ?_
                    refine g_eqst (st1 := ([.int (nI (cnt (bmF sh1 σ.2.1 i) j + 1))] : List Value)) (congrArg (fun z0 : Int32 => (([.int z0] : List Value))) (mI_add (cnt (bmF sh1 σ.2.1 i) j) 1)) ?_
                    refine g_istore C [(5, .int (nI (cnt (bmF sh1 σ.2.1 i) j + 1))), (7, .int (blkF sh1 σ.2.1 j)), (0, .ref (adr 0)), (1, .int x), (2, .int y), (3, .int (nI i)), (4, .int (blkF sh1 σ.2.1 i)), (6, .int (nI j))] (by decide) rfl dX7_blockOf_119 ?_
                    refine g_iinc C 7 [(6, .int (nI (j + 1))), (5, .int (nI (cnt (bmF sh1 σ.2.1 i) j + 1))), (7, .int (blkF sh1 σ.2.1 j)), (0, .ref (adr 0)), (1, .int x), (2, .int y), (3, .int (nI i)), (4, .int (blkF sh1 σ.2.1 i))] rfl (iinc_nI j) (by decide) rfl dX7_blockOf_121 ?_
                    refine g_goto C 45 (by decide) dX7_blockOf_124 ?_
                    have hbi : nI (cnt (bmF sh1 σ.2.1 i) j + 1) = nI (cnt (bmF sh1 σ.2.1 i) (j + 1)) := cnt_yes (decide_eq_true (Or.inl c76))
                    refine g_sub [3, 4, 5, 6, 7, 1, 0] rfl ?_
                    have ev_18 : nI (cnt (bmF sh1 σ.2.1 i) j + 1) = nI (cnt (bmF sh1 σ.2.1 i) (j + 1)) := by exact hbi
                    refine g_eqlv (lv1 := [(0, .ref (adr 0)), (1, .int x), (2, .int y), (3, .int (nI i)), (4, .int (blkF sh1 σ.2.1 i)), (5, .int (nI (cnt (bmF sh1 σ.2.1 i) (j + 1)))), (6, .int (nI (j + 1)))]) (congrArg (fun z0 : Int32 => ([(0, .ref (adr 0)), (1, .int x), (2, .int y), (3, .int (nI i)), (4, .int (blkF sh1 σ.2.1 i)), (5, .int z0), (6, .int (nI (j + 1)))] : List (Nat × Value))) ev_18) ?_
                    exact ih45 (j + 1) (by omega) (by omega) 
                  · -- not taken at 76
                    have c76' := i_nlt c76
                    refine g_iload C 0 rfl dX7_blockOf_79 ?_
                    refine g_if_le C 117 (by decide) dX7_blockOf_81 (fun c81 => ?_) (fun c81 => ?_)
                    · -- taken at 81
                      have c81' := i_le c81
                      refine g_iconst C 0 (by decide) dX7_blockOf_117 ?_
                      refine g_iadd C dX7_blockOf_118 ?_
                      refine g_eqst (st1 := ([.int (nI (cnt (bmF sh1 σ.2.1 i) j + 0))] : List Value)) (congrArg (fun z0 : Int32 => (([.int z0] : List Value))) (mI_add (cnt (bmF sh1 σ.2.1 i) j) 0)) ?_
                      refine g_istore C [(5, .int (nI (cnt (bmF sh1 σ.2.1 i) j + 0))), (7, .int (blkF sh1 σ.2.1 j)), (0, .ref (adr 0)), (1, .int x), (2, .int y), (3, .int (nI i)), (4, .int (blkF sh1 σ.2.1 i)), (6, .int (nI j))] (by decide) rfl dX7_blockOf_119 ?_
                      refine g_iinc C 7 [(6, .int (nI (j + 1))), (5, .int (nI (cnt (bmF sh1 σ.2.1 i) j + 0))), (7, .int (blkF sh1 σ.2.1 j)), (0, .ref (adr 0)), (1, .int x), (2, .int y), (3, .int (nI i)), (4, .int (blkF sh1 σ.2.1 i))] rfl (iinc_nI j) (by decide) rfl dX7_blockOf_121 ?_
                      refine g_goto C 45 (by decide) dX7_blockOf_124 ?_
                      have hbi : nI (cnt (bmF sh1 σ.2.1 i) j + 0) = nI (cnt (bmF sh1 σ.2.1 i) (j + 1)) := cnt_no (of_decide_eq_false_b (fun h => h.elim c76 (fun h => Int32.not_lt.mpr c81 h.1)))
                      refine g_sub [3, 4, 5, 6, 7, 1, 0] rfl ?_
                      have ev_19 : nI (cnt (bmF sh1 σ.2.1 i) j + 0) = nI (cnt (bmF sh1 σ.2.1 i) (j + 1)) := by exact hbi
                      refine g_eqlv (lv1 := [(0, .ref (adr 0)), (1, .int x), (2, .int y), (3, .int (nI i)), (4, .int (blkF sh1 σ.2.1 i)), (5, .int (nI (cnt (bmF sh1 σ.2.1 i) (j + 1)))), (6, .int (nI (j + 1)))]) (congrArg (fun z0 : Int32 => ([(0, .ref (adr 0)), (1, .int x), (2, .int y), (3, .int (nI i)), (4, .int (blkF sh1 σ.2.1 i)), (5, .int z0), (6, .int (nI (j + 1)))] : List (Nat × Value))) ev_19) ?_
                      exact ih45 (j + 1) (by omega) (by omega) 
                    · -- not taken at 81
                      have c81' := i_nle c81
                      refine g_iload C 0 rfl dX7_blockOf_84 ?_
                      refine g_Si C [.int (blkF sh1 σ.2.1 j)] (c_X7_ones l D kc N adr cell2 (blkF sh1 σ.2.1 j)) (va_cwS 1 C.2.2.2.2.1 gX7_blockOf_X7_ones rfl rfl rfl (by decide +kernel) ⟨Nat.le_of_ble_eq_true rfl, Nat.le_of_ble_eq_true rfl⟩) rfl rfl (Nat.le_of_ble_eq_true rfl) (Nat.zero_le _) (Nat.zero_le _) dX7_blockOf_86 (fun v20 cell20 q20 => ?_)
                      obtain ⟨rfl, rfl⟩ := q20
                      refine g_iload C 5 rfl dX7_blockOf_89 ?_
                      refine g_Si C [.int (blkF sh1 σ.2.1 i)] (c_X7_ones l D kc N adr cell2 (blkF sh1 σ.2.1 i)) (va_cwS 1 C.2.2.2.2.1 gX7_blockOf_X7_ones rfl rfl rfl (by decide +kernel) ⟨Nat.le_of_ble_eq_true rfl, Nat.le_of_ble_eq_true rfl⟩) rfl rfl (Nat.le_of_ble_eq_true rfl) (Nat.zero_le _) (Nat.zero_le _) dX7_blockOf_91 (fun v21 cell21 q21 => ?_)
                      obtain ⟨rfl, rfl⟩ := q21
                      refine g_icmp_ne C 117 (by decide) dX7_blockOf_94 (fun c94 => ?_) (fun c94 => ?_)
                      · -- taken at 94
                        have c94' := i_ne c94
                        refine g_iconst C 0 (by decide) dX7_blockOf_117 ?_
                        refine g_iadd C dX7_blockOf_118 ?_
                        refine g_eqst (st1 := ([.int (nI (cnt (bmF sh1 σ.2.1 i) j + 0))] : List Value)) (congrArg (fun z0 : Int32 => (([.int z0] : List Value))) (mI_add (cnt (bmF sh1 σ.2.1 i) j) 0)) ?_
                        refine g_istore C [(5, .int (nI (cnt (bmF sh1 σ.2.1 i) j + 0))), (7, .int (blkF sh1 σ.2.1 j)), (0, .ref (adr 0)), (1, .int x), (2, .int y), (3, .int (nI i)), (4, .int (blkF sh1 σ.2.1 i)), (6, .int (nI j))] (by decide) rfl dX7_blockOf_119 ?_
                        refine g_iinc C 7 [(6, .int (nI (j + 1))), (5, .int (nI (cnt (bmF sh1 σ.2.1 i) j + 0))), (7, .int (blkF sh1 σ.2.1 j)), (0, .ref (adr 0)), (1, .int x), (2, .int y), (3, .int (nI i)), (4, .int (blkF sh1 σ.2.1 i))] rfl (iinc_nI j) (by decide) rfl dX7_blockOf_121 ?_
                        refine g_goto C 45 (by decide) dX7_blockOf_124 ?_
                        have hbi : nI (cnt (bmF sh1 σ.2.1 i) j + 0) = nI (cnt (bmF sh1 σ.2.1 i) (j + 1)) := cnt_no (of_decide_eq_false_b (fun h => h.elim c76 (fun h => c94 h.2.1)))
                        refine g_sub [3, 4, 5, 6, 7, 1, 0] rfl ?_
                        have ev_22 : nI (cnt (bmF sh1 σ.2.1 i) j + 0) = nI (cnt (bmF sh1 σ.2.1 i) (j + 1)) := by exact hbi
                        refine g_eqlv (lv1 := [(0, .ref (adr 0)), (1, .int x), (2, .int y), (3, .int (nI i)), (4, .int (blkF sh1 σ.2.1 i)), (5, .int (nI (cnt (bmF sh1 σ.2.1 i) (j + 1)))), (6, .int (nI (j + 1)))]) (congrArg (fun z0 : Int32 => ([(0, .ref (adr 0)), (1, .int x), (2, .int y), (3, .int (nI i)), (4, .int (blkF sh1 σ.2.1 i)), (5, .int z0), (6, .int (nI (j + 1)))] : List (Nat × Value))) ev_22) ?_
                        exact ih45 (j + 1) (by omega) (by omega) 
                      · -- not taken at 94
                        have c94' := i_eq c94
                        refine g_aload_n C 1 rfl dX7_blockOf_97 ?_
                        refine g_get C 0 7 11 (by omega) h_3 rfl in7 (by decide) f32 (fun _ h9 => h9) rfl dX7_blockOf_98 ?_
                        refine g_iload C 7 rfl dX7_blockOf_101 ?_
                        refine g_iald C 8 (by omega) h_11 (vp_in_nI (by omega) (by omega)) dX7_blockOf_103 ?_
                        refine g_eqst (show ([.int (sh1 (nI j).toNatClampNeg), .int (nI (cnt (bmF sh1 σ.2.1 i) j))] : List Value) = ([.int (sh1 j), .int (nI (cnt (bmF sh1 σ.2.1 i) j))] : List Value) from by rw [nI_clamp (by omega)]) ?_
                        refine g_aload_n C 1 rfl dX7_blockOf_104 ?_
                        refine g_get C 0 7 11 (by omega) h_3 rfl in7 (by decide) f32 (fun _ h9 => h9) rfl dX7_blockOf_105 ?_
                        refine g_iload_n C 4 rfl dX7_blockOf_108 ?_
                        refine g_iald C 8 (by omega) h_11 (vp_in_nI (by omega) (by omega)) dX7_blockOf_109 ?_
                        refine g_eqst (show ([.int (sh1 (nI i).toNatClampNeg), .int (sh1 j), .int (nI (cnt (bmF sh1 σ.2.1 i) j))] : List Value) = ([.int (sh1 i), .int (sh1 j), .int (nI (cnt (bmF sh1 σ.2.1 i) j))] : List Value) from by rw [nI_clamp (by omega)]) ?_
                        refine g_icmp_ge C 117 (by decide) dX7_blockOf_110 (fun c110 => ?_) (fun c110 => ?_)
                        · -- taken at 110
                          have c110' := i_le c110
                          refine g_iconst C 0 (by decide) dX7_blockOf_117 ?_
                          refine g_iadd C dX7_blockOf_118 ?_
                          refine g_eqst (st1 := ([.int (nI (cnt (bmF sh1 σ.2.1 i) j + 0))] : List Value)) (congrArg (fun z0 : Int32 => (([.int z0] : List Value))) (mI_add (cnt (bmF sh1 σ.2.1 i) j) 0)) ?_
                          refine g_istore C [(5, .int (nI (cnt (bmF sh1 σ.2.1 i) j + 0))), (7, .int (blkF sh1 σ.2.1 j)), (0, .ref (adr 0)), (1, .int x), (2, .int y), (3, .int (nI i)), (4, .int (blkF sh1 σ.2.1 i)), (6, .int (nI j))] (by decide) rfl dX7_blockOf_119 ?_
                          refine g_iinc C 7 [(6, .int (nI (j + 1))), (5, .int (nI (cnt (bmF sh1 σ.2.1 i) j + 0))), (7, .int (blkF sh1 σ.2.1 j)), (0, .ref (adr 0)), (1, .int x), (2, .int y), (3, .int (nI i)), (4, .int (blkF sh1 σ.2.1 i))] rfl (iinc_nI j) (by decide) rfl dX7_blockOf_121 ?_
                          refine g_goto C 45 (by decide) dX7_blockOf_124 ?_
                          have hbi : nI (cnt (bmF sh1 σ.2.1 i) j + 0) = nI (cnt (bmF sh1 σ.2.1 i) (j + 1)) := cnt_no (of_decide_eq_false_b (fun h => h.elim c76 (fun h => Int32.not_lt.mpr c110 h.2.2)))
                          refine g_sub [3, 4, 5, 6, 7, 1, 0] rfl ?_
                          have ev_23 : nI (cnt (bmF sh1 σ.2.1 i) j + 0) = nI (cnt (bmF sh1 σ.2.1 i) (j + 1)) := by exact hbi
                          refine g_eqlv (lv1 := [(0, .ref (adr 0)), (1, .int x), (2, .int y), (3, .int (nI i)), (4, .int (blkF sh1 σ.2.1 i)), (5, .int (nI (cnt (bmF sh1 σ.2.1 i) (j + 1)))), (6, .int (nI (j + 1)))]) (congrArg (fun z0 : Int32 => ([(0, .ref (adr 0)), (1, .int x), (2, .int y), (3, .int (nI i)), (4, .int (blkF sh1 σ.2.1 i)), (5, .int z0), (6, .int (nI (j + 1)))] : List (Nat × Value))) ev_23) ?_
                          exact ih45 (j + 1) (by omega) (by omega) 
                        · -- not taken at 110
                          have c110' := i_nle c110
                          refine g_iconst C 1 (by decide) dX7_blockOf_113 ?_
                          refine g_goto C 118 (by decide) dX7_blockOf_114 ?_
                          refine g_iadd C dX7_blockOf_118 ?_
                          refine g_eqst (st1 := ([.int (nI (cnt (bmF sh1 σ.2.1 i) j + 1))] : List Value)) (congrArg (fun z0 : Int32 => (([.int z0] : List Value))) (mI_add (cnt (bmF sh1 σ.2.1 i) j) 1)) ?_
                          refine g_istore C [(5, .int (nI (cnt (bmF sh1 σ.2.1 i) j + 1))), (7, .int (blkF sh1 σ.2.1 j)), (0, .ref (adr 0)), (1, .int x), (2, .int y), (3, .int (nI i)), (4, .int (blkF sh1 σ.2.1 i)), (6, .int (nI j))] (by decide) rfl dX7_blockOf_119 ?_
                          refine g_iinc C 7 [(6, .int (nI (j + 1))), (5, .int (nI (cnt (bmF sh1 σ.2.1 i) j + 1))), (7, .int (blkF sh1 σ.2.1 j)), (0, .ref (adr 0)), (1, .int x), (2, .int y), (3, .int (nI i)), (4, .int (blkF sh1 σ.2.1 i))] rfl (iinc_nI j) (by decide) rfl dX7_blockOf_121 ?_
                          refine g_goto C 45 (by decide) dX7_blockOf_124 ?_
                          have hbi : nI (cnt (bmF sh1 σ.2.1 i) j + 1) = nI (cnt (bmF sh1 σ.2.1 i) (j + 1)) := cnt_yes (decide_eq_true (Or.inr ⟨Int32.not_le.mp c81, c94, Int32.not_le.mp c110⟩))
                          refine g_sub [3, 4, 5, 6, 7, 1, 0] rfl ?_
                          have ev_24 : nI (cnt (bmF sh1 σ.2.1 i) j + 1) = nI (cnt (bmF sh1 σ.2.1 i) (j + 1)) := by exact hbi
                          refine g_eqlv (lv1 := [(0, .ref (adr 0)), (1, .int x), (2, .int y), (3, .int (nI i)), (4, .int (blkF sh1 σ.2.1 i)), (5, .int (nI (cnt (bmF sh1 σ.2.1 i) (j + 1)))), (6, .int (nI (j + 1)))]) (congrArg (fun z0 : Int32 => ([(0, .ref (adr 0)), (1, .int x), (2, .int y), (3, .int (nI i)), (4, .int (blkF sh1 σ.2.1 i)), (5, .int z0), (6, .int (nI (j + 1)))] : List (Nat × Value))) ev_24) ?_
                          exact ih45 (j + 1) (by omega) (by omega) 
            refine g_sub [3, 4, 5, 6, 2, 1, 0] rfl ?_
            have ev_25 : 0 = nI (cnt (bmF sh1 σ.2.1 i) 0) := by rfl
            refine g_eqlv (lv1 := [(0, .ref (adr 0)), (1, .int x), (2, .int y), (3, .int (nI i)), (4, .int (blkF sh1 σ.2.1 i)), (5, .int (nI (cnt (bmF sh1 σ.2.1 i) 0))), (6, .int 0)]) (congrArg (fun z0 : Int32 => ([(0, .ref (adr 0)), (1, .int x), (2, .int y), (3, .int (nI i)), (4, .int (blkF sh1 σ.2.1 i)), (5, .int z0), (6, .int 0)] : List (Nat × Value))) ev_25) ?_
            exact L45 (σ.2.1 + 1) 0 (by omega) (by omega) 
      refine g_sub [1, 2, 3, 0] rfl ?_
      exact L22 (σ.2.1 + 1) 0 (by omega) (by omega) (fun k hk => absurd hk (Nat.not_lt_zero k))
    · -- not taken at 10
      have c10' := bI_f c10
      refine g_ldc C (-1000001) k43 dX7_blockOf_13 ?_
      refine g_iret C hr rfl hlk dX7_blockOf_15 ?_
      exact ⟨by unfold blockOfR; exact if_pos (by omega), hM0⟩
