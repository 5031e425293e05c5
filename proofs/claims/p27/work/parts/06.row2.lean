set_option maxRecDepth 100000 in
set_option maxHeartbeats 4000000 in
theorem c_X4_insert (l : Launch) (D : va_G) (kc : Nat → ClassId) (N : Nat) (adr : Nat → Nat) (cell : Nat → va_E) (r : Nat) (W T U : Nat → Int32) (n : Nat) (q : Nat) (w : Int32) (hR : RowAt cell adr kc r W T U n) (hN : r + 4 ≤ N) (hq : q ≤ n ∧ n < 40) : MV l yX4_insert wsX4_insert ({ frames := 2, cells := 0, slots := 0, locals := 45 }) D kc N adr cell [.ref (adr r), .int (nI q), .int w] (fun (cell1 : Nat → va_E) => ∃ W1 T1 U1 : Nat → Int32, RowAt cell1 adr kc r W1 T1 U1 (n + 1) ∧ (∀ p : Nat, p < n + 1 → W1 p = insW q w W p) ∧ (∀ p : Nat, p < 40 → T1 p = nI (insP q p)) ∧ ∀ j : Nat, (j < r ∨ r + 4 ≤ j) → cell1 j = cell j) := by
  refine met_v (cc := cX4_insert) (maxL := 4) (ret := none) (by decide) rfl (Nat.le_of_ble_eq_true rfl) (lv := [(0, .ref (adr r)), (1, .int (nI q)), (2, .int w)]) rfl ?_
  intro Pg Ev Sv Mi args below Me Cd Ar C hr hlk hnm
  have in4 : ∀ w ∈ u_ws RX4 TX4 4, w ∈ wsX4_insert := by decide +kernel
  have f15 := C.2.2.2.2.1 (.fieldLink RX4 15 "WordAnchors$Row" "targets" "[I") (by decide +kernel)
  have f21 := C.2.2.2.2.1 (.fieldLink RX4 21 "WordAnchors$Row" "size" "I") (by decide +kernel)
  obtain ⟨h0, h1, h2, h3, hn⟩ := hR
  have litm1 : ((-1) : Int32).toInt = -1 := rfl
  have lit0 : (0 : Int32).toInt = 0 := rfl
  have lit1 : (1 : Int32).toInt = 1 := rfl
  have lit40 : (40 : Int32).toInt = 40 := rfl
  have tn_n : (nI n).toInt = ((n : Nat) : Int) := nI_toInt (by omega)
  have tn_q : (nI q).toInt = ((q : Nat) : Int) := nI_toInt (by omega)
  refine g_aload_n C 0 rfl dX4_insert_0 ?_
  refine g_iload_n C 1 rfl dX4_insert_1 ?_
  refine g_Vi C [.int (nI q)] r 4 (by omega) h0 rfl (c_X4_takesAt l D kc N adr cell r W T U n (nI q) ⟨h0, h1, h2, h3, by omega⟩ (by omega)) (cwV 1 C.2.2.2.2.1 gX4_insert_X4_takesAt rfl rfl rfl (by decide +kernel) ⟨Nat.le_of_ble_eq_true rfl, Nat.le_of_ble_eq_true rfl⟩) rfl rfl (Nat.le_of_ble_eq_true rfl) (Nat.zero_le _) (Nat.zero_le _) dX4_insert_2 (fun v1 cell1 q1 => ?_)
  obtain ⟨rfl, rfl⟩ := q1
  refine g_if_eq C 15 (by decide) dX4_insert_5 (fun c5 => ?_) (fun c5 => ?_)
  · -- taken at 5
    have c5' := bI_f c5
    exfalso; omega
  · -- not taken at 5
    have c5' := bI_t c5
    refine g_aload_n C 0 rfl dX4_insert_8 ?_
    refine g_Vi C [] r 4 (by omega) h0 rfl (c_X4_isFull l D kc N adr cell r W T U n  ⟨h0, h1, h2, h3, by omega⟩ (by omega)) (cwV 0 C.2.2.2.2.1 gX4_insert_X4_isFull rfl rfl rfl (by decide +kernel) ⟨Nat.le_of_ble_eq_true rfl, Nat.le_of_ble_eq_true rfl⟩) rfl rfl (Nat.le_of_ble_eq_true rfl) (Nat.zero_le _) (Nat.zero_le _) dX4_insert_9 (fun v2 cell2 q2 => ?_)
    obtain ⟨rfl, rfl⟩ := q2
    refine g_if_eq C 16 (by decide) dX4_insert_12 (fun c12 => ?_) (fun c12 => ?_)
    · -- taken at 12
      have c12' := bI_f c12
      refine g_iconst C 0 (by decide) dX4_insert_16 ?_
      refine g_istore_n C [(3, .int 0), (0, .ref (adr r)), (1, .int (nI q)), (2, .int w)] (by decide) rfl dX4_insert_17 ?_
      have L18 : ∀ (fu i : Nat) (cl : Nat → va_E) , i ≤ 40 → 40 < i + fu → (g0 : cl r = .inr (4, [.ref (adr (r + 1)), .ref (adr (r + 2)), .ref (adr (r + 3)), .int (nI n)])) → (g1 : cl (r + 1) = .inl (kc 0, 40, .inl W)) → (g2 : cl (r + 2) = .inl (kc 0, 40, .inl (fill (fun k => nI (insP q k)) T i))) → (g3 : cl (r + 3) = .inl (kc 0, 40, .inl U)) → (frl18 : ∀ j : Nat, (j < r ∨ r + 4 ≤ j) → cl j = cell j) → G Pg l Ev (headSpec wsX4_insert { frames := 2, cells := 0, slots := 0, locals := 45 }).room Sv Mi args below Me Cd D N adr Ar Sv.heap 4 0 0 (MQ below (va_Qv (fun (cell1 : Nat → va_E) => ∃ W1 T1 U1 : Nat → Int32, RowAt cell1 adr kc r W1 T1 U1 (n + 1) ∧ (∀ p : Nat, p < n + 1 → W1 p = insW q w W p) ∧ (∀ p : Nat, p < 40 → T1 p = nI (insP q p)) ∧ ∀ j : Nat, (j < r ∨ r + 4 ≤ j) → cell1 j = cell j) (fun (cell1 : Nat → va_E) (t : State) => va_P D vwCl (wld N adr cell1) t.heap) Ar) args Sv 0 0 Ar) cl 18 [(0, .ref (adr r)), (1, .int (nI q)), (2, .int w), (3, .int (nI i))] ([] : List Value) := by
        intro fu
        induction fu with
        | zero => intro i cl  hle hfu; exact absurd hfu (by omega)
        | succ fu ih =>
          intro i cl  hle18 hfu18 g0 g1 g2 g3 frl18 
          have tn_i : (nI i).toInt = ((i : Nat) : Int) := nI_toInt (by omega)
          refine g_iload_n C 3 rfl dX4_insert_18 ?_
          refine g_aload_n C 0 rfl dX4_insert_19 ?_
          refine g_get C r 4 1 (by omega) g0 rfl in4 (by decide) f15 (fun _ h9 => h9) rfl dX4_insert_20 ?_
          refine g_alen C (r + 2) 0 (by omega) g2 rfl 40 rfl dX4_insert_23 ?_
          refine g_icmp_ge C 51 (by decide) dX4_insert_24 (fun c24 => ?_) (fun c24 => ?_)
          · -- taken at 24
            have c24' := i_le c24
            obtain rfl : 40 = i := by omega
            refine g_aload_n C 0 rfl dX4_insert_51 ?_
            refine g_aload_n C 0 rfl dX4_insert_52 ?_
            refine g_get C r 4 3 (by omega) g0 rfl in4 (by decide) f21 (fun _ h9 => h9) rfl dX4_insert_53 ?_
            refine g_iconst C 1 (by decide) dX4_insert_56 ?_
            refine g_iadd C dX4_insert_57 ?_
            refine g_eqst (show ([.int ((nI n) + 1), .ref (adr r)] : List Value) = ([.int (nI (n + 1)), .ref (adr r)] : List Value) from by rw [nI_1]) ?_
            refine g_Vv C [.int (nI (n + 1))] r 4 (by omega) g0 rfl (c_X4_relocate l D kc N adr cl r W (fill (fun k => nI (insP q k)) T 40) U n (n + 1) ⟨g0, g1, g2, g3, by omega⟩ (by omega) (by omega)) (cwV 1 C.2.2.2.2.1 gX4_insert_X4_relocate rfl rfl rfl (by decide +kernel) ⟨Nat.le_of_ble_eq_true rfl, Nat.le_of_ble_eq_true rfl⟩) rfl rfl (Nat.le_of_ble_eq_true rfl) (Nat.zero_le _) (Nat.zero_le _) dX4_insert_58 (fun cell4 q4 => ?_)
            obtain ⟨⟨g_5, g_6, g_7, g_8, g_9⟩, gf_10⟩ := q4
            have fr_11 : ∀ j : Nat, (j < r ∨ r + 4 ≤ j) → cell4 j = cell j := fun j hj => (gf_10 j (by omega)).trans (frl18 j hj)
            refine g_aload_n C 0 rfl dX4_insert_61 ?_
            refine g_iload_n C 1 rfl dX4_insert_62 ?_
            refine g_iload_n C 2 rfl dX4_insert_63 ?_
            refine g_Vv C [.int (nI q), .int w] r 4 (by omega) g_5 rfl (c_X4_write l D kc N adr cell4 r (fill (rlF W (fill (fun k => nI (insP q k)) T 40) U n) W (n + 1)) (fill (fun k => nI (insP q k)) T 40) (rlF W (fill (fun k => nI (insP q k)) T 40) U n) (n + 1) q w ⟨g_5, g_6, g_7, g_8, by omega⟩ (by omega) (by omega)) (cwV 2 C.2.2.2.2.1 gX4_insert_X4_write rfl rfl rfl (by decide +kernel) ⟨Nat.le_of_ble_eq_true rfl, Nat.le_of_ble_eq_true rfl⟩) rfl rfl (Nat.le_of_ble_eq_true rfl) (Nat.zero_le _) (Nat.zero_le _) dX4_insert_64 (fun cell12 q12 => ?_)
            obtain ⟨⟨g_13, g_14, g_15, g_16, g_17⟩, gf_18⟩ := q12
            have fr_19 : ∀ j : Nat, (j < r ∨ r + 4 ≤ j) → cell12 j = cell j := fun j hj => (gf_18 j (by omega)).trans (fr_11 j hj)
            refine g_vret C hr hlk dX4_insert_67 ?_
            exact ⟨_, _, _, ⟨g_13, g_14, g_15, g_16, by omega⟩, insW_ok hq.1 hq.2, fun p hp => fill_in hp, fr_19⟩
          · -- not taken at 24
            have c24' := i_nle c24
            refine g_aload_n C 0 rfl dX4_insert_27 ?_
            refine g_get C r 4 1 (by omega) g0 rfl in4 (by decide) f15 (fun _ h9 => h9) rfl dX4_insert_28 ?_
            refine g_iload_n C 3 rfl dX4_insert_31 ?_
            refine g_iload_n C 3 rfl dX4_insert_32 ?_
            refine g_iload_n C 1 rfl dX4_insert_33 ?_
            refine g_icmp_ge C 41 (by decide) dX4_insert_34 (fun c34 => ?_) (fun c34 => ?_)
            · -- taken at 34
              have c34' := i_le c34
              refine g_iload_n C 3 rfl dX4_insert_41 ?_
              refine g_iconst C 1 (by decide) dX4_insert_42 ?_
              refine g_iadd C dX4_insert_43 ?_
              refine g_iast C (r + 2) (by omega) g2 (vp_in_nI (by omega) (by omega)) dX4_insert_44 ?_
              refine g_cell (fun cell20 ec20 => ?_)
              have h_21 : cell20 r = .inr (4, [.ref (adr (r + 1)), .ref (adr (r + 2)), .ref (adr (r + 3)), .int (nI n)]) := by rw [ec20, va_up_ne _ _ (by omega)]; exact g0
              have h_22 : cell20 (r + 1) = .inl (kc 0, 40, .inl W) := by rw [ec20, va_up_ne _ _ (by omega)]; exact g1
              have h_23 : cell20 (r + 2) = .inl (kc 0, 40, .inl (upd (fill (fun k => nI (insP q k)) T i) (nI i).toNatClampNeg ((nI i) + 1))) := by rw [ec20]; exact va_up_self _ _ _
              have h_24 : cell20 (r + 3) = .inl (kc 0, 40, .inl U) := by rw [ec20, va_up_ne _ _ (by omega)]; exact g3
              have fr_25 : ∀ j : Nat, (j < r ∨ r + 4 ≤ j) → cell20 j = cell j := fun j hj => by rw [ec20, va_up_ne _ _ (by omega)]; exact frl18 j hj
              have h_26 : cell20 (r + 2) = .inl (kc 0, 40, .inl (upd (fill (fun k => nI (insP q k)) T i) i ((nI i) + 1))) := by rw [h_23, nI_clamp (by omega)]
              refine g_iinc C 3 [(3, .int (nI (i + 1))), (0, .ref (adr r)), (1, .int (nI q)), (2, .int w)] rfl (iinc_nI i) (by decide) rfl dX4_insert_45 ?_
              refine g_goto C 18 (by decide) dX4_insert_48 ?_
              refine g_sub [1, 2, 3, 0] rfl ?_
              have hx_27 : cell20 (r + 2) = .inl (kc 0, 40, .inl (fill (fun k => nI (insP q k)) T (i + 1))) := h_26.trans (congrArg (fun f0 : Nat → Int32 => (.inl (kc 0, 40, .inl f0) : va_E)) (show (upd (fill (fun k => nI (insP q k)) T i) i ((nI i) + 1)) = (fill (fun k => nI (insP q k)) T (i + 1)) from by exact fill_upd (by show _ = nI (insP q i); unfold insP; first | rw [if_pos (by omega)] | (rw [if_neg (by omega)]; exact nI_1 i))))
              exact ih (i + 1) _ (by omega) (by omega) h_21 h_22 hx_27 h_24 fr_25 
            · -- not taken at 34
              have c34' := i_nle c34
              refine g_iload_n C 3 rfl dX4_insert_37 ?_
              refine g_goto C 44 (by decide) dX4_insert_38 ?_
              refine g_iast C (r + 2) (by omega) g2 (vp_in_nI (by omega) (by omega)) dX4_insert_44 ?_
              refine g_cell (fun cell28 ec28 => ?_)
              have h_29 : cell28 r = .inr (4, [.ref (adr (r + 1)), .ref (adr (r + 2)), .ref (adr (r + 3)), .int (nI n)]) := by rw [ec28, va_up_ne _ _ (by omega)]; exact g0
              have h_30 : cell28 (r + 1) = .inl (kc 0, 40, .inl W) := by rw [ec28, va_up_ne _ _ (by omega)]; exact g1
              have h_31 : cell28 (r + 2) = .inl (kc 0, 40, .inl (upd (fill (fun k => nI (insP q k)) T i) (nI i).toNatClampNeg (nI i))) := by rw [ec28]; exact va_up_self _ _ _
              have h_32 : cell28 (r + 3) = .inl (kc 0, 40, .inl U) := by rw [ec28, va_up_ne _ _ (by omega)]; exact g3
              have fr_33 : ∀ j : Nat, (j < r ∨ r + 4 ≤ j) → cell28 j = cell j := fun j hj => by rw [ec28, va_up_ne _ _ (by omega)]; exact frl18 j hj
              have h_34 : cell28 (r + 2) = .inl (kc 0, 40, .inl (upd (fill (fun k => nI (insP q k)) T i) i (nI i))) := by rw [h_31, nI_clamp (by omega)]
              refine g_iinc C 3 [(3, .int (nI (i + 1))), (0, .ref (adr r)), (1, .int (nI q)), (2, .int w)] rfl (iinc_nI i) (by decide) rfl dX4_insert_45 ?_
              refine g_goto C 18 (by decide) dX4_insert_48 ?_
              refine g_sub [1, 2, 3, 0] rfl ?_
              have hx_35 : cell28 (r + 2) = .inl (kc 0, 40, .inl (fill (fun k => nI (insP q k)) T (i + 1))) := h_34.trans (congrArg (fun f0 : Nat → Int32 => (.inl (kc 0, 40, .inl f0) : va_E)) (show (upd (fill (fun k => nI (insP q k)) T i) i (nI i)) = (fill (fun k => nI (insP q k)) T (i + 1)) from by exact fill_upd (by show _ = nI (insP q i); unfold insP; first | rw [if_pos (by omega)] | (rw [if_neg (by omega)]; exact nI_1 i))))
              exact ih (i + 1) _ (by omega) (by omega) h_29 h_30 hx_35 h_32 fr_33 
      refine g_sub [1, 2, 3, 0] rfl ?_
      have hx_36 : cell (r + 2) = .inl (kc 0, 40, .inl (fill (fun k => nI (insP q k)) T 0)) := h2.trans (congrArg (fun f0 : Nat → Int32 => (.inl (kc 0, 40, .inl f0) : va_E)) (show T = (fill (fun k => nI (insP q k)) T 0) from by exact fill_0))
      exact L18 (40 + 1) 0 _ (by omega) (by omega) h0 h1 hx_36 h3 (fun _ _ => rfl) 
    · -- not taken at 12
      have c12' := bI_t c12
      exfalso; omega
set_option maxRecDepth 100000 in
set_option maxHeartbeats 4000000 in
theorem c_X4_remove (l : Launch) (D : va_G) (kc : Nat → ClassId) (N : Nat) (adr : Nat → Nat) (cell : Nat → va_E) (r : Nat) (W T U : Nat → Int32) (n : Nat) (q : Nat) (hR : RowAt cell adr kc r W T U n) (hN : r + 4 ≤ N) (hq : q < n) : MV l yX4_remove wsX4_remove ({ frames := 2, cells := 0, slots := 0, locals := 45 }) D kc N adr cell [.ref (adr r), .int (nI q)] (fun (cell1 : Nat → va_E) => ∃ W1 T1 U1 : Nat → Int32, RowAt cell1 adr kc r W1 T1 U1 (n - 1) ∧ (∀ p : Nat, p < n - 1 → W1 p = remW q W p) ∧ (∀ p : Nat, p < 40 → T1 p = remP q p) ∧ ∀ j : Nat, (j < r ∨ r + 4 ≤ j) → cell1 j = cell j) := by
  refine met_v (cc := cX4_remove) (maxL := 4) (ret := none) (by decide) rfl (Nat.le_of_ble_eq_true rfl) (lv := [(0, .ref (adr r)), (1, .int (nI q))]) rfl ?_
  intro Pg Ev Sv Mi args below Me Cd Ar C hr hlk hnm
  have in4 : ∀ w ∈ u_ws RX4 TX4 4, w ∈ wsX4_remove := by decide +kernel
  have f15 := C.2.2.2.2.1 (.fieldLink RX4 15 "WordAnchors$Row" "targets" "[I") (by decide +kernel)
  have f21 := C.2.2.2.2.1 (.fieldLink RX4 21 "WordAnchors$Row" "size" "I") (by decide +kernel)
  obtain ⟨h0, h1, h2, h3, hn⟩ := hR
  have litm1 : ((-1) : Int32).toInt = -1 := rfl
  have lit0 : (0 : Int32).toInt = 0 := rfl
  have lit1 : (1 : Int32).toInt = 1 := rfl
  have lit40 : (40 : Int32).toInt = 40 := rfl
  have tn_n : (nI n).toInt = ((n : Nat) : Int) := nI_toInt (by omega)
  have tn_q : (nI q).toInt = ((q : Nat) : Int) := nI_toInt (by omega)
  refine g_aload_n C 0 rfl dX4_remove_0 ?_
  refine g_iload_n C 1 rfl dX4_remove_1 ?_
  refine g_Vi C [.int (nI q)] r 4 (by omega) h0 rfl (c_X4_holds l D kc N adr cell r W T U n (nI q) ⟨h0, h1, h2, h3, by omega⟩ (by omega)) (cwV 1 C.2.2.2.2.1 gX4_remove_X4_holds rfl rfl rfl (by decide +kernel) ⟨Nat.le_of_ble_eq_true rfl, Nat.le_of_ble_eq_true rfl⟩) rfl rfl (Nat.le_of_ble_eq_true rfl) (Nat.zero_le _) (Nat.zero_le _) dX4_remove_2 (fun v1 cell1 q1 => ?_)
  obtain ⟨rfl, rfl⟩ := q1
  refine g_if_ne C 9 (by decide) dX4_remove_5 (fun c5 => ?_) (fun c5 => ?_)
  · -- taken at 5
    have c5' := bI_t c5
    refine g_iconst C 0 (by decide) dX4_remove_9 ?_
    refine g_istore_n C [(2, .int 0), (0, .ref (adr r)), (1, .int (nI q))] (by decide) rfl dX4_remove_10 ?_
    have L11 : ∀ (fu i : Nat) (cl : Nat → va_E) , i ≤ 40 → 40 < i + fu → (g0 : cl r = .inr (4, [.ref (adr (r + 1)), .ref (adr (r + 2)), .ref (adr (r + 3)), .int (nI n)])) → (g1 : cl (r + 1) = .inl (kc 0, 40, .inl W)) → (g2 : cl (r + 2) = .inl (kc 0, 40, .inl (fill (remP q) T i))) → (g3 : cl (r + 3) = .inl (kc 0, 40, .inl U)) → (frl11 : ∀ j : Nat, (j < r ∨ r + 4 ≤ j) → cl j = cell j) → G Pg l Ev (headSpec wsX4_remove { frames := 2, cells := 0, slots := 0, locals := 45 }).room Sv Mi args below Me Cd D N adr Ar Sv.heap 4 0 0 (MQ below (va_Qv (fun (cell1 : Nat → va_E) => ∃ W1 T1 U1 : Nat → Int32, RowAt cell1 adr kc r W1 T1 U1 (n - 1) ∧ (∀ p : Nat, p < n - 1 → W1 p = remW q W p) ∧ (∀ p : Nat, p < 40 → T1 p = remP q p) ∧ ∀ j : Nat, (j < r ∨ r + 4 ≤ j) → cell1 j = cell j) (fun (cell1 : Nat → va_E) (t : State) => va_P D vwCl (wld N adr cell1) t.heap) Ar) args Sv 0 0 Ar) cl 11 [(0, .ref (adr r)), (1, .int (nI q)), (2, .int (nI i))] ([] : List Value) := by
      intro fu
      induction fu with
      | zero => intro i cl  hle hfu; exact absurd hfu (by omega)
      | succ fu ih =>
        intro i cl  hle11 hfu11 g0 g1 g2 g3 frl11 
        have tn_i : (nI i).toInt = ((i : Nat) : Int) := nI_toInt (by omega)
        refine g_iload_n C 2 rfl dX4_remove_11 ?_
        refine g_aload_n C 0 rfl dX4_remove_12 ?_
        refine g_get C r 4 1 (by omega) g0 rfl in4 (by decide) f15 (fun _ h9 => h9) rfl dX4_remove_13 ?_
        refine g_alen C (r + 2) 0 (by omega) g2 rfl 40 rfl dX4_remove_16 ?_
        refine g_icmp_ge C 55 (by decide) dX4_remove_17 (fun c17 => ?_) (fun c17 => ?_)
        · -- taken at 17
          have c17' := i_le c17
          obtain rfl : 40 = i := by omega
          refine g_aload_n C 0 rfl dX4_remove_55 ?_
          refine g_aload_n C 0 rfl dX4_remove_56 ?_
          refine g_get C r 4 3 (by omega) g0 rfl in4 (by decide) f21 (fun _ h9 => h9) rfl dX4_remove_57 ?_
          refine g_iconst C 1 (by decide) dX4_remove_60 ?_
          refine g_isub C dX4_remove_61 ?_
          refine g_eqst (show ([.int ((nI n) - 1), .ref (adr r)] : List Value) = ([.int (nI (n - 1)), .ref (adr r)] : List Value) from by rw [show nI n - 1 = nI (n - 1) from pk_sub (b := 1) (by omega)]) ?_
          refine g_Vv C [.int (nI (n - 1))] r 4 (by omega) g0 rfl (c_X4_relocate l D kc N adr cl r W (fill (remP q) T 40) U n (n - 1) ⟨g0, g1, g2, g3, by omega⟩ (by omega) (by omega)) (cwV 1 C.2.2.2.2.1 gX4_remove_X4_relocate rfl rfl rfl (by decide +kernel) ⟨Nat.le_of_ble_eq_true rfl, Nat.le_of_ble_eq_true rfl⟩) rfl rfl (Nat.le_of_ble_eq_true rfl) (Nat.zero_le _) (Nat.zero_le _) dX4_remove_62 (fun cell3 q3 => ?_)
          obtain ⟨⟨g_4, g_5, g_6, g_7, g_8⟩, gf_9⟩ := q3
          have fr_10 : ∀ j : Nat, (j < r ∨ r + 4 ≤ j) → cell3 j = cell j := fun j hj => (gf_9 j (by omega)).trans (frl11 j hj)
          refine g_vret C hr hlk dX4_remove_65 ?_
          exact ⟨_, _, _, ⟨g_4, g_5, g_6, g_7, by omega⟩, remW_ok hq hn, fun p hp => fill_in hp, fr_10⟩
        · -- not taken at 17
          have c17' := i_nle c17
          refine g_iload_n C 2 rfl dX4_remove_20 ?_
          refine g_iload_n C 1 rfl dX4_remove_21 ?_
          refine g_icmp_ne C 29 (by decide) dX4_remove_22 (fun c22 => ?_) (fun c22 => ?_)
          · -- taken at 22
            have c22' := i_ne c22
            refine g_iload_n C 2 rfl dX4_remove_29 ?_
            refine g_iconst C 1 (by decide) dX4_remove_30 ?_
            refine g_isub C dX4_remove_31 ?_
            refine g_istore_n C [(3, .int ((nI i) - 1)), (0, .ref (adr r)), (1, .int (nI q)), (2, .int (nI i))] (by decide) rfl dX4_remove_32 ?_
            refine g_aload_n C 1 rfl dX4_remove_33 ?_
            refine g_get C r 4 1 (by omega) g0 rfl in4 (by decide) f15 (fun _ h9 => h9) rfl dX4_remove_34 ?_
            refine g_iload_n C 3 rfl dX4_remove_37 ?_
            refine g_iload_n C 3 rfl dX4_remove_38 ?_
            refine g_iload_n C 2 rfl dX4_remove_39 ?_
            refine g_icmp_ge C 47 (by decide) dX4_remove_40 (fun c40 => ?_) (fun c40 => ?_)
            · -- taken at 40
              have c40' := i_le c40
              refine g_iload_n C 0 rfl dX4_remove_47 ?_
              refine g_iast C (r + 2) (by omega) g2 (vp_in_nI (by omega) (by omega)) dX4_remove_48 ?_
              refine g_cell (fun cell11 ec11 => ?_)
              have h_12 : cell11 r = .inr (4, [.ref (adr (r + 1)), .ref (adr (r + 2)), .ref (adr (r + 3)), .int (nI n)]) := by rw [ec11, va_up_ne _ _ (by omega)]; exact g0
              have h_13 : cell11 (r + 1) = .inl (kc 0, 40, .inl W) := by rw [ec11, va_up_ne _ _ (by omega)]; exact g1
              have h_14 : cell11 (r + 2) = .inl (kc 0, 40, .inl (upd (fill (remP q) T i) (nI i).toNatClampNeg ((nI i) - 1))) := by rw [ec11]; exact va_up_self _ _ _
              have h_15 : cell11 (r + 3) = .inl (kc 0, 40, .inl U) := by rw [ec11, va_up_ne _ _ (by omega)]; exact g3
              have fr_16 : ∀ j : Nat, (j < r ∨ r + 4 ≤ j) → cell11 j = cell j := fun j hj => by rw [ec11, va_up_ne _ _ (by omega)]; exact frl11 j hj
              have h_17 : cell11 (r + 2) = .inl (kc 0, 40, .inl (upd (fill (remP q) T i) i ((nI i) - 1))) := by rw [h_14, nI_clamp (by omega)]
              refine g_iinc C 3 [(2, .int (nI (i + 1))), (3, .int ((nI i) - 1)), (0, .ref (adr r)), (1, .int (nI q))] rfl (iinc_nI i) (by decide) rfl dX4_remove_49 ?_
              refine g_goto C 11 (by decide) dX4_remove_52 ?_
              refine g_sub [2, 3, 0] rfl ?_
              have hx_18 : cell11 (r + 2) = .inl (kc 0, 40, .inl (fill (remP q) T (i + 1))) := h_17.trans (congrArg (fun f0 : Nat → Int32 => (.inl (kc 0, 40, .inl f0) : va_E)) (show (upd (fill (remP q) T i) i ((nI i) - 1)) = (fill (remP q) T (i + 1)) from by exact fill_upd (by first | exact remP_lo (by omega) | exact remP_eq (by omega) | exact remP_hi (by omega) (by omega))))
              exact ih (i + 1) _ (by omega) (by omega) h_12 h_13 hx_18 h_15 fr_16 
            · -- not taken at 40
              have c40' := i_nle c40
              
              refine g_iload_n C 3 rfl dX4_remove_43 ?_
              refine g_goto C 48 (by decide) dX4_remove_44 ?_
              refine g_iast C (r + 2) (by omega) g2 (vp_in_nI (by omega) (by omega)) dX4_remove_48 ?_
              refine g_cell (fun cell19 ec19 => ?_)
              have h_20 : cell19 r = .inr (4, [.ref (adr (r + 1)), .ref (adr (r + 2)), .ref (adr (r + 3)), .int (nI n)]) := by rw [ec19, va_up_ne _ _ (by omega)]; exact g0
              have h_21 : cell19 (r + 1) = .inl (kc 0, 40, .inl W) := by rw [ec19, va_up_ne _ _ (by omega)]; exact g1
              have h_22 : cell19 (r + 2) = .inl (kc 0, 40, .inl (upd (fill (remP q) T i) (nI i).toNatClampNeg (nI i))) := by rw [ec19]; exact va_up_self _ _ _
              have h_23 : cell19 (r + 3) = .inl (kc 0, 40, .inl U) := by rw [ec19, va_up_ne _ _ (by omega)]; exact g3
              have fr_24 : ∀ j : Nat, (j < r ∨ r + 4 ≤ j) → cell19 j = cell j := fun j hj => by rw [ec19, va_up_ne _ _ (by omega)]; exact frl11 j hj
              have h_25 : cell19 (r + 2) = .inl (kc 0, 40, .inl (upd (fill (remP q) T i) i (nI i))) := by rw [h_22, nI_clamp (by omega)]
              refine g_iinc C 3 [(2, .int (nI (i + 1))), (3, .int ((nI i) - 1)), (0, .ref (adr r)), (1, .int (nI q))] rfl (iinc_nI i) (by decide) rfl dX4_remove_49 ?_
              refine g_goto C 11 (by decide) dX4_remove_52 ?_
              refine g_sub [2, 3, 0] rfl ?_
              have hx_26 : cell19 (r + 2) = .inl (kc 0, 40, .inl (fill (remP q) T (i + 1))) := h_25.trans (congrArg (fun f0 : Nat → Int32 => (.inl (kc 0, 40, .inl f0) : va_E)) (show (upd (fill (remP q) T i) i (nI i)) = (fill (remP q) T (i + 1)) from by exact fill_upd (by first | exact remP_lo (by omega) | exact remP_eq (by omega) | exact remP_hi (by omega) (by omega))))
              exact ih (i + 1) _ (by omega) (by omega) h_20 h_21 hx_26 h_23 fr_24 
          · -- not taken at 22
            have c22' := i_eq c22
            refine g_iconst C (-1) (by decide) dX4_remove_25 ?_
            refine g_goto C 32 (by decide) dX4_remove_26 ?_
            refine g_istore_n C [(3, .int (-1)), (0, .ref (adr r)), (1, .int (nI q)), (2, .int (nI i))] (by decide) rfl dX4_remove_32 ?_
            refine g_aload_n C 1 rfl dX4_remove_33 ?_
            refine g_get C r 4 1 (by omega) g0 rfl in4 (by decide) f15 (fun _ h9 => h9) rfl dX4_remove_34 ?_
            refine g_iload_n C 3 rfl dX4_remove_37 ?_
            refine g_iload_n C 3 rfl dX4_remove_38 ?_
            refine g_iload_n C 2 rfl dX4_remove_39 ?_
            refine g_icmp_ge C 47 (by decide) dX4_remove_40 (fun c40 => ?_) (fun c40 => ?_)
            · -- taken at 40
              have c40' := i_le c40
              refine g_iload_n C 0 rfl dX4_remove_47 ?_
              refine g_iast C (r + 2) (by omega) g2 (vp_in_nI (by omega) (by omega)) dX4_remove_48 ?_
              refine g_cell (fun cell27 ec27 => ?_)
              have h_28 : cell27 r = .inr (4, [.ref (adr (r + 1)), .ref (adr (r + 2)), .ref (adr (r + 3)), .int (nI n)]) := by rw [ec27, va_up_ne _ _ (by omega)]; exact g0
              have h_29 : cell27 (r + 1) = .inl (kc 0, 40, .inl W) := by rw [ec27, va_up_ne _ _ (by omega)]; exact g1
              have h_30 : cell27 (r + 2) = .inl (kc 0, 40, .inl (upd (fill (remP q) T i) (nI i).toNatClampNeg (-1))) := by rw [ec27]; exact va_up_self _ _ _
              have h_31 : cell27 (r + 3) = .inl (kc 0, 40, .inl U) := by rw [ec27, va_up_ne _ _ (by omega)]; exact g3
              have fr_32 : ∀ j : Nat, (j < r ∨ r + 4 ≤ j) → cell27 j = cell j := fun j hj => by rw [ec27, va_up_ne _ _ (by omega)]; exact frl11 j hj
              have h_33 : cell27 (r + 2) = .inl (kc 0, 40, .inl (upd (fill (remP q) T i) i (-1))) := by rw [h_30, nI_clamp (by omega)]
              refine g_iinc C 3 [(2, .int (nI (i + 1))), (3, .int (-1)), (0, .ref (adr r)), (1, .int (nI q))] rfl (iinc_nI i) (by decide) rfl dX4_remove_49 ?_
              refine g_goto C 11 (by decide) dX4_remove_52 ?_
              refine g_sub [2, 3, 0] rfl ?_
              have hx_34 : cell27 (r + 2) = .inl (kc 0, 40, .inl (fill (remP q) T (i + 1))) := h_33.trans (congrArg (fun f0 : Nat → Int32 => (.inl (kc 0, 40, .inl f0) : va_E)) (show (upd (fill (remP q) T i) i (-1)) = (fill (remP q) T (i + 1)) from by exact fill_upd (by first | exact remP_lo (by omega) | exact remP_eq (by omega) | exact remP_hi (by omega) (by omega))))
              exact ih (i + 1) _ (by omega) (by omega) h_28 h_29 hx_34 h_31 fr_32 
            · -- not taken at 40
              have c40' := i_nle c40
              exfalso; omega --done
    refine g_sub [1, 2, 0] rfl ?_
    have hx_35 : cell (r + 2) = .inl (kc 0, 40, .inl (fill (remP q) T 0)) := h2.trans (congrArg (fun f0 : Nat → Int32 => (.inl (kc 0, 40, .inl f0) : va_E)) (show T = (fill (remP q) T 0) from by exact fill_0))
    exact L11 (40 + 1) 0 _ (by omega) (by omega) h0 h1 hx_35 h3 (fun _ _ => rfl) 
  · -- not taken at 5
    have c5' := bI_f c5
    exfalso; omega
set_option maxRecDepth 100000 in
set_option maxHeartbeats 4000000 in
theorem c_X4_replace (l : Launch) (D : va_G) (kc : Nat → ClassId) (N : Nat) (adr : Nat → Nat) (cell : Nat → va_E) (r : Nat) (W T U : Nat → Int32) (n : Nat) (q : Nat) (w : Int32) (hR : RowAt cell adr kc r W T U n) (hN : r + 4 ≤ N) (hq : q < n) : MV l yX4_replace wsX4_replace ({ frames := 1, cells := 0, slots := 0, locals := 22 }) D kc N adr cell [.ref (adr r), .int (nI q), .int w] (fun (cell1 : Nat → va_E) => ∃ W1 T1 U1 : Nat → Int32, RowAt cell1 adr kc r W1 T1 U1 (n) ∧ (∀ p : Nat, p < n → W1 p = upd W q w p) ∧ (∀ p : Nat, p < 40 → T1 p = (if p = q then -1 else nI p)) ∧ ∀ j : Nat, (j < r ∨ r + 4 ≤ j) → cell1 j = cell j) := by
  refine met_v (cc := cX4_replace) (maxL := 4) (ret := none) (by decide) rfl (Nat.le_of_ble_eq_true rfl) (lv := [(0, .ref (adr r)), (1, .int (nI q)), (2, .int w)]) rfl ?_
  intro Pg Ev Sv Mi args below Me Cd Ar C hr hlk hnm
  have in4 : ∀ w ∈ u_ws RX4 TX4 4, w ∈ wsX4_replace := by decide +kernel
  have f15 := C.2.2.2.2.1 (.fieldLink RX4 15 "WordAnchors$Row" "targets" "[I") (by decide +kernel)
  obtain ⟨h0, h1, h2, h3, hn⟩ := hR
  have litm1 : ((-1) : Int32).toInt = -1 := rfl
  have lit0 : (0 : Int32).toInt = 0 := rfl
  have lit1 : (1 : Int32).toInt = 1 := rfl
  have lit40 : (40 : Int32).toInt = 40 := rfl
  have tn_n : (nI n).toInt = ((n : Nat) : Int) := nI_toInt (by omega)
  have tn_q : (nI q).toInt = ((q : Nat) : Int) := nI_toInt (by omega)
  refine g_aload_n C 0 rfl dX4_replace_0 ?_
  refine g_iload_n C 1 rfl dX4_replace_1 ?_
  refine g_Vi C [.int (nI q)] r 4 (by omega) h0 rfl (c_X4_holds l D kc N adr cell r W T U n (nI q) ⟨h0, h1, h2, h3, by omega⟩ (by omega)) (cwV 1 C.2.2.2.2.1 gX4_replace_X4_holds rfl rfl rfl (by decide +kernel) ⟨Nat.le_of_ble_eq_true rfl, Nat.le_of_ble_eq_true rfl⟩) rfl rfl (Nat.le_of_ble_eq_true rfl) (Nat.zero_le _) (Nat.zero_le _) dX4_replace_2 (fun v1 cell1 q1 => ?_)
  obtain ⟨rfl, rfl⟩ := q1
  refine g_if_ne C 9 (by decide) dX4_replace_5 (fun c5 => ?_) (fun c5 => ?_)
  · -- taken at 5
    have c5' := bI_t c5
    refine g_iconst C 0 (by decide) dX4_replace_9 ?_
    refine g_istore_n C [(3, .int 0), (0, .ref (adr r)), (1, .int (nI q)), (2, .int w)] (by decide) rfl dX4_replace_10 ?_
    have L11 : ∀ (fu i : Nat) (cl : Nat → va_E) , i ≤ 40 → 40 < i + fu → (g0 : cl r = .inr (4, [.ref (adr (r + 1)), .ref (adr (r + 2)), .ref (adr (r + 3)), .int (nI n)])) → (g1 : cl (r + 1) = .inl (kc 0, 40, .inl W)) → (g2 : cl (r + 2) = .inl (kc 0, 40, .inl (fill (fun k => if k = q then (-1) else nI k) T i))) → (g3 : cl (r + 3) = .inl (kc 0, 40, .inl U)) → (frl11 : ∀ j : Nat, (j < r ∨ r + 4 ≤ j) → cl j = cell j) → G Pg l Ev (headSpec wsX4_replace { frames := 1, cells := 0, slots := 0, locals := 22 }).room Sv Mi args below Me Cd D N adr Ar Sv.heap 4 0 0 (MQ below (va_Qv (fun (cell1 : Nat → va_E) => ∃ W1 T1 U1 : Nat → Int32, RowAt cell1 adr kc r W1 T1 U1 (n) ∧ (∀ p : Nat, p < n → W1 p = upd W q w p) ∧ (∀ p : Nat, p < 40 → T1 p = (if p = q then -1 else nI p)) ∧ ∀ j : Nat, (j < r ∨ r + 4 ≤ j) → cell1 j = cell j) (fun (cell1 : Nat → va_E) (t : State) => va_P D vwCl (wld N adr cell1) t.heap) Ar) args Sv 0 0 Ar) cl 11 [(0, .ref (adr r)), (1, .int (nI q)), (2, .int w), (3, .int (nI i))] ([] : List Value) := by
      intro fu
      induction fu with
      | zero => intro i cl  hle hfu; exact absurd hfu (by omega)
      | succ fu ih =>
        intro i cl  hle11 hfu11 g0 g1 g2 g3 frl11 
        have tn_i : (nI i).toInt = ((i : Nat) : Int) := nI_toInt (by omega)
        refine g_iload_n C 3 rfl dX4_replace_11 ?_
        refine g_aload_n C 0 rfl dX4_replace_12 ?_
        refine g_get C r 4 1 (by omega) g0 rfl in4 (by decide) f15 (fun _ h9 => h9) rfl dX4_replace_13 ?_
        refine g_alen C (r + 2) 0 (by omega) g2 rfl 40 rfl dX4_replace_16 ?_
        refine g_icmp_ge C 42 (by decide) dX4_replace_17 (fun c17 => ?_) (fun c17 => ?_)
        · -- taken at 17
          have c17' := i_le c17
          obtain rfl : 40 = i := by omega
          refine g_aload_n C 0 rfl dX4_replace_42 ?_
          refine g_iload_n C 1 rfl dX4_replace_43 ?_
          refine g_iload_n C 2 rfl dX4_replace_44 ?_
          refine g_Vv C [.int (nI q), .int w] r 4 (by omega) g0 rfl (c_X4_write l D kc N adr cl r W (fill (fun k => if k = q then (-1) else nI k) T 40) U n q w ⟨g0, g1, g2, g3, by omega⟩ (by omega) (by omega)) (cwV 2 C.2.2.2.2.1 gX4_replace_X4_write rfl rfl rfl (by decide +kernel) ⟨Nat.le_of_ble_eq_true rfl, Nat.le_of_ble_eq_true rfl⟩) rfl rfl (Nat.le_of_ble_eq_true rfl) (Nat.zero_le _) (Nat.zero_le _) dX4_replace_45 (fun cell2 q2 => ?_)
          obtain ⟨⟨g_3, g_4, g_5, g_6, g_7⟩, gf_8⟩ := q2
          have fr_9 : ∀ j : Nat, (j < r ∨ r + 4 ≤ j) → cell2 j = cell j := fun j hj => (gf_8 j (by omega)).trans (frl11 j hj)
          refine g_vret C hr hlk dX4_replace_48 ?_
          exact ⟨_, _, _, ⟨g_3, g_4, g_5, g_6, by omega⟩, fun p _ => rfl, fun p hp => fill_in hp, fr_9⟩
        · -- not taken at 17
          have c17' := i_nle c17
          refine g_aload_n C 0 rfl dX4_replace_20 ?_
          refine g_get C r 4 1 (by omega) g0 rfl in4 (by decide) f15 (fun _ h9 => h9) rfl dX4_replace_21 ?_
          refine g_iload_n C 3 rfl dX4_replace_24 ?_
          refine g_iload_n C 3 rfl dX4_replace_25 ?_
          refine g_iload_n C 1 rfl dX4_replace_26 ?_
          refine g_icmp_ne C 34 (by decide) dX4_replace_27 (fun c27 => ?_) (fun c27 => ?_)
          · -- taken at 27
            have c27' := i_ne c27
            refine g_iload_n C 3 rfl dX4_replace_34 ?_
            refine g_iast C (r + 2) (by omega) g2 (vp_in_nI (by omega) (by omega)) dX4_replace_35 ?_
            refine g_cell (fun cell10 ec10 => ?_)
            have h_11 : cell10 r = .inr (4, [.ref (adr (r + 1)), .ref (adr (r + 2)), .ref (adr (r + 3)), .int (nI n)]) := by rw [ec10, va_up_ne _ _ (by omega)]; exact g0
            have h_12 : cell10 (r + 1) = .inl (kc 0, 40, .inl W) := by rw [ec10, va_up_ne _ _ (by omega)]; exact g1
            have h_13 : cell10 (r + 2) = .inl (kc 0, 40, .inl (upd (fill (fun k => if k = q then (-1) else nI k) T i) (nI i).toNatClampNeg (nI i))) := by rw [ec10]; exact va_up_self _ _ _
            have h_14 : cell10 (r + 3) = .inl (kc 0, 40, .inl U) := by rw [ec10, va_up_ne _ _ (by omega)]; exact g3
            have fr_15 : ∀ j : Nat, (j < r ∨ r + 4 ≤ j) → cell10 j = cell j := fun j hj => by rw [ec10, va_up_ne _ _ (by omega)]; exact frl11 j hj
            have h_16 : cell10 (r + 2) = .inl (kc 0, 40, .inl (upd (fill (fun k => if k = q then (-1) else nI k) T i) i (nI i))) := by rw [h_13, nI_clamp (by omega)]
            refine g_iinc C 3 [(3, .int (nI (i + 1))), (0, .ref (adr r)), (1, .int (nI q)), (2, .int w)] rfl (iinc_nI i) (by decide) rfl dX4_replace_36 ?_
            refine g_goto C 11 (by decide) dX4_replace_39 ?_
            refine g_sub [1, 2, 3, 0] rfl ?_
            have hx_17 : cell10 (r + 2) = .inl (kc 0, 40, .inl (fill (fun k => if k = q then (-1) else nI k) T (i + 1))) := h_16.trans (congrArg (fun f0 : Nat → Int32 => (.inl (kc 0, 40, .inl f0) : va_E)) (show (upd (fill (fun k => if k = q then (-1) else nI k) T i) i (nI i)) = (fill (fun k => if k = q then (-1) else nI k) T (i + 1)) from by exact fill_upd (by first | exact (if_pos (by omega)).symm | exact (if_neg (by omega)).symm)))
            exact ih (i + 1) _ (by omega) (by omega) h_11 h_12 hx_17 h_14 fr_15 
          · -- not taken at 27
            have c27' := i_eq c27
            refine g_iconst C (-1) (by decide) dX4_replace_30 ?_
            refine g_goto C 35 (by decide) dX4_replace_31 ?_
            refine g_iast C (r + 2) (by omega) g2 (vp_in_nI (by omega) (by omega)) dX4_replace_35 ?_
            refine g_cell (fun cell18 ec18 => ?_)
            have h_19 : cell18 r = .inr (4, [.ref (adr (r + 1)), .ref (adr (r + 2)), .ref (adr (r + 3)), .int (nI n)]) := by rw [ec18, va_up_ne _ _ (by omega)]; exact g0
            have h_20 : cell18 (r + 1) = .inl (kc 0, 40, .inl W) := by rw [ec18, va_up_ne _ _ (by omega)]; exact g1
            have h_21 : cell18 (r + 2) = .inl (kc 0, 40, .inl (upd (fill (fun k => if k = q then (-1) else nI k) T i) (nI i).toNatClampNeg (-1))) := by rw [ec18]; exact va_up_self _ _ _
            have h_22 : cell18 (r + 3) = .inl (kc 0, 40, .inl U) := by rw [ec18, va_up_ne _ _ (by omega)]; exact g3
            have fr_23 : ∀ j : Nat, (j < r ∨ r + 4 ≤ j) → cell18 j = cell j := fun j hj => by rw [ec18, va_up_ne _ _ (by omega)]; exact frl11 j hj
            have h_24 : cell18 (r + 2) = .inl (kc 0, 40, .inl (upd (fill (fun k => if k = q then (-1) else nI k) T i) i (-1))) := by rw [h_21, nI_clamp (by omega)]
            refine g_iinc C 3 [(3, .int (nI (i + 1))), (0, .ref (adr r)), (1, .int (nI q)), (2, .int w)] rfl (iinc_nI i) (by decide) rfl dX4_replace_36 ?_
            refine g_goto C 11 (by decide) dX4_replace_39 ?_
            refine g_sub [1, 2, 3, 0] rfl ?_
            have hx_25 : cell18 (r + 2) = .inl (kc 0, 40, .inl (fill (fun k => if k = q then (-1) else nI k) T (i + 1))) := h_24.trans (congrArg (fun f0 : Nat → Int32 => (.inl (kc 0, 40, .inl f0) : va_E)) (show (upd (fill (fun k => if k = q then (-1) else nI k) T i) i (-1)) = (fill (fun k => if k = q then (-1) else nI k) T (i + 1)) from by exact fill_upd (by first | exact (if_pos (by omega)).symm | exact (if_neg (by omega)).symm)))
            exact ih (i + 1) _ (by omega) (by omega) h_19 h_20 hx_25 h_22 fr_23 
    refine g_sub [1, 2, 3, 0] rfl ?_
    have hx_26 : cell (r + 2) = .inl (kc 0, 40, .inl (fill (fun k => if k = q then (-1) else nI k) T 0)) := h2.trans (congrArg (fun f0 : Nat → Int32 => (.inl (kc 0, 40, .inl f0) : va_E)) (show T = (fill (fun k => if k = q then (-1) else nI k) T 0) from by exact fill_0))
    exact L11 (40 + 1) 0 _ (by omega) (by omega) h0 h1 hx_26 h3 (fun _ _ => rfl) 
  · -- not taken at 5
    have c5' := bI_f c5
    exfalso; omega
set_option maxRecDepth 100000 in
set_option maxHeartbeats 4000000 in
theorem c_X4_shift (l : Launch) (D : va_G) (kc : Nat → ClassId) (N : Nat) (adr : Nat → Nat) (cell : Nat → va_E) (r : Nat) (W T U : Nat → Int32) (n : Nat) (f k t : Nat) (hR : RowAt cell adr kc r W T U n) (hN : r + 4 ≤ N) (hq : f < n ∧ 1 ≤ k ∧ f + k ≤ n ∧ t + k ≤ n) : MV l yX4_shift wsX4_shift ({ frames := 2, cells := 0, slots := 0, locals := 45 }) D kc N adr cell [.ref (adr r), .int (nI f), .int (nI k), .int (nI t)] (fun (cell1 : Nat → va_E) => ∃ W1 T1 U1 : Nat → Int32, RowAt cell1 adr kc r W1 T1 U1 (n) ∧ (∀ p : Nat, p < n → W1 p = W (pasF t k f p)) ∧ (∀ p : Nat, p < 40 → T1 p = nI (pasF f k t p)) ∧ ∀ j : Nat, (j < r ∨ r + 4 ≤ j) → cell1 j = cell j) := by
  refine met_v (cc := cX4_shift) (maxL := 5) (ret := none) (by decide) rfl (Nat.le_of_ble_eq_true rfl) (lv := [(0, .ref (adr r)), (1, .int (nI f)), (2, .int (nI k)), (3, .int (nI t))]) rfl ?_
  intro Pg Ev Sv Mi args below Me Cd Ar C hr hlk hnm
  have in4 : ∀ w ∈ u_ws RX4 TX4 4, w ∈ wsX4_shift := by decide +kernel
  have f15 := C.2.2.2.2.1 (.fieldLink RX4 15 "WordAnchors$Row" "targets" "[I") (by decide +kernel)
  have f21 := C.2.2.2.2.1 (.fieldLink RX4 21 "WordAnchors$Row" "size" "I") (by decide +kernel)
  obtain ⟨h0, h1, h2, h3, hn⟩ := hR
  have litm1 : ((-1) : Int32).toInt = -1 := rfl
  have lit0 : (0 : Int32).toInt = 0 := rfl
  have lit1 : (1 : Int32).toInt = 1 := rfl
  have lit40 : (40 : Int32).toInt = 40 := rfl
  have tn_n : (nI n).toInt = ((n : Nat) : Int) := nI_toInt (by omega)
  have tn_f : (nI f).toInt = ((f : Nat) : Int) := nI_toInt (by omega)
  have tn_k : (nI k).toInt = ((k : Nat) : Int) := nI_toInt (by omega)
  have tn_t : (nI t).toInt = ((t : Nat) : Int) := nI_toInt (by omega)
  refine g_aload_n C 0 rfl dX4_shift_0 ?_
  refine g_iload_n C 1 rfl dX4_shift_1 ?_
  refine g_iload_n C 2 rfl dX4_shift_2 ?_
  refine g_iload_n C 3 rfl dX4_shift_3 ?_
  refine g_Vi C [.int (nI f), .int (nI k), .int (nI t)] r 4 (by omega) h0 rfl (c_X4_canShift l D kc N adr cell r W T U n (nI f) (nI k) (nI t) ⟨h0, h1, h2, h3, by omega⟩ (by omega)) (cwV 3 C.2.2.2.2.1 gX4_shift_X4_canShift rfl rfl rfl (by decide +kernel) ⟨Nat.le_of_ble_eq_true rfl, Nat.le_of_ble_eq_true rfl⟩) rfl rfl (Nat.le_of_ble_eq_true rfl) (Nat.zero_le _) (Nat.zero_le _) dX4_shift_4 (fun v1 cell1 q1 => ?_)
  obtain ⟨rfl, rfl⟩ := q1
  refine g_if_ne C 11 (by decide) dX4_shift_7 (fun c7 => ?_) (fun c7 => ?_)
  · -- taken at 7
    have c7' := bI_t c7
    refine g_iconst C 0 (by decide) dX4_shift_11 ?_
    refine g_istore C [(4, .int 0), (0, .ref (adr r)), (1, .int (nI f)), (2, .int (nI k)), (3, .int (nI t))] (by decide) rfl dX4_shift_12 ?_
    have L14 : ∀ (fu i : Nat) (cl : Nat → va_E) , i ≤ 40 → 40 < i + fu → (g0 : cl r = .inr (4, [.ref (adr (r + 1)), .ref (adr (r + 2)), .ref (adr (r + 3)), .int (nI n)])) → (g1 : cl (r + 1) = .inl (kc 0, 40, .inl W)) → (g2 : cl (r + 2) = .inl (kc 0, 40, .inl (fill (fun q => nI (pasF f k t q)) T i))) → (g3 : cl (r + 3) = .inl (kc 0, 40, .inl U)) → (frl14 : ∀ j : Nat, (j < r ∨ r + 4 ≤ j) → cl j = cell j) → G Pg l Ev (headSpec wsX4_shift { frames := 2, cells := 0, slots := 0, locals := 45 }).room Sv Mi args below Me Cd D N adr Ar Sv.heap 5 0 0 (MQ below (va_Qv (fun (cell1 : Nat → va_E) => ∃ W1 T1 U1 : Nat → Int32, RowAt cell1 adr kc r W1 T1 U1 (n) ∧ (∀ p : Nat, p < n → W1 p = W (pasF t k f p)) ∧ (∀ p : Nat, p < 40 → T1 p = nI (pasF f k t p)) ∧ ∀ j : Nat, (j < r ∨ r + 4 ≤ j) → cell1 j = cell j) (fun (cell1 : Nat → va_E) (t : State) => va_P D vwCl (wld N adr cell1) t.heap) Ar) args Sv 0 0 Ar) cl 14 [(0, .ref (adr r)), (1, .int (nI f)), (2, .int (nI k)), (3, .int (nI t)), (4, .int (nI i))] ([] : List Value) := by
      intro fu
      induction fu with
      | zero => intro i cl  hle hfu; exact absurd hfu (by omega)
      | succ fu ih =>
        intro i cl  hle14 hfu14 g0 g1 g2 g3 frl14 
        have tn_i : (nI i).toInt = ((i : Nat) : Int) := nI_toInt (by omega)
        refine g_iload C 4 rfl dX4_shift_14 ?_
        refine g_aload_n C 0 rfl dX4_shift_16 ?_
        refine g_get C r 4 1 (by omega) g0 rfl in4 (by decide) f15 (fun _ h9 => h9) rfl dX4_shift_17 ?_
        refine g_alen C (r + 2) 0 (by omega) g2 rfl 40 rfl dX4_shift_20 ?_
        refine g_icmp_ge C 45 (by decide) dX4_shift_21 (fun c21 => ?_) (fun c21 => ?_)
        · -- taken at 21
          have c21' := i_le c21
          obtain rfl : 40 = i := by omega
          refine g_aload_n C 0 rfl dX4_shift_45 ?_
          refine g_aload_n C 0 rfl dX4_shift_46 ?_
          refine g_get C r 4 3 (by omega) g0 rfl in4 (by decide) f21 (fun _ h9 => h9) rfl dX4_shift_47 ?_
          refine g_Vv C [.int (nI n)] r 4 (by omega) g0 rfl (c_X4_relocate l D kc N adr cl r W (fill (fun q => nI (pasF f k t q)) T 40) U n n ⟨g0, g1, g2, g3, by omega⟩ (by omega) (by omega)) (cwV 1 C.2.2.2.2.1 gX4_shift_X4_relocate rfl rfl rfl (by decide +kernel) ⟨Nat.le_of_ble_eq_true rfl, Nat.le_of_ble_eq_true rfl⟩) rfl rfl (Nat.le_of_ble_eq_true rfl) (Nat.zero_le _) (Nat.zero_le _) dX4_shift_50 (fun cell2 q2 => ?_)
          obtain ⟨⟨g_3, g_4, g_5, g_6, g_7⟩, gf_8⟩ := q2
          have fr_9 : ∀ j : Nat, (j < r ∨ r + 4 ≤ j) → cell2 j = cell j := fun j hj => (gf_8 j (by omega)).trans (frl14 j hj)
          refine g_vret C hr hlk dX4_shift_53 ?_
          exact ⟨_, _, _, ⟨g_3, g_4, g_5, g_6, by omega⟩, pas_ok hq.2.2.1 hq.2.2.2 hn, fun p hp => fill_in hp, fr_9⟩
        · -- not taken at 21
          have c21' := i_nle c21
          refine g_aload_n C 0 rfl dX4_shift_24 ?_
          refine g_get C r 4 1 (by omega) g0 rfl in4 (by decide) f15 (fun _ h9 => h9) rfl dX4_shift_25 ?_
          refine g_iload C 4 rfl dX4_shift_28 ?_
          refine g_iload C 4 rfl dX4_shift_30 ?_
          refine g_iload_n C 1 rfl dX4_shift_32 ?_
          refine g_iload_n C 2 rfl dX4_shift_33 ?_
          refine g_iload_n C 3 rfl dX4_shift_34 ?_
          refine g_Si C [.int (nI i), .int (nI f), .int (nI k), .int (nI t)] (c_X4_placeAfterShift l D kc N adr cl f k t i (by omega)) (va_cwS 4 C.2.2.2.2.1 gX4_shift_X4_placeAfterShift rfl rfl rfl (by decide +kernel) ⟨Nat.le_of_ble_eq_true rfl, Nat.le_of_ble_eq_true rfl⟩) rfl rfl (Nat.le_of_ble_eq_true rfl) (Nat.zero_le _) (Nat.zero_le _) dX4_shift_35 (fun v10 cell10 q10 => ?_)
          obtain ⟨rfl, rfl⟩ := q10
          refine g_iast C (r + 2) (by omega) g2 (vp_in_nI (by omega) (by omega)) dX4_shift_38 ?_
          refine g_cell (fun cell11 ec11 => ?_)
          have h_12 : cell11 r = .inr (4, [.ref (adr (r + 1)), .ref (adr (r + 2)), .ref (adr (r + 3)), .int (nI n)]) := by rw [ec11, va_up_ne _ _ (by omega)]; exact g0
          have h_13 : cell11 (r + 1) = .inl (kc 0, 40, .inl W) := by rw [ec11, va_up_ne _ _ (by omega)]; exact g1
          have h_14 : cell11 (r + 2) = .inl (kc 0, 40, .inl (upd (fill (fun q => nI (pasF f k t q)) T i) (nI i).toNatClampNeg (nI (pasF f k t i)))) := by rw [ec11]; exact va_up_self _ _ _
          have h_15 : cell11 (r + 3) = .inl (kc 0, 40, .inl U) := by rw [ec11, va_up_ne _ _ (by omega)]; exact g3
          have fr_16 : ∀ j : Nat, (j < r ∨ r + 4 ≤ j) → cell11 j = cell j := fun j hj => by rw [ec11, va_up_ne _ _ (by omega)]; exact frl14 j hj
          have h_17 : cell11 (r + 2) = .inl (kc 0, 40, .inl (upd (fill (fun q => nI (pasF f k t q)) T i) i (nI (pasF f k t i)))) := by rw [h_14, nI_clamp (by omega)]
          refine g_iinc C 4 [(4, .int (nI (i + 1))), (0, .ref (adr r)), (1, .int (nI f)), (2, .int (nI k)), (3, .int (nI t))] rfl (iinc_nI i) (by decide) rfl dX4_shift_39 ?_
          refine g_goto C 14 (by decide) dX4_shift_42 ?_
          refine g_sub [1, 2, 3, 4, 0] rfl ?_
          have hx_18 : cell11 (r + 2) = .inl (kc 0, 40, .inl (fill (fun q => nI (pasF f k t q)) T (i + 1))) := h_17.trans (congrArg (fun f0 : Nat → Int32 => (.inl (kc 0, 40, .inl f0) : va_E)) (show (upd (fill (fun q => nI (pasF f k t q)) T i) i (nI (pasF f k t i))) = (fill (fun q => nI (pasF f k t q)) T (i + 1)) from by exact fill_upd rfl))
          exact ih (i + 1) _ (by omega) (by omega) h_12 h_13 hx_18 h_15 fr_16 
    refine g_sub [1, 2, 3, 4, 0] rfl ?_
    have hx_19 : cell (r + 2) = .inl (kc 0, 40, .inl (fill (fun q => nI (pasF f k t q)) T 0)) := h2.trans (congrArg (fun f0 : Nat → Int32 => (.inl (kc 0, 40, .inl f0) : va_E)) (show T = (fill (fun q => nI (pasF f k t q)) T 0) from by exact fill_0))
    exact L14 (40 + 1) 0 _ (by omega) (by omega) h0 h1 hx_19 h3 (fun _ _ => rfl) 
  · -- not taken at 7
    have c7' := bI_f c7
    exfalso; omega
set_option maxRecDepth 100000 in
set_option maxHeartbeats 4000000 in
theorem c_X4_wordsElsewhere (l : Launch) (D : va_G) (kc : Nat → ClassId) (N : Nat) (adr : Nat → Nat) (cell : Nat → va_E) (r : Nat) (W T U : Nat → Int32) (n : Nat)  (hR : RowAt cell adr kc r W T U n) (hN : r + 4 ≤ N) : MI l yX4_wordsElsewhere wsX4_wordsElsewhere ({ frames := 1, cells := 0, slots := 0, locals := 21 }) D kc N adr cell [.ref (adr r)] (fun (v : Int32) (cell1 : Nat → va_E) => nI (cnt (fun p => decide (T p ≠ nI p)) n) = v ∧ cell = cell1) := by
  refine met_i (cc := cX4_wordsElsewhere) (maxL := 3) (ret := (some .int)) (by decide) rfl (Nat.le_of_ble_eq_true rfl) (lv := [(0, .ref (adr r))]) rfl ?_
  intro Pg Ev Sv Mi args below Me Cd Ar C hr hlk hnm
  have in4 : ∀ w ∈ u_ws RX4 TX4 4, w ∈ wsX4_wordsElsewhere := by decide +kernel
  have f21 := C.2.2.2.2.1 (.fieldLink RX4 21 "WordAnchors$Row" "size" "I") (by decide +kernel)
  obtain ⟨h0, h1, h2, h3, hn⟩ := hR
  have litm1 : ((-1) : Int32).toInt = -1 := rfl
  have lit0 : (0 : Int32).toInt = 0 := rfl
  have lit1 : (1 : Int32).toInt = 1 := rfl
  have tn_n : (nI n).toInt = ((n : Nat) : Int) := nI_toInt (by omega)
  refine g_iconst C 0 (by decide) dX4_wordsElsewhere_0 ?_
  refine g_istore_n C [(1, .int 0), (0, .ref (adr r))] (by decide) rfl dX4_wordsElsewhere_1 ?_
  refine g_iconst C 0 (by decide) dX4_wordsElsewhere_2 ?_
  refine g_istore_n C [(2, .int 0), (1, .int 0), (0, .ref (adr r))] (by decide) rfl dX4_wordsElsewhere_3 ?_
  have L4 : ∀ (fu i : Nat) , i ≤ n → n < i + fu → G Pg l Ev (headSpec wsX4_wordsElsewhere { frames := 1, cells := 0, slots := 0, locals := 21 }).room Sv Mi args below Me Cd D N adr Ar Sv.heap 3 0 0 (MQ below (va_Qi (fun (v : Int32) (cell1 : Nat → va_E) => nI (cnt (fun p => decide (T p ≠ nI p)) n) = v ∧ cell = cell1) (fun (cell1 : Nat → va_E) (t : State) => va_P D vwCl (wld N adr cell1) t.heap) Ar) args Sv 0 0 Ar) cell 4 [(0, .ref (adr r)), (1, .int (nI (cnt (fun p => decide (T p ≠ nI p)) i))), (2, .int (nI i))] ([] : List Value) := by
    intro fu
    induction fu with
    | zero => intro i  hle hfu; exact absurd hfu (by omega)
    | succ fu ih =>
      intro i  hle4 hfu4  
      have tn_i : (nI i).toInt = ((i : Nat) : Int) := nI_toInt (by omega)
      refine g_iload_n C 2 rfl dX4_wordsElsewhere_4 ?_
      refine g_aload_n C 0 rfl dX4_wordsElsewhere_5 ?_
      refine g_get C r 4 3 (by omega) h0 rfl in4 (by decide) f21 (fun _ h9 => h9) rfl dX4_wordsElsewhere_6 ?_
      refine g_icmp_ge C 30 (by decide) dX4_wordsElsewhere_9 (fun c9 => ?_) (fun c9 => ?_)
      · -- taken at 9
        have c9' := i_le c9
        obtain rfl : n = i := by omega
        refine g_iload_n C 1 rfl dX4_wordsElsewhere_30 ?_
        refine g_iret C hr rfl hlk dX4_wordsElsewhere_31 ?_
        exact ⟨rfl, rfl⟩
      · -- not taken at 9
        have c9' := i_nle c9
        refine g_aload_n C 0 rfl dX4_wordsElsewhere_12 ?_
        refine g_iload_n C 2 rfl dX4_wordsElsewhere_13 ?_
        refine g_Vi C [.int (nI i)] r 4 (by omega) h0 rfl (c_X4_targetOf l D kc N adr cell r W T U n (nI i) ⟨h0, h1, h2, h3, by omega⟩ (by omega)) (cwV 1 C.2.2.2.2.1 gX4_wordsElsewhere_X4_targetOf rfl rfl rfl (by decide +kernel) ⟨Nat.le_of_ble_eq_true rfl, Nat.le_of_ble_eq_true rfl⟩) rfl rfl (Nat.le_of_ble_eq_true rfl) (Nat.zero_le _) (Nat.zero_le _) dX4_wordsElsewhere_14 (fun v1 cell1 q1 => ?_)
        obtain ⟨rfl, rfl⟩ := q1
        refine g_eqst (st1 := ([.int (T i)] : List Value)) (by rw [atF_nI (by omega) (by omega)]) ?_
        refine g_iload_n C 2 rfl dX4_wordsElsewhere_17 ?_
        refine g_icmp_eq C 24 (by decide) dX4_wordsElsewhere_18 (fun c18 => ?_) (fun c18 => ?_)
        · -- taken at 18
          have c18' := i_eq c18
          refine g_iinc C 2 [(2, .int (nI (i + 1))), (0, .ref (adr r)), (1, .int (nI (cnt (fun p => decide (T p ≠ nI p)) i)))] rfl (iinc_nI i) (by decide) rfl dX4_wordsElsewhere_24 ?_
          refine g_goto C 4 (by decide) dX4_wordsElsewhere_27 ?_
          refine g_sub [1, 2, 0] rfl ?_
          have ev_3 : nI (cnt (fun p => decide (T p ≠ nI p)) i) = nI (cnt (fun p => decide (T p ≠ nI p)) (i + 1)) := by first | exact cnt_yes (by simpa using c18) | exact cnt_no (by simpa using c18)
          refine g_eqlv (lv1 := [(0, .ref (adr r)), (1, .int (nI (cnt (fun p => decide (T p ≠ nI p)) (i + 1)))), (2, .int (nI (i + 1)))]) (congrArg (fun z0 : Int32 => ([(0, .ref (adr r)), (1, .int z0), (2, .int (nI (i + 1)))] : List (Nat × Value))) ev_3) ?_
          exact ih (i + 1) (by omega) (by omega) 
        · -- not taken at 18
          have c18' := i_ne c18
          refine g_iinc C 1 [(1, .int (nI (cnt (fun p => decide (T p ≠ nI p)) i + 1))), (0, .ref (adr r)), (2, .int (nI i))] rfl (iinc_nI (cnt (fun p => decide (T p ≠ nI p)) i)) (by decide) rfl dX4_wordsElsewhere_21 ?_
          refine g_iinc C 2 [(2, .int (nI (i + 1))), (1, .int (nI (cnt (fun p => decide (T p ≠ nI p)) i + 1))), (0, .ref (adr r))] rfl (iinc_nI i) (by decide) rfl dX4_wordsElsewhere_24 ?_
          refine g_goto C 4 (by decide) dX4_wordsElsewhere_27 ?_
          refine g_sub [2, 1, 0] rfl ?_
          have ev_4 : nI (cnt (fun p => decide (T p ≠ nI p)) i + 1) = nI (cnt (fun p => decide (T p ≠ nI p)) (i + 1)) := by first | exact cnt_yes (by simpa using c18) | exact cnt_no (by simpa using c18)
          refine g_eqlv (lv1 := [(0, .ref (adr r)), (1, .int (nI (cnt (fun p => decide (T p ≠ nI p)) (i + 1)))), (2, .int (nI (i + 1)))]) (congrArg (fun z0 : Int32 => ([(0, .ref (adr r)), (1, .int z0), (2, .int (nI (i + 1)))] : List (Nat × Value))) ev_4) ?_
          exact ih (i + 1) (by omega) (by omega) 
  refine g_sub [2, 1, 0] rfl ?_
  have ev_5 : 0 = nI (cnt (fun p => decide (T p ≠ nI p)) 0) := by rfl
  refine g_eqlv (lv1 := [(0, .ref (adr r)), (1, .int (nI (cnt (fun p => decide (T p ≠ nI p)) 0))), (2, .int 0)]) (congrArg (fun z0 : Int32 => ([(0, .ref (adr r)), (1, .int z0), (2, .int 0)] : List (Nat × Value))) ev_5) ?_
  exact L4 (n + 1) 0 (by omega) (by omega) 
set_option maxRecDepth 100000 in
set_option maxHeartbeats 4000000 in
theorem c_X4_standsAhead (l : Launch) (D : va_G) (kc : Nat → ClassId) (N : Nat) (adr : Nat → Nat) (cell : Nat → va_E) (r : Nat) (W T U : Nat → Int32) (n : Nat) (q : Nat) (hR : RowAt cell adr kc r W T U n) (hN : r + 4 ≤ N) (hq : q < n) : MI l yX4_standsAhead wsX4_standsAhead ({ frames := 1, cells := 0, slots := 0, locals := 21 }) D kc N adr cell [.ref (adr r), .int (nI q)] (fun (v : Int32) (cell1 : Nat → va_E) => bI (seenF W (W q) q) = v ∧ cell = cell1) := by
  refine met_i (cc := cX4_standsAhead) (maxL := 3) (ret := (some .boolean)) (by decide) rfl (Nat.le_of_ble_eq_true rfl) (lv := [(0, .ref (adr r)), (1, .int (nI q))]) rfl ?_
  intro Pg Ev Sv Mi args below Me Cd Ar C hr hlk hnm
  obtain ⟨h0, h1, h2, h3, hn⟩ := hR
  have litm1 : ((-1) : Int32).toInt = -1 := rfl
  have lit0 : (0 : Int32).toInt = 0 := rfl
  have lit1 : (1 : Int32).toInt = 1 := rfl
  have tn_n : (nI n).toInt = ((n : Nat) : Int) := nI_toInt (by omega)
  have tn_q : (nI q).toInt = ((q : Nat) : Int) := nI_toInt (by omega)
  refine g_iconst C 0 (by decide) dX4_standsAhead_0 ?_
  refine g_istore_n C [(2, .int 0), (0, .ref (adr r)), (1, .int (nI q))] (by decide) rfl dX4_standsAhead_1 ?_
  have L2 : ∀ (fu i : Nat) , i ≤ q → q < i + fu → (hs : seenF W (W q) i = false) → G Pg l Ev (headSpec wsX4_standsAhead { frames := 1, cells := 0, slots := 0, locals := 21 }).room Sv Mi args below Me Cd D N adr Ar Sv.heap 3 0 0 (MQ below (va_Qi (fun (v : Int32) (cell1 : Nat → va_E) => bI (seenF W (W q) q) = v ∧ cell = cell1) (fun (cell1 : Nat → va_E) (t : State) => va_P D vwCl (wld N adr cell1) t.heap) Ar) args Sv 0 0 Ar) cell 2 [(0, .ref (adr r)), (1, .int (nI q)), (2, .int (nI i))] ([] : List Value) := by
    intro fu
    induction fu with
    | zero => intro i  hle hfu; exact absurd hfu (by omega)
    | succ fu ih =>
      intro i  hle2 hfu2  hs
      have tn_i : (nI i).toInt = ((i : Nat) : Int) := nI_toInt (by omega)
      refine g_iload_n C 2 rfl dX4_standsAhead_2 ?_
      refine g_iload_n C 1 rfl dX4_standsAhead_3 ?_
      refine g_icmp_ge C 28 (by decide) dX4_standsAhead_4 (fun c4 => ?_) (fun c4 => ?_)
      · -- taken at 4
        have c4' := i_le c4
        obtain rfl : q = i := by omega
        refine g_iconst C 0 (by decide) dX4_standsAhead_28 ?_
        refine g_iret C hr rfl hlk dX4_standsAhead_29 ?_
        exact ⟨bI_b0 hs, rfl⟩
      · -- not taken at 4
        have c4' := i_nle c4
        refine g_aload_n C 0 rfl dX4_standsAhead_7 ?_
        refine g_iload_n C 2 rfl dX4_standsAhead_8 ?_
        refine g_Vi C [.int (nI i)] r 4 (by omega) h0 rfl (c_X4_at l D kc N adr cell r W T U n (nI i) ⟨h0, h1, h2, h3, by omega⟩ (by omega)) (cwV 1 C.2.2.2.2.1 gX4_standsAhead_X4_at rfl rfl rfl (by decide +kernel) ⟨Nat.le_of_ble_eq_true rfl, Nat.le_of_ble_eq_true rfl⟩) rfl rfl (Nat.le_of_ble_eq_true rfl) (Nat.zero_le _) (Nat.zero_le _) dX4_standsAhead_9 (fun v1 cell1 q1 => ?_)
        obtain ⟨rfl, rfl⟩ := q1
        refine g_eqst (st1 := ([.int (W i)] : List Value)) (by rw [atF_nI (by omega) (by omega)]) ?_
        refine g_aload_n C 0 rfl dX4_standsAhead_12 ?_
        refine g_iload_n C 1 rfl dX4_standsAhead_13 ?_
        refine g_Vi C [.int (nI q)] r 4 (by omega) h0 rfl (c_X4_at l D kc N adr cell r W T U n (nI q) ⟨h0, h1, h2, h3, by omega⟩ (by omega)) (cwV 1 C.2.2.2.2.1 gX4_standsAhead_X4_at rfl rfl rfl (by decide +kernel) ⟨Nat.le_of_ble_eq_true rfl, Nat.le_of_ble_eq_true rfl⟩) rfl rfl (Nat.le_of_ble_eq_true rfl) (Nat.zero_le _) (Nat.zero_le _) dX4_standsAhead_14 (fun v3 cell3 q3 => ?_)
        obtain ⟨rfl, rfl⟩ := q3
        refine g_eqst (st1 := ([.int (W q), .int (W i)] : List Value)) (by rw [atF_nI (by omega) (by omega)]) ?_
        refine g_icmp_ne C 22 (by decide) dX4_standsAhead_17 (fun c17 => ?_) (fun c17 => ?_)
        · -- taken at 17
          have c17' := i_ne c17
          refine g_iinc C 2 [(2, .int (nI (i + 1))), (0, .ref (adr r)), (1, .int (nI q))] rfl (iinc_nI i) (by decide) rfl dX4_standsAhead_22 ?_
          refine g_goto C 2 (by decide) dX4_standsAhead_25 ?_
          refine g_sub [1, 2, 0] rfl ?_
          exact ih (i + 1) (by omega) (by omega) (seen_no c17 hs)
        · -- not taken at 17
          have c17' := i_eq c17
          refine g_iconst C 1 (by decide) dX4_standsAhead_20 ?_
          refine g_iret C hr (by rfl) hlk dX4_standsAhead_21 ?_
          exact ⟨bI_b1 (seen_hit c17 (by omega)), rfl⟩
  refine g_sub [1, 2, 0] rfl ?_
  exact L2 (q + 1) 0 (by omega) (by omega) rfl
set_option maxRecDepth 100000 in
set_option maxHeartbeats 4000000 in
theorem c_X4_unlikeWords (l : Launch) (D : va_G) (kc : Nat → ClassId) (N : Nat) (adr : Nat → Nat) (cell : Nat → va_E) (r : Nat) (W T U : Nat → Int32) (n : Nat)  (hR : RowAt cell adr kc r W T U n) (hN : r + 4 ≤ N) : MI l yX4_unlikeWords wsX4_unlikeWords ({ frames := 2, cells := 0, slots := 0, locals := 43 }) D kc N adr cell [.ref (adr r)] (fun (v : Int32) (cell1 : Nat → va_E) => nI (cnt (fun p => !seenF W (W p) p) n) = v ∧ cell = cell1) := by
  refine met_i (cc := cX4_unlikeWords) (maxL := 3) (ret := (some .int)) (by decide) rfl (Nat.le_of_ble_eq_true rfl) (lv := [(0, .ref (adr r))]) rfl ?_
  intro Pg Ev Sv Mi args below Me Cd Ar C hr hlk hnm
  have in4 : ∀ w ∈ u_ws RX4 TX4 4, w ∈ wsX4_unlikeWords := by decide +kernel
  have f21 := C.2.2.2.2.1 (.fieldLink RX4 21 "WordAnchors$Row" "size" "I") (by decide +kernel)
  obtain ⟨h0, h1, h2, h3, hn⟩ := hR
  have litm1 : ((-1) : Int32).toInt = -1 := rfl
  have lit0 : (0 : Int32).toInt = 0 := rfl
  have lit1 : (1 : Int32).toInt = 1 := rfl
  have tn_n : (nI n).toInt = ((n : Nat) : Int) := nI_toInt (by omega)
  refine g_iconst C 0 (by decide) dX4_unlikeWords_0 ?_
  refine g_istore_n C [(1, .int 0), (0, .ref (adr r))] (by decide) rfl dX4_unlikeWords_1 ?_
  refine g_iconst C 0 (by decide) dX4_unlikeWords_2 ?_
  refine g_istore_n C [(2, .int 0), (1, .int 0), (0, .ref (adr r))] (by decide) rfl dX4_unlikeWords_3 ?_
  have L4 : ∀ (fu i : Nat) , i ≤ n → n < i + fu → G Pg l Ev (headSpec wsX4_unlikeWords { frames := 2, cells := 0, slots := 0, locals := 43 }).room Sv Mi args below Me Cd D N adr Ar Sv.heap 3 0 0 (MQ below (va_Qi (fun (v : Int32) (cell1 : Nat → va_E) => nI (cnt (fun p => !seenF W (W p) p) n) = v ∧ cell = cell1) (fun (cell1 : Nat → va_E) (t : State) => va_P D vwCl (wld N adr cell1) t.heap) Ar) args Sv 0 0 Ar) cell 4 [(0, .ref (adr r)), (1, .int (nI (cnt (fun p => !seenF W (W p) p) i))), (2, .int (nI i))] ([] : List Value) := by
    intro fu
    induction fu with
    | zero => intro i  hle hfu; exact absurd hfu (by omega)
    | succ fu ih =>
      intro i  hle4 hfu4  
      have tn_i : (nI i).toInt = ((i : Nat) : Int) := nI_toInt (by omega)
      refine g_iload_n C 2 rfl dX4_unlikeWords_4 ?_
      refine g_aload_n C 0 rfl dX4_unlikeWords_5 ?_
      refine g_get C r 4 3 (by omega) h0 rfl in4 (by decide) f21 (fun _ h9 => h9) rfl dX4_unlikeWords_6 ?_
      refine g_icmp_ge C 29 (by decide) dX4_unlikeWords_9 (fun c9 => ?_) (fun c9 => ?_)
      · -- taken at 9
        have c9' := i_le c9
        obtain rfl : n = i := by omega
        refine g_iload_n C 1 rfl dX4_unlikeWords_29 ?_
        refine g_iret C hr rfl hlk dX4_unlikeWords_30 ?_
        exact ⟨rfl, rfl⟩
      · -- not taken at 9
        have c9' := i_nle c9
        refine g_aload_n C 0 rfl dX4_unlikeWords_12 ?_
        refine g_iload_n C 2 rfl dX4_unlikeWords_13 ?_
        refine g_Vi C [.int (nI i)] r 4 (by omega) h0 rfl (c_X4_standsAhead l D kc N adr cell r W T U n i ⟨h0, h1, h2, h3, by omega⟩ (by omega) (by omega)) (cwV 1 C.2.2.2.2.1 gX4_unlikeWords_X4_standsAhead rfl rfl rfl (by decide +kernel) ⟨Nat.le_of_ble_eq_true rfl, Nat.le_of_ble_eq_true rfl⟩) rfl rfl (Nat.le_of_ble_eq_true rfl) (Nat.zero_le _) (Nat.zero_le _) dX4_unlikeWords_14 (fun v1 cell1 q1 => ?_)
        obtain ⟨rfl, rfl⟩ := q1
        refine g_if_ne C 23 (by decide) dX4_unlikeWords_17 (fun c17 => ?_) (fun c17 => ?_)
        · -- taken at 17
          have c17' := bI_bt c17
          refine g_iinc C 2 [(2, .int (nI (i + 1))), (0, .ref (adr r)), (1, .int (nI (cnt (fun p => !seenF W (W p) p) i)))] rfl (iinc_nI i) (by decide) rfl dX4_unlikeWords_23 ?_
          refine g_goto C 4 (by decide) dX4_unlikeWords_26 ?_
          refine g_sub [1, 2, 0] rfl ?_
          have ev_2 : nI (cnt (fun p => !seenF W (W p) p) i) = nI (cnt (fun p => !seenF W (W p) p) (i + 1)) := by first | exact cnt_yes (by simpa using c17') | exact cnt_no (by simpa using c17')
          refine g_eqlv (lv1 := [(0, .ref (adr r)), (1, .int (nI (cnt (fun p => !seenF W (W p) p) (i + 1)))), (2, .int (nI (i + 1)))]) (congrArg (fun z0 : Int32 => ([(0, .ref (adr r)), (1, .int z0), (2, .int (nI (i + 1)))] : List (Nat × Value))) ev_2) ?_
          exact ih (i + 1) (by omega) (by omega) 
        · -- not taken at 17
          have c17' := bI_bf c17
          refine g_iinc C 1 [(1, .int (nI (cnt (fun p => !seenF W (W p) p) i + 1))), (0, .ref (adr r)), (2, .int (nI i))] rfl (iinc_nI (cnt (fun p => !seenF W (W p) p) i)) (by decide) rfl dX4_unlikeWords_20 ?_
          refine g_iinc C 2 [(2, .int (nI (i + 1))), (1, .int (nI (cnt (fun p => !seenF W (W p) p) i + 1))), (0, .ref (adr r))] rfl (iinc_nI i) (by decide) rfl dX4_unlikeWords_23 ?_
          refine g_goto C 4 (by decide) dX4_unlikeWords_26 ?_
          refine g_sub [2, 1, 0] rfl ?_
          have ev_3 : nI (cnt (fun p => !seenF W (W p) p) i + 1) = nI (cnt (fun p => !seenF W (W p) p) (i + 1)) := by first | exact cnt_yes (by simpa using c17') | exact cnt_no (by simpa using c17')
          refine g_eqlv (lv1 := [(0, .ref (adr r)), (1, .int (nI (cnt (fun p => !seenF W (W p) p) (i + 1)))), (2, .int (nI (i + 1)))]) (congrArg (fun z0 : Int32 => ([(0, .ref (adr r)), (1, .int z0), (2, .int (nI (i + 1)))] : List (Nat × Value))) ev_3) ?_
          exact ih (i + 1) (by omega) (by omega) 
  refine g_sub [2, 1, 0] rfl ?_
  have ev_4 : 0 = nI (cnt (fun p => !seenF W (W p) p) 0) := by rfl
  refine g_eqlv (lv1 := [(0, .ref (adr r)), (1, .int (nI (cnt (fun p => !seenF W (W p) p) 0))), (2, .int 0)]) (congrArg (fun z0 : Int32 => ([(0, .ref (adr r)), (1, .int z0), (2, .int 0)] : List (Nat × Value))) ev_4) ?_
  exact L4 (n + 1) 0 (by omega) (by omega) 
set_option maxRecDepth 100000 in
set_option maxHeartbeats 4000000 in
theorem c_X4_copyFrom (l : Launch) (D : va_G) (kc : Nat → ClassId) (N : Nat) (adr : Nat → Nat) (cell : Nat → va_E) (r : Nat) (W T U : Nat → Int32) (n : Nat) (r2 : Nat) (W2 T2 U2 : Nat → Int32) (n2 : Nat) (hR : RowAt cell adr kc r W T U n) (hN : r + 4 ≤ N) (hR2 : RowAt cell adr kc r2 W2 T2 U2 n2) (hN2 : r2 + 4 ≤ N) (hd : r + 4 ≤ r2 ∨ r2 + 4 ≤ r) : MV l yX4_copyFrom wsX4_copyFrom ({ frames := 1, cells := 0, slots := 0, locals := 21 }) D kc N adr cell [.ref (adr r), .ref (adr r2)] (fun (cell1 : Nat → va_E) => RowAt cell1 adr kc r (fill (fun p => atF n2 W2 (nI p)) W 40) T U n2 ∧ ∀ j : Nat, (j < r ∨ r + 4 ≤ j) → cell1 j = cell j) := by
  refine met_v (cc := cX4_copyFrom) (maxL := 3) (ret := none) (by decide) rfl (Nat.le_of_ble_eq_true rfl) (lv := [(0, .ref (adr r)), (1, .ref (adr r2))]) rfl ?_
  intro Pg Ev Sv Mi args below Me Cd Ar C hr hlk hnm
  have in4 : ∀ w ∈ u_ws RX4 TX4 4, w ∈ wsX4_copyFrom := by decide +kernel
  have f9 := C.2.2.2.2.1 (.fieldLink RX4 9 "WordAnchors$Row" "words" "[I") (by decide +kernel)
  have f21 := C.2.2.2.2.1 (.fieldLink RX4 21 "WordAnchors$Row" "size" "I") (by decide +kernel)
  obtain ⟨h0, h1, h2, h3, hn⟩ := hR
  obtain ⟨k0, k1, k2, k3, hn2⟩ := hR2
  have litm1 : ((-1) : Int32).toInt = -1 := rfl
  have lit0 : (0 : Int32).toInt = 0 := rfl
  have lit1 : (1 : Int32).toInt = 1 := rfl
  have lit40 : (40 : Int32).toInt = 40 := rfl
  have tn_n : (nI n).toInt = ((n : Nat) : Int) := nI_toInt (by omega)
  have tn_n2 : (nI n2).toInt = ((n2 : Nat) : Int) := nI_toInt (by omega)
  refine g_iconst C 0 (by decide) dX4_copyFrom_0 ?_
  refine g_istore_n C [(2, .int 0), (0, .ref (adr r)), (1, .ref (adr r2))] (by decide) rfl dX4_copyFrom_1 ?_
  have L2 : ∀ (fu i : Nat) (cl : Nat → va_E) , i ≤ 40 → 40 < i + fu → (g0 : cl r = .inr (4, [.ref (adr (r + 1)), .ref (adr (r + 2)), .ref (adr (r + 3)), .int (nI n)])) → (g1 : cl (r + 1) = .inl (kc 0, 40, .inl (fill (fun p => atF n2 W2 (nI p)) W i))) → (g2 : cl (r + 2) = .inl (kc 0, 40, .inl T)) → (g3 : cl (r + 3) = .inl (kc 0, 40, .inl U)) → (g4 : cl r2 = .inr (4, [.ref (adr (r2 + 1)), .ref (adr (r2 + 2)), .ref (adr (r2 + 3)), .int (nI n2)])) → (g5 : cl (r2 + 1) = .inl (kc 0, 40, .inl W2)) → (g6 : cl (r2 + 2) = .inl (kc 0, 40, .inl T2)) → (g7 : cl (r2 + 3) = .inl (kc 0, 40, .inl U2)) → (frl2 : ∀ j : Nat, (j < r ∨ r + 4 ≤ j) → cl j = cell j) → G Pg l Ev (headSpec wsX4_copyFrom { frames := 1, cells := 0, slots := 0, locals := 21 }).room Sv Mi args below Me Cd D N adr Ar Sv.heap 3 0 0 (MQ below (va_Qv (fun (cell1 : Nat → va_E) => RowAt cell1 adr kc r (fill (fun p => atF n2 W2 (nI p)) W 40) T U n2 ∧ ∀ j : Nat, (j < r ∨ r + 4 ≤ j) → cell1 j = cell j) (fun (cell1 : Nat → va_E) (t : State) => va_P D vwCl (wld N adr cell1) t.heap) Ar) args Sv 0 0 Ar) cl 2 [(0, .ref (adr r)), (1, .ref (adr r2)), (2, .int (nI i))] ([] : List Value) := by
    intro fu
    induction fu with
    | zero => intro i cl  hle hfu; exact absurd hfu (by omega)
    | succ fu ih =>
      intro i cl  hle2 hfu2 g0 g1 g2 g3 g4 g5 g6 g7 frl2 
      have tn_i : (nI i).toInt = ((i : Nat) : Int) := nI_toInt (by omega)
      refine g_iload_n C 2 rfl dX4_copyFrom_2 ?_
      refine g_aload_n C 0 rfl dX4_copyFrom_3 ?_
      refine g_get C r 4 0 (by omega) g0 rfl in4 (by decide) f9 (fun _ h9 => h9) rfl dX4_copyFrom_4 ?_
      refine g_alen C (r + 1) 0 (by omega) g1 rfl 40 rfl dX4_copyFrom_7 ?_
      refine g_icmp_ge C 28 (by decide) dX4_copyFrom_8 (fun c8 => ?_) (fun c8 => ?_)
      · -- taken at 8
        have c8' := i_le c8
        obtain rfl : 40 = i := by omega
        refine g_aload_n C 0 rfl dX4_copyFrom_28 ?_
        refine g_aload_n C 1 rfl dX4_copyFrom_29 ?_
        refine g_get C r2 4 3 (by omega) g4 rfl in4 (by decide) f21 (fun _ h9 => h9) rfl dX4_copyFrom_30 ?_
        refine g_put C r 4 3 (by omega) g0 rfl in4 tyX4 tyX4_ok nmX4 (by decide) f21 (fun _ h9 => h9) rfl (ty := .int) (by decide +kernel) rfl rfl (Nat.le_of_ble_eq_true rfl) dX4_copyFrom_33 ?_
        refine g_cell (fun cell1 ec1 => ?_)
        have h_2 : cell1 r = .inr (4, [.ref (adr (r + 1)), .ref (adr (r + 2)), .ref (adr (r + 3)), .int (nI n2)]) := by rw [ec1]; exact va_up_self _ _ _
        have h_3 : cell1 (r + 1) = .inl (kc 0, 40, .inl (fill (fun p => atF n2 W2 (nI p)) W 40)) := by rw [ec1, va_up_ne _ _ (by omega)]; exact g1
        have h_4 : cell1 (r + 2) = .inl (kc 0, 40, .inl T) := by rw [ec1, va_up_ne _ _ (by omega)]; exact g2
        have h_5 : cell1 (r + 3) = .inl (kc 0, 40, .inl U) := by rw [ec1, va_up_ne _ _ (by omega)]; exact g3
        have h_6 : cell1 r2 = .inr (4, [.ref (adr (r2 + 1)), .ref (adr (r2 + 2)), .ref (adr (r2 + 3)), .int (nI n2)]) := by rw [ec1, va_up_ne _ _ (by omega)]; exact g4
        have h_7 : cell1 (r2 + 1) = .inl (kc 0, 40, .inl W2) := by rw [ec1, va_up_ne _ _ (by omega)]; exact g5
        have h_8 : cell1 (r2 + 2) = .inl (kc 0, 40, .inl T2) := by rw [ec1, va_up_ne _ _ (by omega)]; exact g6
        have h_9 : cell1 (r2 + 3) = .inl (kc 0, 40, .inl U2) := by rw [ec1, va_up_ne _ _ (by omega)]; exact g7
        have fr_10 : ∀ j : Nat, (j < r ∨ r + 4 ≤ j) → cell1 j = cell j := fun j hj => by rw [ec1, va_up_ne _ _ (by omega)]; exact frl2 j hj
        refine g_vret C hr hlk dX4_copyFrom_36 ?_
        exact ⟨⟨h_2, h_3, h_4, h_5, by omega⟩, fr_10⟩
      · -- not taken at 8
        have c8' := i_nle c8
        refine g_aload_n C 0 rfl dX4_copyFrom_11 ?_
        refine g_get C r 4 0 (by omega) g0 rfl in4 (by decide) f9 (fun _ h9 => h9) rfl dX4_copyFrom_12 ?_
        refine g_iload_n C 2 rfl dX4_copyFrom_15 ?_
        refine g_aload_n C 1 rfl dX4_copyFrom_16 ?_
        refine g_iload_n C 2 rfl dX4_copyFrom_17 ?_
        refine g_Vi C [.int (nI i)] r2 4 (by omega) g4 rfl (c_X4_at l D kc N adr cl r2 W2 T2 U2 n2 (nI i) ⟨g4, g5, g6, g7, by omega⟩ (by omega)) (cwV 1 C.2.2.2.2.1 gX4_copyFrom_X4_at rfl rfl rfl (by decide +kernel) ⟨Nat.le_of_ble_eq_true rfl, Nat.le_of_ble_eq_true rfl⟩) rfl rfl (Nat.le_of_ble_eq_true rfl) (Nat.zero_le _) (Nat.zero_le _) dX4_copyFrom_18 (fun v11 cell11 q11 => ?_)
        obtain ⟨rfl, rfl⟩ := q11
        refine g_iast C (r + 1) (by omega) g1 (vp_in_nI (by omega) (by omega)) dX4_copyFrom_21 ?_
        refine g_cell (fun cell12 ec12 => ?_)
        have h_13 : cell12 r = .inr (4, [.ref (adr (r + 1)), .ref (adr (r + 2)), .ref (adr (r + 3)), .int (nI n)]) := by rw [ec12, va_up_ne _ _ (by omega)]; exact g0
        have h_14 : cell12 (r + 1) = .inl (kc 0, 40, .inl (upd (fill (fun p => atF n2 W2 (nI p)) W i) (nI i).toNatClampNeg (atF n2 W2 (nI i)))) := by rw [ec12]; exact va_up_self _ _ _
        have h_15 : cell12 (r + 2) = .inl (kc 0, 40, .inl T) := by rw [ec12, va_up_ne _ _ (by omega)]; exact g2
        have h_16 : cell12 (r + 3) = .inl (kc 0, 40, .inl U) := by rw [ec12, va_up_ne _ _ (by omega)]; exact g3
        have h_17 : cell12 r2 = .inr (4, [.ref (adr (r2 + 1)), .ref (adr (r2 + 2)), .ref (adr (r2 + 3)), .int (nI n2)]) := by rw [ec12, va_up_ne _ _ (by omega)]; exact g4
        have h_18 : cell12 (r2 + 1) = .inl (kc 0, 40, .inl W2) := by rw [ec12, va_up_ne _ _ (by omega)]; exact g5
        have h_19 : cell12 (r2 + 2) = .inl (kc 0, 40, .inl T2) := by rw [ec12, va_up_ne _ _ (by omega)]; exact g6
        have h_20 : cell12 (r2 + 3) = .inl (kc 0, 40, .inl U2) := by rw [ec12, va_up_ne _ _ (by omega)]; exact g7
        have fr_21 : ∀ j : Nat, (j < r ∨ r + 4 ≤ j) → cell12 j = cell j := fun j hj => by rw [ec12, va_up_ne _ _ (by omega)]; exact frl2 j hj
        have h_22 : cell12 (r + 1) = .inl (kc 0, 40, .inl (upd (fill (fun p => atF n2 W2 (nI p)) W i) i (atF n2 W2 (nI i)))) := by rw [h_14, nI_clamp (by omega)]
        refine g_iinc C 2 [(2, .int (nI (i + 1))), (0, .ref (adr r)), (1, .ref (adr r2))] rfl (iinc_nI i) (by decide) rfl dX4_copyFrom_22 ?_
        refine g_goto C 2 (by decide) dX4_copyFrom_25 ?_
        refine g_sub [1, 2, 0] rfl ?_
        have hx_23 : cell12 (r + 1) = .inl (kc 0, 40, .inl (fill (fun p => atF n2 W2 (nI p)) W (i + 1))) := h_22.trans (congrArg (fun f0 : Nat → Int32 => (.inl (kc 0, 40, .inl f0) : va_E)) (show (upd (fill (fun p => atF n2 W2 (nI p)) W i) i (atF n2 W2 (nI i))) = (fill (fun p => atF n2 W2 (nI p)) W (i + 1)) from by exact fill_upd rfl))
        exact ih (i + 1) _ (by omega) (by omega) h_13 hx_23 h_15 h_16 h_17 h_18 h_19 h_20 fr_21 
  refine g_sub [1, 2, 0] rfl ?_
  have hx_24 : cell (r + 1) = .inl (kc 0, 40, .inl (fill (fun p => atF n2 W2 (nI p)) W 0)) := h1.trans (congrArg (fun f0 : Nat → Int32 => (.inl (kc 0, 40, .inl f0) : va_E)) (show W = (fill (fun p => atF n2 W2 (nI p)) W 0) from by exact fill_0))
  exact L2 (40 + 1) 0 _ (by omega) (by omega) h0 hx_24 h2 h3 k0 k1 k2 k3 (fun _ _ => rfl) 
