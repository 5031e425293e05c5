set_option maxRecDepth 100000 in
set_option maxHeartbeats 4000000 in
theorem c_X6_findAll (l : Launch) (D : va_G) (kc : Nat → ClassId) (N : Nat) (adr : Nat → Nat) (cell : Nat → va_E) (σ : SD) (hn : Nat) (hi : Nat → SD) (L : Nat) (ch : Nat → Int32)  (hX : XAt cell adr kc σ hn hi L ch) (hG : Good σ) (hN : 125 ≤ N) : MI l yX6_findAll wsX6_findAll ({ frames := 5, cells := 0, slots := 0, locals := 118 }) D kc N adr cell [.ref (adr 0)] (fun (w0 : Int32) (cell1 : Nat → va_E) => findAllR σ = w0 ∧ XNx cell1 adr kc σ hn hi (findAllO σ) L ch) := by
  refine met_i (cc := cX6_findAll) (maxL := 5) (ret := (some .int)) (by decide) rfl (Nat.le_of_ble_eq_true rfl) (lv := [(0, .ref (adr 0))]) rfl ?_
  intro Pg Ev Sv Mi args below Me Cd Ar C hr hlk hnm
  have in6 : ∀ w ∈ u_ws RX6 TX6 6, w ∈ wsX6_findAll := by decide +kernel
  have f22 := C.2.2.2.2.1 (.fieldLink RX6 22 "WordAnchors" "history" "LWordAnchors$History;") (by decide +kernel)
  have f10 := C.2.2.2.2.1 (.fieldLink RX6 10 "WordAnchors" "now" "LWordAnchors$State;") (by decide +kernel)
  have hX0 := hX
  obtain ⟨x0, ⟨d0, hS, hEq⟩, ⟨dT, hST⟩, ⟨od, dh, hHI, hHE⟩, ⟨sx, nx, sg, nu, hTX⟩, ⟨bz, Sf, Mf, hBL⟩, ⟨ap, av, af, hAN⟩, hch⟩ := hX
  have en := hEq.1
  have em := hEq.2.1
  have hgn := hG.1
  have hgm := hG.2.1
  have hn40 : d0.1 ≤ 40 := hS.2.1.2.2.2.2
  have hm6 : d0.2.1 ≤ 6 := hS.2.2.2.2.2
  have hL60 : L ≤ 60 := hTX.2.2.2
  have hod : od < 4 := hHI.2.2.2.1
  have hh4 : hn ≤ 4 := hHI.2.2.2.2
  have litm1 : ((-1) : Int32).toInt = -1 := rfl
  have lit0 : (0 : Int32).toInt = 0 := rfl
  have lit1 : (1 : Int32).toInt = 1 := rfl
  have tn_d0_1 : (nI d0.1).toInt = ((d0.1 : Nat) : Int) := nI_toInt (by omega)
  have tn_d0_2_1 : (nI d0.2.1).toInt = ((d0.2.1 : Nat) : Int) := nI_toInt (by omega)
  have tn_L : (nI L).toInt = ((L : Nat) : Int) := nI_toInt (by omega)
  have tn_hn : (nI hn).toInt = ((hn : Nat) : Int) := nI_toInt (by omega)
  refine g_aload_n C 0 rfl dX6_findAll_0 ?_
  refine g_get C 0 6 2 (by omega) x0 rfl in6 (by decide) f22 (fun _ h9 => h9) rfl dX6_findAll_1 ?_
  refine g_aload_n C 0 rfl dX6_findAll_4 ?_
  refine g_get C 0 6 0 (by omega) x0 rfl in6 (by decide) f10 (fun _ h9 => h9) rfl dX6_findAll_5 ?_
  refine g_Vv C [.ref (adr 1)] 39 3 (by omega) hHI.1 rfl (c_X3_record l D kc N adr cell 39 od hn dh 1 d0 hHI (by omega) hS (by omega) (by omega)) (cwV 1 C.2.2.2.2.1 gX6_findAll_X3_record rfl rfl rfl (by decide +kernel) ⟨Nat.le_of_ble_eq_true rfl, Nat.le_of_ble_eq_true rfl⟩) rfl rfl (Nat.le_of_ble_eq_true rfl) (Nat.zero_le _) (Nat.zero_le _) dX6_findAll_8 (fun cell1 q1 => ?_)
  obtain ⟨dc, hHI_3, hEc, gf_2⟩ := q1
  have hHE1 := ring_rec hod hh4 hHE (Eqv.tr hEc hEq)
  have h_4 : cell1 0 = .inr (6, [.ref (adr 1), .ref (adr 20), .ref (adr 39), .ref (adr 117), .ref (adr 120), .ref (adr 123)]) := (gf_2 0 (by omega)).trans x0
  have h_5 : StAt cell1 adr kc 1 d0 := StAt.frame hS (fun j h1 h2 => gf_2 j (by omega))
  have h_6 : StAt cell1 adr kc 20 dT := StAt.frame hST (fun j h1 h2 => gf_2 j (by omega))
  have h_7 : TxAt cell1 adr kc 117 L sx (nI nx) sg ch nu := TxAt.frame hTX (fun j h1 h2 => gf_2 j (by omega))
  have h_8 : BlAt cell1 adr kc 120 bz Sf Mf := BlAt.frame hBL (fun j h1 h2 => gf_2 j (by omega))
  have h_9 : AncAt cell1 adr kc 123 ap av af := AncAt.frame hAN (fun j h1 h2 => gf_2 j (by omega))
  refine g_iconst C 0 (by decide) dX6_findAll_11 ?_
  refine g_istore_n C [(1, .int 0), (0, .ref (adr 0))] (by decide) rfl dX6_findAll_12 ?_
  refine g_iconst C 0 (by decide) dX6_findAll_13 ?_
  refine g_istore_n C [(2, .int 0), (1, .int 0), (0, .ref (adr 0))] (by decide) rfl dX6_findAll_14 ?_
  have L15 : ∀ (fu i : Nat) (cl : Nat → va_E) , i ≤ d0.2.1 → d0.2.1 < i + fu → (t0 : cl 0 = .inr (6, [.ref (adr 1), .ref (adr 20), .ref (adr 39), .ref (adr 117), .ref (adr 120), .ref (adr 123)])) → (t1 : StAt cl adr kc 1 (faD d0 i)) → (t2 : StAt cl adr kc 20 dT) → (t3 : HiAt cl adr kc 39 (if hn < 4 then od else (od + 1) % 4) (if hn < 4 then hn + 1 else 4) (updS dh ((od + hn) % 4) dc)) → (t4 : TxAt cl adr kc 117 L sx (nI nx) sg ch nu) → (t5 : BlAt cl adr kc 120 bz Sf Mf) → (t6 : AncAt cl adr kc 123 ap av af) → G Pg l Ev (headSpec wsX6_findAll { frames := 5, cells := 0, slots := 0, locals := 118 }).room Sv Mi args below Me Cd D N adr Ar Sv.heap 5 0 0 (MQ below (va_Qi (fun (w0 : Int32) (cell1 : Nat → va_E) => findAllR σ = w0 ∧ XNx cell1 adr kc σ hn hi (findAllO σ) L ch) (fun (cell1 : Nat → va_E) (t : State) => va_P D vwCl (wld N adr cell1) t.heap) Ar) args Sv 0 0 Ar) cl 15 [(0, .ref (adr 0)), (1, .int (nI (cnt (fun k => decide (¬ aH d0 k = 0)) i))), (2, .int (nI i))] ([] : List Value) := by
    intro fu
    induction fu with
    | zero => intro i cl  hle hfu; exact absurd hfu (by omega)
    | succ fu ih =>
      intro i cl  hle15 hfu15 t0 t1 t2 t3 t4 t5 t6 
      have tn_i : (nI i).toInt = ((i : Nat) : Int) := nI_toInt (by omega)
      have hfd : (nI (faD d0 i).2.1).toInt = ((d0.2.1 : Nat) : Int) := nI_toInt (n := d0.2.1) (by omega)
      refine g_iload_n C 2 rfl dX6_findAll_15 ?_
      refine g_aload_n C 0 rfl dX6_findAll_16 ?_
      refine g_get C 0 6 0 (by omega) t0 rfl in6 (by decide) f10 (fun _ h9 => h9) rfl dX6_findAll_17 ?_
      refine g_Vi C [] 1 5 (by omega) t1.1 rfl (c_X5_anchorCount l D kc N adr cl 1 (faD d0 i).1 (faD d0 i).2.1 (faD d0 i).2.2.1 (faD d0 i).2.2.2.1 (faD d0 i).2.2.2.2.1 (faD d0 i).2.2.2.2.2.1 (faD d0 i).2.2.2.2.2.2.1 (faD d0 i).2.2.2.2.2.2.2.1 (faD d0 i).2.2.2.2.2.2.2.2.1 (faD d0 i).2.2.2.2.2.2.2.2.2  t1 (by omega)) (cwV 0 C.2.2.2.2.1 gX6_findAll_X5_anchorCount rfl rfl rfl (by decide +kernel) ⟨Nat.le_of_ble_eq_true rfl, Nat.le_of_ble_eq_true rfl⟩) rfl rfl (Nat.le_of_ble_eq_true rfl) (Nat.zero_le _) (Nat.zero_le _) dX6_findAll_20 (fun v10 cell10 q10 => ?_)
      obtain ⟨rfl, rfl⟩ := q10
      refine g_icmp_ge C 74 (by decide) dX6_findAll_23 (fun c23 => ?_) (fun c23 => ?_)
      · -- taken at 23
        have c23' := i_le c23
        obtain rfl : i = d0.2.1 := by omega
        refine g_iload_n C 1 rfl dX6_findAll_74 ?_
        refine g_iret C hr rfl hlk dX6_findAll_75 ?_
        refine ⟨?_, XNx.yes rfl ⟨t0, ⟨_, t1, (by rw [em]; exact fa_eqv hEq)⟩, ⟨_, t2⟩, ⟨_, _, t3, hHE1⟩, ⟨_, _, _, _, t4⟩, ⟨_, _, _, t5⟩, ⟨_, _, _, t6⟩, hch⟩⟩
        unfold findAllR; rw [em]; exact congrArg nI (cnt_cong (fun i hi1 => by show decide (¬ aH σ i = 0) = decide (¬ aH d0 i = 0); rw [eH hEq hi1]))
      · -- not taken at 23
        have c23' := i_nle c23
        refine g_aload_n C 0 rfl dX6_findAll_26 ?_
        refine g_get C 0 6 0 (by omega) t0 rfl in6 (by decide) f10 (fun _ h9 => h9) rfl dX6_findAll_27 ?_
        refine g_iload_n C 2 rfl dX6_findAll_30 ?_
        refine g_Vq C [.int (nI i)] 1 5 (by omega) t1.1 rfl (c_X5_anchorNumbered l D kc N adr cl 1 (faD d0 i).1 (faD d0 i).2.1 (faD d0 i).2.2.1 (faD d0 i).2.2.2.1 (faD d0 i).2.2.2.2.1 (faD d0 i).2.2.2.2.2.1 (faD d0 i).2.2.2.2.2.2.1 (faD d0 i).2.2.2.2.2.2.2.1 (faD d0 i).2.2.2.2.2.2.2.2.1 (faD d0 i).2.2.2.2.2.2.2.2.2 (nI i) t1 (by omega)) (cwV 1 C.2.2.2.2.1 gX6_findAll_X5_anchorNumbered rfl rfl rfl (by decide +kernel) ⟨Nat.le_of_ble_eq_true rfl, Nat.le_of_ble_eq_true rfl⟩) rfl rfl (Nat.le_of_ble_eq_true rfl) (Nat.zero_le _) (Nat.zero_le _) dX6_findAll_31 (fun v11 cell11 q11 => ?_)
        obtain ⟨rfl, rfl⟩ := q11
        have hAx : AncAt cl adr kc (1 + 7 + 2 * i) ((faD d0 i).2.2.2.2.2.2.2.1 i) ((faD d0 i).2.2.2.2.2.2.2.2.1 i) ((faD d0 i).2.2.2.2.2.2.2.2.2 i) := t1.2.2.2.2.1 i (by omega)
        refine g_eqst (st1 := ([.ref (adr (1 + 7 + 2 * i))] : List Value)) (by rw [if_pos (by rw [nI_toInt (by omega)]; show 0 ≤ (i : Int) ∧ (i : Int) < d0.2.1; omega), nI_clamp (by omega)]; rfl) ?_
        refine g_astore_n C [(3, .ref (adr (1 + 7 + 2 * i))), (0, .ref (adr 0)), (1, .int (nI (cnt (fun k => decide (¬ aH d0 k = 0)) i))), (2, .int (nI i))] (by decide) rfl dX6_findAll_34 ?_
        refine g_aload_n C 1 rfl dX6_findAll_35 ?_
        refine g_get C 0 6 0 (by omega) t0 rfl in6 (by decide) f10 (fun _ h9 => h9) rfl dX6_findAll_36 ?_
        refine g_aload_n C 0 rfl dX6_findAll_39 ?_
        refine g_Vi C [.ref (adr (1 + 7 + 2 * i))] 1 5 (by omega) t1.1 rfl (c_X5_shiftOf l D kc N adr cl 1 (faD d0 i).1 (faD d0 i).2.1 (faD d0 i).2.2.1 (faD d0 i).2.2.2.1 (faD d0 i).2.2.2.2.1 (faD d0 i).2.2.2.2.2.1 (faD d0 i).2.2.2.2.2.2.1 (faD d0 i).2.2.2.2.2.2.2.1 (faD d0 i).2.2.2.2.2.2.2.2.1 (faD d0 i).2.2.2.2.2.2.2.2.2 (1 + 7 + 2 * i) ((faD d0 i).2.2.2.2.2.2.2.1 i) ((faD d0 i).2.2.2.2.2.2.2.2.1 i) ((faD d0 i).2.2.2.2.2.2.2.2.2 i)  t1 (by omega) hAx (by omega)) (cwV 1 C.2.2.2.2.1 gX6_findAll_X5_shiftOf rfl rfl rfl (by decide +kernel) ⟨Nat.le_of_ble_eq_true rfl, Nat.le_of_ble_eq_true rfl⟩) rfl rfl (Nat.le_of_ble_eq_true rfl) (Nat.zero_le _) (Nat.zero_le _) dX6_findAll_40 (fun v12 cell12 q12 => ?_)
        obtain ⟨rfl, rfl⟩ := q12
        refine g_eqst (st1 := ([.int (aH d0 i)] : List Value)) (by show [Value.int (aH (faD d0 i) i)] ++ _ = _; rw [faH]; rfl) ?_
        refine g_istore C [(4, .int (aH d0 i)), (3, .ref (adr (1 + 7 + 2 * i))), (0, .ref (adr 0)), (1, .int (nI (cnt (fun k => decide (¬ aH d0 k = 0)) i))), (2, .int (nI i))] (by decide) rfl dX6_findAll_43 ?_
        refine g_aload_n C 1 rfl dX6_findAll_45 ?_
        refine g_ifnull C dX6_findAll_46 ?_
        refine g_iload C 0 rfl dX6_findAll_49 ?_
        refine g_if_eq C 68 (by decide) dX6_findAll_51 (fun c51 => ?_) (fun c51 => ?_)
        · -- taken at 51
          have c51' := i_eq c51
          refine g_iinc C 4 [(2, .int (nI (i + 1))), (4, .int (aH d0 i)), (3, .ref (adr (1 + 7 + 2 * i))), (0, .ref (adr 0)), (1, .int (nI (cnt (fun k => decide (¬ aH d0 k = 0)) i)))] rfl (iinc_nI i) (by decide) rfl dX6_findAll_68 ?_
          refine g_goto C 15 (by decide) dX6_findAll_71 ?_
          have hSz : StAt cl adr kc 1 (faD d0 (i + 1)) := faS t1 (by omega) (by rw [c51, Int32.add_zero]; rw [faQ] at hAx; exact hAx) (fun _ _ => rfl)
          refine g_sub [3, 4, 0] rfl ?_
          have ev_13 : nI (cnt (fun k => decide (¬ aH d0 k = 0)) i) = nI (cnt (fun k => decide (¬ aH d0 k = 0)) (i + 1)) := by first | exact cnt_yes (by simpa using c51) | exact cnt_no (by simpa using c51)
          refine g_eqlv (lv1 := [(0, .ref (adr 0)), (1, .int (nI (cnt (fun k => decide (¬ aH d0 k = 0)) (i + 1)))), (2, .int (nI (i + 1)))]) (congrArg (fun z0 : Int32 => ([(0, .ref (adr 0)), (1, .int z0), (2, .int (nI (i + 1)))] : List (Nat × Value))) ev_13) ?_
          have hx_14 : StAt cl adr kc 1 (faD d0 (i + 1)) := by exact hSz
          exact ih (i + 1) _ (by omega) (by omega) t0 hx_14 t2 t3 t4 t5 t6 
        · -- not taken at 51
          have c51' := i_ne c51
          refine g_aload_n C 1 rfl dX6_findAll_54 ?_
          refine g_aload_n C 1 rfl dX6_findAll_55 ?_
          refine g_Vi C [] (1 + 7 + 2 * i) 0 (by omega) hAx.1 rfl (c_X0_place l D kc N adr cl (1 + 7 + 2 * i) ((faD d0 i).2.2.2.2.2.2.2.1 i) ((faD d0 i).2.2.2.2.2.2.2.2.1 i) ((faD d0 i).2.2.2.2.2.2.2.2.2 i)  hAx (by omega)) (cwV 0 C.2.2.2.2.1 gX6_findAll_X0_place rfl rfl rfl (by decide +kernel) ⟨Nat.le_of_ble_eq_true rfl, Nat.le_of_ble_eq_true rfl⟩) rfl rfl (Nat.le_of_ble_eq_true rfl) (Nat.zero_le _) (Nat.zero_le _) dX6_findAll_56 (fun v15 cell15 q15 => ?_)
          obtain ⟨rfl, rfl⟩ := q15
          refine g_iload C 0 rfl dX6_findAll_59 ?_
          refine g_iadd C dX6_findAll_61 ?_
          refine g_Vv C [.int (((faD d0 i).2.2.2.2.2.2.2.1 i) + (aH d0 i))] (1 + 7 + 2 * i) 0 (by omega) hAx.1 rfl (c_X0_goTo l D kc N adr cl (1 + 7 + 2 * i) ((faD d0 i).2.2.2.2.2.2.2.1 i) ((faD d0 i).2.2.2.2.2.2.2.2.1 i) ((faD d0 i).2.2.2.2.2.2.2.2.2 i) (((faD d0 i).2.2.2.2.2.2.2.1 i) + (aH d0 i)) hAx (by omega)) (cwV 1 C.2.2.2.2.1 gX6_findAll_X0_goTo rfl rfl rfl (by decide +kernel) ⟨Nat.le_of_ble_eq_true rfl, Nat.le_of_ble_eq_true rfl⟩) rfl rfl (Nat.le_of_ble_eq_true rfl) (Nat.zero_le _) (Nat.zero_le _) dX6_findAll_62 (fun cell16 q16 => ?_)
          obtain ⟨ha_18, gf_17⟩ := q16
          have hS_19 : StAt cell16 adr kc 1 (faD d0 (i + 1)) := faS t1 (by omega) (by rw [faQ] at ha_18; exact ha_18) gf_17
          have h_20 : cell16 0 = .inr (6, [.ref (adr 1), .ref (adr 20), .ref (adr 39), .ref (adr 117), .ref (adr 120), .ref (adr 123)]) := (gf_17 0 (by omega)).trans t0
          have h_21 : StAt cell16 adr kc 20 dT := StAt.frame t2 (fun j h1 h2 => gf_17 j (by omega))
          have h_22 : HiAt cell16 adr kc 39 (if hn < 4 then od else (od + 1) % 4) (if hn < 4 then hn + 1 else 4) (updS dh ((od + hn) % 4) dc) := HiAt.frame t3 (fun j h1 h2 => gf_17 j (by omega))
          have h_23 : TxAt cell16 adr kc 117 L sx (nI nx) sg ch nu := TxAt.frame t4 (fun j h1 h2 => gf_17 j (by omega))
          have h_24 : BlAt cell16 adr kc 120 bz Sf Mf := BlAt.frame t5 (fun j h1 h2 => gf_17 j (by omega))
          have h_25 : AncAt cell16 adr kc 123 ap av af := AncAt.frame t6 (fun j h1 h2 => gf_17 j (by omega))
          refine g_iinc C 3 [(1, .int (nI (cnt (fun k => decide (¬ aH d0 k = 0)) i + 1))), (4, .int (aH d0 i)), (3, .ref (adr (1 + 7 + 2 * i))), (0, .ref (adr 0)), (2, .int (nI i))] rfl (iinc_nI (cnt (fun k => decide (¬ aH d0 k = 0)) i)) (by decide) rfl dX6_findAll_65 ?_
          refine g_iinc C 4 [(2, .int (nI (i + 1))), (1, .int (nI (cnt (fun k => decide (¬ aH d0 k = 0)) i + 1))), (4, .int (aH d0 i)), (3, .ref (adr (1 + 7 + 2 * i))), (0, .ref (adr 0))] rfl (iinc_nI i) (by decide) rfl dX6_findAll_68 ?_
          refine g_goto C 15 (by decide) dX6_findAll_71 ?_
          
          refine g_sub [4, 1, 0] rfl ?_
          have ev_26 : nI (cnt (fun k => decide (¬ aH d0 k = 0)) i + 1) = nI (cnt (fun k => decide (¬ aH d0 k = 0)) (i + 1)) := by first | exact cnt_yes (by simpa using c51) | exact cnt_no (by simpa using c51)
          refine g_eqlv (lv1 := [(0, .ref (adr 0)), (1, .int (nI (cnt (fun k => decide (¬ aH d0 k = 0)) (i + 1)))), (2, .int (nI (i + 1)))]) (congrArg (fun z0 : Int32 => ([(0, .ref (adr 0)), (1, .int z0), (2, .int (nI (i + 1)))] : List (Nat × Value))) ev_26) ?_
          have hx_27 : StAt cell16 adr kc 1 (faD d0 (i + 1)) := by exact hS_19
          exact ih (i + 1) _ (by omega) (by omega) h_20 hx_27 h_21 h_22 h_23 h_24 h_25 
  refine g_sub [2, 1, 0] rfl ?_
  have ev_28 : 0 = nI (cnt (fun k => decide (¬ aH d0 k = 0)) 0) := by rfl
  refine g_eqlv (lv1 := [(0, .ref (adr 0)), (1, .int (nI (cnt (fun k => decide (¬ aH d0 k = 0)) 0))), (2, .int 0)]) (congrArg (fun z0 : Int32 => ([(0, .ref (adr 0)), (1, .int z0), (2, .int 0)] : List (Nat × Value))) ev_28) ?_
  have hx_29 : StAt cell1 adr kc 1 (faD d0 0) := by rw [show faD d0 0 = d0 from by simp [faD]]; exact h_5
  exact L15 (d0.2.1 + 1) 0 _ (by omega) (by omega) h_4 hx_29 h_6 hHI_3 h_7 h_8 h_9 
