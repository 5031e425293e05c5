set_option maxRecDepth 100000 in
set_option maxHeartbeats 4000000 in
theorem c_X6_findAll (l : Launch) (D : va_G) (kc : Nat → ClassId) (N : Nat) (adr : Nat → Nat) (cell : Nat → va_E) (σ : SD) (hn : Nat) (hi : Nat → SD) (L : Nat) (ch : Nat → Int32)  (hX : XAt cell adr kc σ hn hi L ch) (hG : Good σ) (hN : 125 ≤ N) : MI l yX6_findAll wsX6_findAll ({ frames := 5, cells := 0, slots := 0, locals := 118 }) D kc N adr cell [.ref (adr 0)] (fun (w0 : Int32) (cell1 : Nat → va_E) => findAllR σ = w0 ∧ XNx cell1 adr kc σ hn hi (findAllO σ) L ch) := by
  refine met_i (cc := cX6_findAll) (maxL := 5) (ret := (some .int)) (by decide) rfl (Nat.le_of_ble_eq_true rfl) (lv := [(0, .ref (adr 0))]) rfl ?_
  intro Pg Ev Sv Mi args below Me Cd Ar C hr hlk hnm
  have in6 : ∀ w ∈ u_ws RX6 TX6 6, w ∈ wsX6_findAll := by decide +kernel
  have f22 := C.2.2.2.2.1 (.fieldLink RX6 22 "WordAnchors" "history" "LWordAnchors$History;") (by decide +kernel)
  have f10 := C.2.2.2.2.1 (.fieldLink RX6 10 "WordAnchors" "now" "LWordAnchors$State;") (by decide +kernel)
  have hX0 := hX
  obtain ⟨x0, ⟨d0, hS, hEq⟩, ⟨dT, hST⟩, ⟨od, dh, hHI, hHE⟩, ⟨sx, nx, sg, nu, hTX⟩, ⟨bz, Sf, Mf, hBL⟩, ⟨ap, av, af, hAN⟩, hch⟩ := hX
  have en := hEq.1
  have em := hEq.2.1
  have hgn := hG.1
  have hgm := hG.2.1
  have hn40 : d0.1 ≤ 40 := hS.2.1.2.2.2.2
  have hm6 : d0.2.1 ≤ 6 := hS.2.2.2.2.2
  have hL60 : L ≤ 60 := hTX.2.2.2
  have hod : od < 4 := hHI.2.2.2.1
  have hh4 : hn ≤ 4 := hHI.2.2.2.2
  have litm1 : ((-1) : Int32).toInt = -1 := rfl
  have lit0 : (0 : Int32).toInt = 0 := rfl
  have lit1 : (1 : Int32).toInt = 1 := rfl
  have tn_d0_1 : (nI d0.1).toInt = ((d0.1 : Nat) : Int) := nI_toInt (by omega)
  have tn_d0_2_1 : (nI d0.2.1).toInt = ((d0.2.1 : Nat) : Int) := nI_toInt (by omega)
  have tn_L : (nI L).toInt = ((L : Nat) : Int) := nI_toInt (by omega)
  have tn_hn : (nI hn).toInt = ((hn : Nat) : Int) := nI_toInt (by omega)
  refine g_aload_n C 0 rfl dX6_findAll_0 ?_
  refine g_get C 0 6 2 (by omega) x0 rfl in6 (by decide) f22 (fun _ h9 => h9) rfl dX6_findAll_1 ?_
  refine g_aload_n C 0 rfl dX6_findAll_4 ?_
  refine g_get C 0 6 0 (by omega) x0 rfl in6 (by decide) f10 (fun _ h9 => h9) rfl dX6_findAll_5 ?_
  refine g_Vv C [.ref (adr 1)] 39 3 (by omega) hHI.1 rfl (c_X3_record l D kc N adr cell 39 od hn dh 1 d0 hHI (by omega) hS (by omega) (by omega)) (cwV 1 C.2.2.2.2.1 gX6_findAll_X3_record rfl rfl rfl (by decide +kernel) ⟨Nat.le_of_ble_eq_true rfl, Nat.le_of_ble_eq_true rfl⟩) rfl rfl (Nat.le_of_ble_eq_true rfl) (Nat.zero_le _) (Nat.zero_le _) dX6_findAll_8 (fun cell1 q1 => ?_)
  obtain ⟨dc, hHI_3, hEc, gf_2⟩ := q1
  have hHE1 := ring_rec hod hh4 hHE (Eqv.tr hEc hEq)
  have h_4 : cell1 0 = .inr (6, [.ref (adr 1), .ref (adr 20), .ref (adr 39), .ref (adr 117), .ref (adr 120), .ref (adr 123)]) := (gf_2 0 (by omega)).trans x0
  have h_5 : StAt cell1 adr kc 1 d0 := StAt.frame hS (fun j h1 h2 => gf_2 j (by omega))
  have h_6 : StAt cell1 adr kc 20 dT := StAt.frame hST (fun j h1 h2 => gf_2 j (by omega))
  have h_7 : TxAt cell1 adr kc 117 L sx (nI nx) sg ch nu := TxAt.frame hTX (fun j h1 h2 => gf_2 j (by omega))
  have h_8 : BlAt cell1 adr kc 120 bz Sf Mf := BlAt.frame hBL (fun j h1 h2 => gf_2 j (by omega))
  have h_9 : AncAt cell1 adr kc 123 ap av af := AncAt.frame hAN (fun j h1 h2 => gf_2 j (by omega))
  refine g_iconst C 0 (by decide) dX6_findAll_11 ?_
  refine g_istore_n C [(1, .int 0), (0, .ref (adr 0))] (by decide) rfl dX6_findAll_12 ?_
  refine g_iconst C 0 (by decide) dX6_findAll_13 ?_
  refine g_istore_n C [(2, .int 0), (1, .int 0), (0, .ref (adr 0))] (by decide) rfl dX6_findAll_14 ?_
  have L15 : ∀ (fu i : Nat) (cl : Nat → va_E) , i ≤ d0.2.1 → d0.2.1 < i + fu → (t0 : cl 0 = .inr (6, [.ref (adr 1), .ref (adr 20), .ref (adr 39), .ref (adr 117), .ref (adr 120), .ref (adr 123)])) → (t1 : StAt cl adr kc 1 (faD d0 i)) → (t2 : StAt cl adr kc 20 dT) → (t3 : HiAt cl adr kc 39 (if hn < 4 then od else (od + 1) % 4) (if hn < 4 then hn + 1 else 4) (updS dh ((od + hn) % 4) dc)) → (t4 : TxAt cl adr kc 117 L sx (nI nx) sg ch nu) → (t5 : BlAt cl adr kc 120 bz Sf Mf) → (t6 : AncAt cl adr kc 123 ap av af) → G Pg l Ev (headSpec wsX6_findAll { frames := 5, cells := 0, slots := 0, locals := 118 }).room Sv Mi args below Me Cd D N adr Ar Sv.heap 5 0 0 (MQ below (va_Qi (fun (w0 : Int32) (cell1 : Nat → va_E) => findAllR σ = w0 ∧ XNx cell1 adr kc σ hn hi (findAllO σ) L ch) (fun (cell1 : Nat → va_E) (t : State) => va_P D vwCl (wld N adr cell1) t.heap) Ar) args Sv 0 0 Ar) cl 15 [(0, .ref (adr 0)), (1, .int (nI (cnt (fun k => decide (¬ aH d0 k = 0)) i))), (2, .int (nI i))] ([] : List Value) := by
    intro fu
    induction fu with
    | zero => intro i cl  hle hfu; exact absurd hfu (by omega)
    | succ fu ih =>
      intro i cl  hle15 hfu15 t0 t1 t2 t3 t4 t5 t6 
      have tn_i : (nI i).toInt = ((i : Nat) : Int) := nI_toInt (by omega)
      have hfd : (nI (faD d0 i).2.1).toInt = ((d0.2.1 : Nat) : Int) := nI_toInt (n := d0.2.1) (by omega)
      refine g_iload_n C 2 rfl dX6_findAll_15 ?_
      refine g_aload_n C 0 rfl dX6_findAll_16 ?_
      refine g_get C 0 6 0 (by omega) t0 rfl in6 (by decide) f10 (fun _ h9 => h9) rfl dX6_findAll_17 ?_
      refine g_Vi C [] 1 5 (by omega) t1.1 rfl (c_X5_anchorCount l D kc N adr cl 1 (faD d0 i).1 (faD d0 i).2.1 (faD d0 i).2.2.1 (faD d0 i).2.2.2.1 (faD d0 i).2.2.2.2.1 (faD d0 i).2.2.2.2.2.1 (faD d0 i).2.2.2.2.2.2.1 (faD d0 i).2.2.2.2.2.2.2.1 (faD d0 i).2.2.2.2.2.2.2.2.1 (faD d0 i).2.2.2.2.2.2.2.2.2  t1 (by omega)) (cwV 0 C.2.2.2.2.1 gX6_findAll_X5_anchorCount rfl rfl rfl (by decide +kernel) ⟨Nat.le_of_ble_eq_true rfl, Nat.le_of_ble_eq_true rfl⟩) rfl rfl (Nat.le_of_ble_eq_true rfl) (Nat.zero_le _) (Nat.zero_le _) dX6_findAll_20 (fun v10 cell10 q10 => ?_)
      obtain ⟨rfl, rfl⟩ := q10
      refine g_icmp_ge C 74 (by decide) dX6_findAll_23 (fun c23 => ?_) (fun c23 => ?_)
      · -- taken at 23
        have c23' := i_le c23
        obtain rfl : i = d0.2.1 := by omega
        refine g_iload_n C 1 rfl dX6_findAll_74 ?_
        refine g_iret C hr rfl hlk dX6_findAll_75 ?_
        refine ⟨?_, XNx.yes rfl ⟨t0, ⟨_, t1, (by rw [em]; exact fa_eqv hEq)⟩, ⟨_, t2⟩, ⟨_, _, t3, hHE1⟩, ⟨_, _, _, _, t4⟩, ⟨_, _, _, t5⟩, ⟨_, _, _, t6⟩, hch⟩⟩
        unfold findAllR; rw [em]; exact congrArg nI (cnt_cong (fun i hi1 => by show decide (¬ aH σ i = 0) = decide (¬ aH d0 i = 0); rw [eH hEq hi1]))
      · -- not taken at 23
        have c23' := i_nle c23
        refine g_aload_n C 0 rfl dX6_findAll_26 ?_
        refine g_get C 0 6 0 (by omega) t0 rfl in6 (by decide) f10 (fun _ h9 => h9) rfl dX6_findAll_27 ?_
        refine g_iload_n C 2 rfl dX6_findAll_30 ?_
        refine g_Vq C [.int (nI i)] 1 5 (by omega) t1.1 rfl (c_X5_anchorNumbered l D kc N adr cl 1 (faD d0 i).1 (faD d0 i).2.1 (faD d0 i).2.2.1 (faD d0 i).2.2.2.1 (faD d0 i).2.2.2.2.1 (faD d0 i).2.2.2.2.2.1 (faD d0 i).2.2.2.2.2.2.1 (faD d0 i).2.2.2.2.2.2.2.1 (faD d0 i).2.2.2.2.2.2.2.2.1 (faD d0 i).2.2.2.2.2.2.2.2.2 (nI i) t1 (by omega)) (cwV 1 C.2.2.2.2.1 gX6_findAll_X5_anchorNumbered rfl rfl rfl (by decide +kernel) ⟨Nat.le_of_ble_eq_true rfl, Nat.le_of_ble_eq_true rfl⟩) rfl rfl (Nat.le_of_ble_eq_true rfl) (Nat.zero_le _) (Nat.zero_le _) dX6_findAll_31 (fun v11 cell11 q11 => ?_)
        obtain ⟨rfl, rfl⟩ := q11
        have hAx : AncAt cl adr kc (1 + 7 + 2 * i) ((faD d0 i).2.2.2.2.2.2.2.1 i) ((faD d0 i).2.2.2.2.2.2.2.2.1 i) ((faD d0 i).2.2.2.2.2.2.2.2.2 i) := t1.2.2.2.2.1 i (by omega)
        refine g_eqst (st1 := ([.ref (adr (1 + 7 + 2 * i))] : List Value)) (by rw [if_pos (by rw [nI_toInt (by omega)]; show 0 ≤ (i : Int) ∧ (i : Int) < d0.2.1; omega), nI_clamp (by omega)]; rfl) ?_
        refine g_astore_n C [(3, .ref (adr (1 + 7 + 2 * i))), (0, .ref (adr 0)), (1, .int (nI (cnt (fun k => decide (¬ aH d0 k = 0)) i))), (2, .int (nI i))] (by decide) rfl dX6_findAll_34 ?_
        refine g_aload_n C 1 rfl dX6_findAll_35 ?_
        refine g_get C 0 6 0 (by omega) t0 rfl in6 (by decide) f10 (fun _ h9 => h9) rfl dX6_findAll_36 ?_
        refine g_aload_n C 0 rfl dX6_findAll_39 ?_
        refine g_Vi C [.ref (adr (1 + 7 + 2 * i))] 1 5 (by omega) t1.1 rfl (c_X5_shiftOf l D kc N adr cl 1 (faD d0 i).1 (faD d0 i).2.1 (faD d0 i).2.2.1 (faD d0 i).2.2.2.1 (faD d0 i).2.2.2.2.1 (faD d0 i).2.2.2.2.2.1 (faD d0 i).2.2.2.2.2.2.1 (faD d0 i).2.2.2.2.2.2.2.1 (faD d0 i).2.2.2.2.2.2.2.2.1 (faD d0 i).2.2.2.2.2.2.2.2.2 (1 + 7 + 2 * i) ((faD d0 i).2.2.2.2.2.2.2.1 i) ((faD d0 i).2.2.2.2.2.2.2.2.1 i) ((faD d0 i).2.2.2.2.2.2.2.2.2 i)  t1 (by omega) hAx (by omega)) (cwV 1 C.2.2.2.2.1 gX6_findAll_X5_shiftOf rfl rfl rfl (by decide +kernel) ⟨Nat.le_of_ble_eq_true rfl, Nat.le_of_ble_eq_true rfl⟩) rfl rfl (Nat.le_of_ble_eq_true rfl) (Nat.zero_le _) (Nat.zero_le _) dX6_findAll_40 (fun v12 cell12 q12 => ?_)
        obtain ⟨rfl, rfl⟩ := q12
        refine g_eqst (st1 := ([.int (aH d0 i)] : List Value)) (by show [Value.int (aH (faD d0 i) i)] ++ _ = _; rw [faH]; rfl) ?_
        refine g_istore C [(4, .int (aH d0 i)), (3, .ref (adr (1 + 7 + 2 * i))), (0, .ref (adr 0)), (1, .int (nI (cnt (fun k => decide (¬ aH d0 k = 0)) i))), (2, .int (nI i))] (by decide) rfl dX6_findAll_43 ?_
        refine g_aload_n C 1 rfl dX6_findAll_45 ?_
        refine g_ifnull C dX6_findAll_46 ?_
        refine g_iload C 0 rfl dX6_findAll_49 ?_
        refine g_if_eq C 68 (by decide) dX6_findAll_51 (fun c51 => ?_) (fun c51 => ?_)
        · -- taken at 51
          have c51' := i_eq c51
          refine g_iinc C 4 [(2, .int (nI (i + 1))), (4, .int (aH d0 i)), (3, .ref (adr (1 + 7 + 2 * i))), (0, .ref (adr 0)), (1, .int (nI (cnt (fun k => decide (¬ aH d0 k = 0)) i)))] rfl (iinc_nI i) (by decide) rfl dX6_findAll_68 ?_
          refine g_goto C 15 (by decide) dX6_findAll_71 ?_
          have hSz : StAt cl adr kc 1 (faD d0 (i + 1)) := faS t1 (by omega) (by rw [c51, Int32.add_zero]; rw [faQ] at hAx; exact hAx) (fun _ _ => rfl)
          refine g_sub [3, 4, 0] rfl ?_
          have ev_13 : nI (cnt (fun k => decide (¬ aH d0 k = 0)) i) = nI (cnt (fun k => decide (¬ aH d0 k = 0)) (i + 1)) := by first | exact cnt_yes (by simpa using c51) | exact cnt_no (by simpa using c51)
          refine g_eqlv (lv1 := [(0, .ref (adr 0)), (1, .int (nI (cnt (fun k => decide (¬ aH d0 k = 0)) (i + 1)))), (2, .int (nI (i + 1)))]) (congrArg (fun z0 : Int32 => ([(0, .ref (adr 0)), (1, .int z0), (2, .int (nI (i + 1)))] : List (Nat × Value))) ev_13) ?_
          have hx_14 : StAt cl adr kc 1 (faD d0 (i + 1)) := by exact hSz
          exact ih (i + 1) _ (by omega) (by omega) t0 hx_14 t2 t3 t4 t5 t6 
        · -- not taken at 51
          have c51' := i_ne c51
          refine g_aload_n C 1 rfl dX6_findAll_54 ?_
          refine g_aload_n C 1 rfl dX6_findAll_55 ?_
          refine g_Vi C [] (1 + 7 + 2 * i) 0 (by omega) hAx.1 rfl (c_X0_place l D kc N adr cl (1 + 7 + 2 * i) ((faD d0 i).2.2.2.2.2.2.2.1 i) ((faD d0 i).2.2.2.2.2.2.2.2.1 i) ((faD d0 i).2.2.2.2.2.2.2.2.2 i)  hAx (by omega)) (cwV 0 C.2.2.2.2.1 gX6_findAll_X0_place rfl rfl rfl (by decide +kernel) ⟨Nat.le_of_ble_eq_true rfl, Nat.le_of_ble_eq_true rfl⟩) rfl rfl (Nat.le_of_ble_eq_true rfl) (Nat.zero_le _) (Nat.zero_le _) dX6_findAll_56 (fun v15 cell15 q15 => ?_)
          obtain ⟨rfl, rfl⟩ := q15
          refine g_iload C 0 rfl dX6_findAll_59 ?_
          refine g_iadd C dX6_findAll_61 ?_
          refine g_Vv C [.int (((faD d0 i).2.2.2.2.2.2.2.1 i) + (aH d0 i))] (1 + 7 + 2 * i) 0 (by omega) hAx.1 rfl (c_X0_goTo l D kc N adr cl (1 + 7 + 2 * i) ((faD d0 i).2.2.2.2.2.2.2.1 i) ((faD d0 i).2.2.2.2.2.2.2.2.1 i) ((faD d0 i).2.2.2.2.2.2.2.2.2 i) (((faD d0 i).2.2.2.2.2.2.2.1 i) + (aH d0 i)) hAx (by omega)) (cwV 1 C.2.2.2.2.1 gX6_findAll_X0_goTo rfl rfl rfl (by decide +kernel) ⟨Nat.le_of_ble_eq_true rfl, Nat.le_of_ble_eq_true rfl⟩) rfl rfl (Nat.le_of_ble_eq_true rfl) (Nat.zero_le _) (Nat.zero_le _) dX6_findAll_62 (fun cell16 q16 => ?_)
          obtain ⟨ha_18, gf_17⟩ := q16
          have hS_19 : StAt cell16 adr kc 1 (faD d0 (i + 1)) := faS t1 (by omega) (by rw [faQ] at ha_18; exact ha_18) gf_17
          have h_20 : cell16 0 = .inr (6, [.ref (adr 1), .ref (adr 20), .ref (adr 39), .ref (adr 117), .ref (adr 120), .ref (adr 123)]) := (gf_17 0 (by omega)).trans t0
          have h_21 : StAt cell16 adr kc 20 dT := StAt.frame t2 (fun j h1 h2 => gf_17 j (by omega))
          have h_22 : HiAt cell16 adr kc 39 (if hn < 4 then od else (od + 1) % 4) (if hn < 4 then hn + 1 else 4) (updS dh ((od + hn) % 4) dc) := HiAt.frame t3 (fun j h1 h2 => gf_17 j (by omega))
          have h_23 : TxAt cell16 adr kc 117 L sx (nI nx) sg ch nu := TxAt.frame t4 (fun j h1 h2 => gf_17 j (by omega))
          have h_24 : BlAt cell16 adr kc 120 bz Sf Mf := BlAt.frame t5 (fun j h1 h2 => gf_17 j (by omega))
          have h_25 : AncAt cell16 adr kc 123 ap av af := AncAt.frame t6 (fun j h1 h2 => gf_17 j (by omega))
          refine g_iinc C 3 [(1, .int (nI (cnt (fun k => decide (¬ aH d0 k = 0)) i + 1))), (4, .int (aH d0 i)), (3, .ref (adr (1 + 7 + 2 * i))), (0, .ref (adr 0)), (2, .int (nI i))] rfl (iinc_nI (cnt (fun k => decide (¬ aH d0 k = 0)) i)) (by decide) rfl dX6_findAll_65 ?_
          refine g_iinc C 4 [(2, .int (nI (i + 1))), (1, .int (nI (cnt (fun k => decide (¬ aH d0 k = 0)) i + 1))), (4, .int (aH d0 i)), (3, .ref (adr (1 + 7 + 2 * i))), (0, .ref (adr 0))] rfl (iinc_nI i) (by decide) rfl dX6_findAll_68 ?_
          refine g_goto C 15 (by decide) dX6_findAll_71 ?_
          
          refine g_sub [4, 1, 0] rfl ?_
          have ev_26 : nI (cnt (fun k => decide (¬ aH d0 k = 0)) i + 1) = nI (cnt (fun k => decide (¬ aH d0 k = 0)) (i + 1)) := by first | exact cnt_yes (by simpa using c51) | exact cnt_no (by simpa using c51)
          refine g_eqlv (lv1 := [(0, .ref (adr 0)), (1, .int (nI (cnt (fun k => decide (¬ aH d0 k = 0)) (i + 1)))), (2, .int (nI (i + 1)))]) (congrArg (fun z0 : Int32 => ([(0, .ref (adr 0)), (1, .int z0), (2, .int (nI (i + 1)))] : List (Nat × Value))) ev_26) ?_
          have hx_27 : StAt cell16 adr kc 1 (faD d0 (i + 1)) := by exact hS_19
          exact ih (i + 1) _ (by omega) (by omega) h_20 hx_27 h_21 h_22 h_23 h_24 h_25 
  refine g_sub [2, 1, 0] rfl ?_
  have ev_28 : 0 = nI (cnt (fun k => decide (¬ aH d0 k = 0)) 0) := by rfl
  refine g_eqlv (lv1 := [(0, .ref (adr 0)), (1, .int (nI (cnt (fun k => decide (¬ aH d0 k = 0)) 0))), (2, .int 0)]) (congrArg (fun z0 : Int32 => ([(0, .ref (adr 0)), (1, .int z0), (2, .int 0)] : List (Nat × Value))) ev_28) ?_
  have hx_29 : StAt cell1 adr kc 1 (faD d0 0) := by rw [show faD d0 0 = d0 from by simp [faD]]; exact h_5
  exact L15 (d0.2.1 + 1) 0 _ (by omega) (by omega) h_4 hx_29 h_6 hHI_3 h_7 h_8 h_9 
set_option maxRecDepth 100000 in
set_option maxHeartbeats 4000000 in
theorem c_X6_tryTaking (l : Launch) (D : va_G) (kc : Nat → ClassId) (N : Nat) (adr : Nat → Nat) (cell : Nat → va_E) (d0 dT : SD) (z : Nat) (x0 : cell 0 = .inr (6, [.ref (adr 1), .ref (adr 20), .ref (adr 39), .ref (adr 117), .ref (adr 120), .ref (adr 123)])) (hS : StAt cell adr kc 1 d0) (hST : StAt cell adr kc 20 dT) (hz : z < d0.1) (hN : 125 ≤ N) : MV l yX6_tryTaking wsX6_tryTaking ({ frames := 4, cells := 0, slots := 0, locals := 89 }) D kc N adr cell [.ref (adr 0), .int (nI z)] (fun (cell1 : Nat → va_E) => (∃ d1 : SD, StAt cell1 adr kc 20 d1 ∧ ∀ σ : SD, Eqv d0 σ → Good σ → Eqv d1 (remD z σ)) ∧ ∀ j : Nat, (j < 20 ∨ 39 ≤ j) → cell1 j = cell j) := by
  refine met_v (cc := cX6_tryTaking) (maxL := 2) (ret := none) (by decide) rfl (Nat.le_of_ble_eq_true rfl) (lv := [(0, .ref (adr 0)), (1, .int (nI z))]) rfl ?_
  intro Pg Ev Sv Mi args below Me Cd Ar C hr hlk hnm
  have in6 : ∀ w ∈ u_ws RX6 TX6 6, w ∈ wsX6_tryTaking := by decide +kernel
  have f16 := C.2.2.2.2.1 (.fieldLink RX6 16 "WordAnchors" "trial" "LWordAnchors$State;") (by decide +kernel)
  have f10 := C.2.2.2.2.1 (.fieldLink RX6 10 "WordAnchors" "now" "LWordAnchors$State;") (by decide +kernel)
  have hn40 : d0.1 ≤ 40 := hS.2.1.2.2.2.2
  have hm6 : d0.2.1 ≤ 6 := hS.2.2.2.2.2
  have litm1 : ((-1) : Int32).toInt = -1 := rfl
  have lit0 : (0 : Int32).toInt = 0 := rfl
  have lit1 : (1 : Int32).toInt = 1 := rfl
  refine g_aload_n C 0 rfl dX6_tryTaking_0 ?_
  refine g_get C 0 6 1 (by omega) x0 rfl in6 (by decide) f16 (fun _ h9 => h9) rfl dX6_tryTaking_1 ?_
  refine g_aload_n C 0 rfl dX6_tryTaking_4 ?_
  refine g_get C 0 6 0 (by omega) x0 rfl in6 (by decide) f10 (fun _ h9 => h9) rfl dX6_tryTaking_5 ?_
  refine g_Vv C [.ref (adr 1)] 20 5 (by omega) hST.1 rfl (c_X5_copyFrom l D kc N adr cell 20 dT.1 dT.2.1 dT.2.2.1 dT.2.2.2.1 dT.2.2.2.2.1 dT.2.2.2.2.2.1 dT.2.2.2.2.2.2.1 dT.2.2.2.2.2.2.2.1 dT.2.2.2.2.2.2.2.2.1 dT.2.2.2.2.2.2.2.2.2 1 d0.1 d0.2.1 d0.2.2.1 d0.2.2.2.1 d0.2.2.2.2.1 d0.2.2.2.2.2.1 d0.2.2.2.2.2.2.1 d0.2.2.2.2.2.2.2.1 d0.2.2.2.2.2.2.2.2.1 d0.2.2.2.2.2.2.2.2.2 hST (by omega) hS (by omega) (by omega)) (cwV 1 C.2.2.2.2.1 gX6_tryTaking_X5_copyFrom rfl rfl rfl (by decide +kernel) ⟨Nat.le_of_ble_eq_true rfl, Nat.le_of_ble_eq_true rfl⟩) rfl rfl (Nat.le_of_ble_eq_true rfl) (Nat.zero_le _) (Nat.zero_le _) dX6_tryTaking_8 (fun cell1 q1 => ?_)
  obtain ⟨hS_4, gf_2⟩ := q1
  obtain ⟨d_3, hS_5, hE_6⟩ : ∃ d9 : SD, StAt cell1 adr kc 20 d9 ∧ Eqv d9 (d0) := ⟨_, hS_4, cp_eqv hn40 hm6⟩
  have h_7 : cell1 0 = .inr (6, [.ref (adr 1), .ref (adr 20), .ref (adr 39), .ref (adr 117), .ref (adr 120), .ref (adr 123)]) := (gf_2 0 (by omega)).trans x0
  have h_8 : StAt cell1 adr kc 1 d0 := StAt.frame hS (fun j h1 h2 => gf_2 j (by omega))
  have fr_9 : ∀ j : Nat, (j < 20 ∨ 39 ≤ j) → cell1 j = cell j := fun j hj => gf_2 j (by omega)
  refine g_aload_n C 0 rfl dX6_tryTaking_11 ?_
  refine g_get C 0 6 1 (by omega) h_7 rfl in6 (by decide) f16 (fun _ h9 => h9) rfl dX6_tryTaking_12 ?_
  refine g_iload_n C 1 rfl dX6_tryTaking_15 ?_
  refine g_Vv C [.int (nI z)] 20 5 (by omega) hS_5.1 rfl (c_X5_removeWord l D kc N adr cell1 20 d_3.1 d_3.2.1 d_3.2.2.1 d_3.2.2.2.1 d_3.2.2.2.2.1 d_3.2.2.2.2.2.1 d_3.2.2.2.2.2.2.1 d_3.2.2.2.2.2.2.2.1 d_3.2.2.2.2.2.2.2.2.1 d_3.2.2.2.2.2.2.2.2.2 z hS_5 (by omega) (by have h9 := hE_6.1; omega)) (cwV 1 C.2.2.2.2.1 gX6_tryTaking_X5_removeWord rfl rfl rfl (by decide +kernel) ⟨Nat.le_of_ble_eq_true rfl, Nat.le_of_ble_eq_true rfl⟩) rfl rfl (Nat.le_of_ble_eq_true rfl) (Nat.zero_le _) (Nat.zero_le _) dX6_tryTaking_16 (fun cell10 q10 => ?_)
  obtain ⟨d_12, hS_13, hE_14, gf_11⟩ := rem_new (by have h9 := hE_6.1; omega) q10
  have h_15 : cell10 0 = .inr (6, [.ref (adr 1), .ref (adr 20), .ref (adr 39), .ref (adr 117), .ref (adr 120), .ref (adr 123)]) := (gf_11 0 (by omega)).trans h_7
  have h_16 : StAt cell10 adr kc 1 d0 := StAt.frame h_8 (fun j h1 h2 => gf_11 j (by omega))
  have fr_17 : ∀ j : Nat, (j < 20 ∨ 39 ≤ j) → cell10 j = cell j := fun j hj => (gf_11 j (by omega)).trans (fr_9 j hj)
  refine g_vret C hr hlk dX6_tryTaking_19 ?_
  exact ⟨⟨_, hS_13, fun σ h hg => hE_14 σ (Eqv.tr hE_6 h) hg⟩, fr_17⟩
set_option maxRecDepth 100000 in
set_option maxHeartbeats 4000000 in
theorem c_X6_wouldTake (l : Launch) (D : va_G) (kc : Nat → ClassId) (N : Nat) (adr : Nat → Nat) (cell : Nat → va_E) (σ : SD) (hn : Nat) (hi : Nat → SD) (L : Nat) (ch : Nat → Int32) (x y : Int32) (hX : XAt cell adr kc σ hn hi L ch) (hG : Good σ) (hN : 125 ≤ N) : MI l yX6_wouldTake wsX6_wouldTake ({ frames := 6, cells := 0, slots := 0, locals := 145 }) D kc N adr cell [.ref (adr 0), .int x, .int y] (fun (w0 : Int32) (cell1 : Nat → va_E) => wouldTakeR σ x y = w0 ∧ XAt cell1 adr kc σ hn hi L ch) := by
  refine met_i (cc := cX6_wouldTake) (maxL := 3) (ret := (some .int)) (by decide) rfl (Nat.le_of_ble_eq_true rfl) (lv := [(0, .ref (adr 0)), (1, .int x), (2, .int y)]) rfl ?_
  intro Pg Ev Sv Mi args below Me Cd Ar C hr hlk hnm
  have in5 : ∀ w ∈ u_ws RX5 TX5 5, w ∈ wsX6_wouldTake := by decide +kernel
  have in6 : ∀ w ∈ u_ws RX6 TX6 6, w ∈ wsX6_wouldTake := by decide +kernel
  have f10 := C.2.2.2.2.1 (.fieldLink RX6 10 "WordAnchors" "now" "LWordAnchors$State;") (by decide +kernel)
  have f47 := C.2.2.2.2.1 (.fieldLink RX6 47 "WordAnchors$State" "row" "LWordAnchors$Row;") (by decide +kernel)
  have k60 := C.2.2.2.2.1 (.constant RX6 60 (-1000001)) (by decide +kernel)
  have f16 := C.2.2.2.2.1 (.fieldLink RX6 16 "WordAnchors" "trial" "LWordAnchors$State;") (by decide +kernel)
  have hX0 := hX
  obtain ⟨x0, ⟨d0, hS, hEq⟩, ⟨dT, hST⟩, ⟨od, dh, hHI, hHE⟩, ⟨sx, nx, sg, nu, hTX⟩, ⟨bz, Sf, Mf, hBL⟩, ⟨ap, av, af, hAN⟩, hch⟩ := hX
  have en := hEq.1
  have em := hEq.2.1
  have hgn := hG.1
  have hgm := hG.2.1
  have hn40 : d0.1 ≤ 40 := hS.2.1.2.2.2.2
  have hm6 : d0.2.1 ≤ 6 := hS.2.2.2.2.2
  have hL60 : L ≤ 60 := hTX.2.2.2
  have hod : od < 4 := hHI.2.2.2.1
  have hh4 : hn ≤ 4 := hHI.2.2.2.2
  have litm1000001 : ((-1000001) : Int32).toInt = -1000001 := rfl
  have litm1 : ((-1) : Int32).toInt = -1 := rfl
  have lit0 : (0 : Int32).toInt = 0 := rfl
  have lit1 : (1 : Int32).toInt = 1 := rfl
  have lit2 : (2 : Int32).toInt = 2 := rfl
  have lit3 : (3 : Int32).toInt = 3 := rfl
  have tn_d0_1 : (nI d0.1).toInt = ((d0.1 : Nat) : Int) := nI_toInt (by omega)
  have tn_d0_2_1 : (nI d0.2.1).toInt = ((d0.2.1 : Nat) : Int) := nI_toInt (by omega)
  have tn_L : (nI L).toInt = ((L : Nat) : Int) := nI_toInt (by omega)
  have tn_hn : (nI hn).toInt = ((hn : Nat) : Int) := nI_toInt (by omega)
  refine g_aload_n C 0 rfl dX6_wouldTake_0 ?_
  refine g_get C 0 6 0 (by omega) x0 rfl in6 (by decide) f10 (fun _ h9 => h9) rfl dX6_wouldTake_1 ?_
  refine g_get C 1 5 0 (by omega) hS.1 rfl in5 (by decide) f47 (fun _ h9 => h9) rfl dX6_wouldTake_4 ?_
  refine g_iload_n C 1 rfl dX6_wouldTake_7 ?_
  refine g_Vi C [.int x] (1 + 1) 4 (by omega) hS.2.1.1 rfl (c_X4_holds l D kc N adr cell (1 + 1) d0.2.2.2.1 d0.2.2.2.2.1 d0.2.2.2.2.2.1 d0.1 x hS.2.1 (by omega)) (cwV 1 C.2.2.2.2.1 gX6_wouldTake_X4_holds rfl rfl rfl (by decide +kernel) ⟨Nat.le_of_ble_eq_true rfl, Nat.le_of_ble_eq_true rfl⟩) rfl rfl (Nat.le_of_ble_eq_true rfl) (Nat.zero_le _) (Nat.zero_le _) dX6_wouldTake_8 (fun v1 cell1 q1 => ?_)
  obtain ⟨rfl, rfl⟩ := q1
  refine g_if_eq C 23 (by decide) dX6_wouldTake_11 (fun c11 => ?_) (fun c11 => ?_)
  · -- taken at 11
    have c11' := bI_f c11
    refine g_ldc C (-1000001) k60 dX6_wouldTake_23 ?_
    refine g_iret C hr rfl hlk dX6_wouldTake_25 ?_
    exact ⟨by unfold wouldTakeR; exact if_pos (by omega), hX0⟩
  · -- not taken at 11
    have c11' := bI_t c11
    refine g_iload_n C 2 rfl dX6_wouldTake_14 ?_
    refine g_if_lt C 23 (by decide) dX6_wouldTake_15 (fun c15 => ?_) (fun c15 => ?_)
    · -- taken at 15
      have c15' := i_lt c15
      refine g_ldc C (-1000001) k60 dX6_wouldTake_23 ?_
      refine g_iret C hr rfl hlk dX6_wouldTake_25 ?_
      exact ⟨by unfold wouldTakeR; exact if_pos (by omega), hX0⟩
    · -- not taken at 15
      have c15' := i_nlt c15
      refine g_iload_n C 2 rfl dX6_wouldTake_18 ?_
      refine g_iconst C 1 (by decide) dX6_wouldTake_19 ?_
      refine g_icmp_le C 26 (by decide) dX6_wouldTake_20 (fun c20 => ?_) (fun c20 => ?_)
      · -- taken at 20
        have c20' := i_le c20
        have ez : x = nI x.toNatClampNeg := nI_cl (by omega)
        have kz := cl_toInt (x := x) (by omega)
        generalize hzz : x.toNatClampNeg = z at ez kz
        refine g_eqlv (lv1 := [(0, .ref (adr 0)), (1, .int (nI z)), (2, .int y)]) (congrArg (fun z0 : Int32 => ([(0, .ref (adr 0)), (1, .int z0), (2, .int y)] : List (Nat × Value))) ez) ?_
        refine g_aload_n C 0 rfl dX6_wouldTake_26 ?_
        refine g_iload_n C 1 rfl dX6_wouldTake_27 ?_
        refine g_Vv C [.int (nI z)] 0 6 (by omega) x0 rfl (c_X6_tryTaking l D kc N adr cell d0 dT z x0 hS hST (by omega) (by omega)) (cwV 1 C.2.2.2.2.1 gX6_wouldTake_X6_tryTaking rfl rfl rfl (by decide +kernel) ⟨Nat.le_of_ble_eq_true rfl, Nat.le_of_ble_eq_true rfl⟩) rfl rfl (Nat.le_of_ble_eq_true rfl) (Nat.zero_le _) (Nat.zero_le _) dX6_wouldTake_28 (fun cell2 q2 => ?_)
        obtain ⟨⟨dT_4, hST_5, hET_6⟩, gf_3⟩ := q2
        have h_7 : cell2 0 = .inr (6, [.ref (adr 1), .ref (adr 20), .ref (adr 39), .ref (adr 117), .ref (adr 120), .ref (adr 123)]) := (gf_3 0 (by omega)).trans x0
        have h_8 : StAt cell2 adr kc 1 d0 := StAt.frame hS (fun j h1 h2 => gf_3 j (by omega))
        have h_9 : HiAt cell2 adr kc 39 od hn dh := HiAt.frame hHI (fun j h1 h2 => gf_3 j (by omega))
        have h_10 : TxAt cell2 adr kc 117 L sx (nI nx) sg ch nu := TxAt.frame hTX (fun j h1 h2 => gf_3 j (by omega))
        have h_11 : BlAt cell2 adr kc 120 bz Sf Mf := BlAt.frame hBL (fun j h1 h2 => gf_3 j (by omega))
        have h_12 : AncAt cell2 adr kc 123 ap av af := AncAt.frame hAN (fun j h1 h2 => gf_3 j (by omega))
        refine g_aload_n C 0 rfl dX6_wouldTake_31 ?_
        refine g_get C 0 6 1 (by omega) h_7 rfl in6 (by decide) f16 (fun _ h9 => h9) rfl dX6_wouldTake_32 ?_
        refine g_iload_n C 2 rfl dX6_wouldTake_35 ?_
        refine g_if_ne C 43 (by decide) dX6_wouldTake_36 (fun c36 => ?_) (fun c36 => ?_)
        · -- taken at 36
          have c36' := i_ne c36
          refine g_iconst C 3 (by decide) dX6_wouldTake_43 ?_
          refine g_Vi C [.int 3] 20 5 (by omega) hST_5.1 rfl (c_X5_anchorsOfKind l D kc N adr cell2 20 dT_4.1 dT_4.2.1 dT_4.2.2.1 dT_4.2.2.2.1 dT_4.2.2.2.2.1 dT_4.2.2.2.2.2.1 dT_4.2.2.2.2.2.2.1 dT_4.2.2.2.2.2.2.2.1 dT_4.2.2.2.2.2.2.2.2.1 dT_4.2.2.2.2.2.2.2.2.2 3 hST_5 (by omega)) (cwV 1 C.2.2.2.2.1 gX6_wouldTake_X5_anchorsOfKind rfl rfl rfl (by decide +kernel) ⟨Nat.le_of_ble_eq_true rfl, Nat.le_of_ble_eq_true rfl⟩) rfl rfl (Nat.le_of_ble_eq_true rfl) (Nat.zero_le _) (Nat.zero_le _) dX6_wouldTake_44 (fun v13 cell13 q13 => ?_)
          obtain ⟨rfl, rfl⟩ := q13
          refine g_iret C hr rfl hlk dX6_wouldTake_47 ?_
          have hET1 := hET_6 σ hEq hG
          have emT : dT_4.2.1 = σ.2.1 := hET1.2.1
          exact ⟨by unfold wouldTakeR; rw [if_neg (by omega), if_neg c36, hzz, knd_aKs, emT]; exact (eKs hET1 3 _ (Nat.le_refl _)).symm, ⟨h_7, ⟨_, h_8, hEq⟩, ⟨_, hST_5⟩, ⟨_, _, h_9, hHE⟩, ⟨_, _, _, _, h_10⟩, ⟨_, _, _, h_11⟩, ⟨_, _, _, h_12⟩, hch⟩⟩
        · -- not taken at 36
          have c36' := i_eq c36
          refine g_iconst C 2 (by decide) dX6_wouldTake_39 ?_
          refine g_goto C 44 (by decide) dX6_wouldTake_40 ?_
          refine g_Vi C [.int 2] 20 5 (by omega) hST_5.1 rfl (c_X5_anchorsOfKind l D kc N adr cell2 20 dT_4.1 dT_4.2.1 dT_4.2.2.1 dT_4.2.2.2.1 dT_4.2.2.2.2.1 dT_4.2.2.2.2.2.1 dT_4.2.2.2.2.2.2.1 dT_4.2.2.2.2.2.2.2.1 dT_4.2.2.2.2.2.2.2.2.1 dT_4.2.2.2.2.2.2.2.2.2 2 hST_5 (by omega)) (cwV 1 C.2.2.2.2.1 gX6_wouldTake_X5_anchorsOfKind rfl rfl rfl (by decide +kernel) ⟨Nat.le_of_ble_eq_true rfl, Nat.le_of_ble_eq_true rfl⟩) rfl rfl (Nat.le_of_ble_eq_true rfl) (Nat.zero_le _) (Nat.zero_le _) dX6_wouldTake_44 (fun v14 cell14 q14 => ?_)
          obtain ⟨rfl, rfl⟩ := q14
          refine g_iret C hr rfl hlk dX6_wouldTake_47 ?_
          have hET1 := hET_6 σ hEq hG
          have emT : dT_4.2.1 = σ.2.1 := hET1.2.1
          exact ⟨by unfold wouldTakeR; rw [if_neg (by omega), if_pos c36, hzz, knd_aKs, emT]; exact (eKs hET1 2 _ (Nat.le_refl _)).symm, ⟨h_7, ⟨_, h_8, hEq⟩, ⟨_, hST_5⟩, ⟨_, _, h_9, hHE⟩, ⟨_, _, _, _, h_10⟩, ⟨_, _, _, h_11⟩, ⟨_, _, _, h_12⟩, hch⟩⟩
      · -- not taken at 20
        have c20' := i_nle c20
        refine g_ldc C (-1000001) k60 dX6_wouldTake_23 ?_
        refine g_iret C hr rfl hlk dX6_wouldTake_25 ?_
        exact ⟨by unfold wouldTakeR; exact if_pos (by omega), hX0⟩
set_option maxRecDepth 100000 in
set_option maxHeartbeats 4000000 in
theorem c_X6_safest (l : Launch) (D : va_G) (kc : Nat → ClassId) (N : Nat) (adr : Nat → Nat) (cell : Nat → va_E) (σ : SD) (hn : Nat) (hi : Nat → SD) (L : Nat) (ch : Nat → Int32) (x : Int32) (hX : XAt cell adr kc σ hn hi L ch) (hG : Good σ) (hN : 125 ≤ N) : MI l yX6_safest wsX6_safest ({ frames := 6, cells := 0, slots := 0, locals := 145 }) D kc N adr cell [.ref (adr 0), .int x] (fun (w0 : Int32) (cell1 : Nat → va_E) => safestR σ x = w0 ∧ XAt cell1 adr kc σ hn hi L ch) := by
  refine met_i (cc := cX6_safest) (maxL := 6) (ret := (some .int)) (by decide) rfl (Nat.le_of_ble_eq_true rfl) (lv := [(0, .ref (adr 0)), (1, .int x)]) rfl ?_
  intro Pg Ev Sv Mi args below Me Cd Ar C hr hlk hnm
  have in5 : ∀ w ∈ u_ws RX5 TX5 5, w ∈ wsX6_safest := by decide +kernel
  have in6 : ∀ w ∈ u_ws RX6 TX6 6, w ∈ wsX6_safest := by decide +kernel
  have k60 := C.2.2.2.2.1 (.constant RX6 60 (-1000001)) (by decide +kernel)
  have f10 := C.2.2.2.2.1 (.fieldLink RX6 10 "WordAnchors" "now" "LWordAnchors$State;") (by decide +kernel)
  have f47 := C.2.2.2.2.1 (.fieldLink RX6 47 "WordAnchors$State" "row" "LWordAnchors$Row;") (by decide +kernel)
  have k182 := C.2.2.2.2.1 (.constant RX6 182 (-1000004)) (by decide +kernel)
  have f16 := C.2.2.2.2.1 (.fieldLink RX6 16 "WordAnchors" "trial" "LWordAnchors$State;") (by decide +kernel)
  have hX0 := hX
  obtain ⟨x0, ⟨d0, hS, hEq⟩, ⟨dT, hST⟩, ⟨od, dh, hHI, hHE⟩, ⟨sx, nx, sg, nu, hTX⟩, ⟨bz, Sf, Mf, hBL⟩, ⟨ap, av, af, hAN⟩, hch⟩ := hX
  have en := hEq.1
  have em := hEq.2.1
  have hgn := hG.1
  have hgm := hG.2.1
  have hn40 : d0.1 ≤ 40 := hS.2.1.2.2.2.2
  have hm6 : d0.2.1 ≤ 6 := hS.2.2.2.2.2
  have hL60 : L ≤ 60 := hTX.2.2.2
  have hod : od < 4 := hHI.2.2.2.1
  have hh4 : hn ≤ 4 := hHI.2.2.2.2
  have litm1000004 : ((-1000004) : Int32).toInt = -1000004 := rfl
  have litm1000001 : ((-1000001) : Int32).toInt = -1000001 := rfl
  have litm1 : ((-1) : Int32).toInt = -1 := rfl
  have lit0 : (0 : Int32).toInt = 0 := rfl
  have lit1 : (1 : Int32).toInt = 1 := rfl
  have lit2 : (2 : Int32).toInt = 2 := rfl
  have lit7 : (7 : Int32).toInt = 7 := rfl
  have tn_d0_1 : (nI d0.1).toInt = ((d0.1 : Nat) : Int) := nI_toInt (by omega)
  have tn_d0_2_1 : (nI d0.2.1).toInt = ((d0.2.1 : Nat) : Int) := nI_toInt (by omega)
  have tn_L : (nI L).toInt = ((L : Nat) : Int) := nI_toInt (by omega)
  have tn_hn : (nI hn).toInt = ((hn : Nat) : Int) := nI_toInt (by omega)
  refine g_iload_n C 1 rfl dX6_safest_0 ?_
  refine g_if_lt C 9 (by decide) dX6_safest_1 (fun c1 => ?_) (fun c1 => ?_)
  · -- taken at 1
    have c1' := i_lt c1
    refine g_ldc C (-1000001) k60 dX6_safest_9 ?_
    refine g_iret C hr rfl hlk dX6_safest_11 ?_
    exact ⟨by unfold safestR; exact if_pos (by omega), hX0⟩
  · -- not taken at 1
    have c1' := i_nlt c1
    refine g_iload_n C 1 rfl dX6_safest_4 ?_
    refine g_iconst C 1 (by decide) dX6_safest_5 ?_
    refine g_icmp_le C 12 (by decide) dX6_safest_6 (fun c6 => ?_) (fun c6 => ?_)
    · -- taken at 6
      have c6' := i_le c6
      refine g_iconst C (-1) (by decide) dX6_safest_12 ?_
      refine g_istore_n C [(2, .int (-1)), (0, .ref (adr 0)), (1, .int x)] (by decide) rfl dX6_safest_13 ?_
      refine g_bipush C 7 (by decide) dX6_safest_14 ?_
      refine g_istore_n C [(3, .int 7), (2, .int (-1)), (0, .ref (adr 0)), (1, .int x)] (by decide) rfl dX6_safest_16 ?_
      refine g_iconst C 0 (by decide) dX6_safest_17 ?_
      refine g_istore C [(4, .int 0), (3, .int 7), (2, .int (-1)), (0, .ref (adr 0)), (1, .int x)] (by decide) rfl dX6_safest_18 ?_
      have L20 : ∀ (fu i : Nat) (cl : Nat → va_E) (dTl : SD), i ≤ d0.1 → d0.1 < i + fu → (t0 : cl 0 = .inr (6, [.ref (adr 1), .ref (adr 20), .ref (adr 39), .ref (adr 117), .ref (adr 120), .ref (adr 123)])) → (t1 : StAt cl adr kc 1 d0) → (t2 : StAt cl adr kc 20 dTl) → (t3 : HiAt cl adr kc 39 od hn dh) → (t4 : TxAt cl adr kc 117 L sx (nI nx) sg ch nu) → (t5 : BlAt cl adr kc 120 bz Sf Mf) → (t6 : AncAt cl adr kc 123 ap av af) → G Pg l Ev (headSpec wsX6_safest { frames := 6, cells := 0, slots := 0, locals := 145 }).room Sv Mi args below Me Cd D N adr Ar Sv.heap 6 0 0 (MQ below (va_Qi (fun (w0 : Int32) (cell1 : Nat → va_E) => safestR σ x = w0 ∧ XAt cell1 adr kc σ hn hi L ch) (fun (cell1 : Nat → va_E) (t : State) => va_P D vwCl (wld N adr cell1) t.heap) Ar) args Sv 0 0 Ar) cl 20 [(0, .ref (adr 0)), (1, .int x), (2, .int ((sfF σ i).1)), (3, .int ((sfF σ i).2)), (4, .int (nI i))] ([] : List Value) := by
        intro fu
        induction fu with
        | zero => intro i cl dTl hle hfu; exact absurd hfu (by omega)
        | succ fu ih =>
          intro i cl dTl hle20 hfu20 t0 t1 t2 t3 t4 t5 t6 
          have tn_i : (nI i).toInt = ((i : Nat) : Int) := nI_toInt (by omega)
          refine g_iload C 4 rfl dX6_safest_20 ?_
          refine g_aload_n C 0 rfl dX6_safest_22 ?_
          refine g_get C 0 6 0 (by omega) t0 rfl in6 (by decide) f10 (fun _ h9 => h9) rfl dX6_safest_23 ?_
          refine g_get C 1 5 0 (by omega) t1.1 rfl in5 (by decide) f47 (fun _ h9 => h9) rfl dX6_safest_26 ?_
          refine g_Vi C [] (1 + 1) 4 (by omega) t1.2.1.1 rfl (c_X4_size l D kc N adr cl (1 + 1) d0.2.2.2.1 d0.2.2.2.2.1 d0.2.2.2.2.2.1 d0.1  t1.2.1 (by omega)) (cwV 0 C.2.2.2.2.1 gX6_safest_X4_size rfl rfl rfl (by decide +kernel) ⟨Nat.le_of_ble_eq_true rfl, Nat.le_of_ble_eq_true rfl⟩) rfl rfl (Nat.le_of_ble_eq_true rfl) (Nat.zero_le _) (Nat.zero_le _) dX6_safest_29 (fun v1 cell1 q1 => ?_)
          obtain ⟨rfl, rfl⟩ := q1
          refine g_icmp_ge C 76 (by decide) dX6_safest_32 (fun c32 => ?_) (fun c32 => ?_)
          · -- taken at 32
            have c32' := i_le c32
            refine g_iload_n C 2 rfl dX6_safest_76 ?_
            refine g_iconst C (-1) (by decide) dX6_safest_77 ?_
            refine g_icmp_ne C 84 (by decide) dX6_safest_78 (fun c78 => ?_) (fun c78 => ?_)
            · -- taken at 78
              have c78' := i_ne c78
              refine g_iload_n C 1 rfl dX6_safest_84 ?_
              refine g_if_ne C 92 (by decide) dX6_safest_85 (fun c85 => ?_) (fun c85 => ?_)
              · -- taken at 85
                have c85' := i_ne c85
                refine g_iload_n C 3 rfl dX6_safest_92 ?_
                refine g_iret C hr rfl hlk dX6_safest_93 ?_
                have hie : i = d0.1 := by omega
                have hsn : sfF σ σ.1 = sfF σ i := by rw [hie, en]
                exact ⟨by unfold safestR; rw [if_neg (by omega), hsn]; rw [if_neg c78, if_neg c85], ⟨t0, ⟨_, t1, hEq⟩, ⟨_, t2⟩, ⟨_, _, t3, hHE⟩, ⟨_, _, _, _, t4⟩, ⟨_, _, _, t5⟩, ⟨_, _, _, t6⟩, hch⟩⟩
              · -- not taken at 85
                have c85' := i_eq c85
                refine g_iload_n C 2 rfl dX6_safest_88 ?_
                refine g_goto C 93 (by decide) dX6_safest_89 ?_
                refine g_iret C hr rfl hlk dX6_safest_93 ?_
                have hie : i = d0.1 := by omega
                have hsn : sfF σ σ.1 = sfF σ i := by rw [hie, en]
                exact ⟨by unfold safestR; rw [if_neg (by omega), hsn]; rw [if_neg c78, if_pos c85], ⟨t0, ⟨_, t1, hEq⟩, ⟨_, t2⟩, ⟨_, _, t3, hHE⟩, ⟨_, _, _, _, t4⟩, ⟨_, _, _, t5⟩, ⟨_, _, _, t6⟩, hch⟩⟩
            · -- not taken at 78
              have c78' := i_eq c78
              refine g_ldc C (-1000004) k182 dX6_safest_81 ?_
              refine g_iret C hr rfl hlk dX6_safest_83 ?_
              have hie : i = d0.1 := by omega
              have hsn : sfF σ σ.1 = sfF σ i := by rw [hie, en]
              exact ⟨by unfold safestR; rw [if_neg (by omega), hsn]; exact if_pos c78, ⟨t0, ⟨_, t1, hEq⟩, ⟨_, t2⟩, ⟨_, _, t3, hHE⟩, ⟨_, _, _, _, t4⟩, ⟨_, _, _, t5⟩, ⟨_, _, _, t6⟩, hch⟩⟩
          · -- not taken at 32
            have c32' := i_nle c32
            refine g_iload_n C 3 rfl dX6_safest_35 ?_
            refine g_if_le C 76 (by decide) dX6_safest_36 (fun c36 => ?_) (fun c36 => ?_)
            · -- taken at 36
              have c36' := i_le c36
              refine g_iload_n C 2 rfl dX6_safest_76 ?_
              refine g_iconst C (-1) (by decide) dX6_safest_77 ?_
              refine g_icmp_ne C 84 (by decide) dX6_safest_78 (fun c78 => ?_) (fun c78 => ?_)
              · -- taken at 78
                have c78' := i_ne c78
                refine g_iload_n C 1 rfl dX6_safest_84 ?_
                refine g_if_ne C 92 (by decide) dX6_safest_85 (fun c85 => ?_) (fun c85 => ?_)
                · -- taken at 85
                  have c85' := i_ne c85
                  refine g_iload_n C 3 rfl dX6_safest_92 ?_
                  refine g_iret C hr rfl hlk dX6_safest_93 ?_
                  have hsn : sfF σ σ.1 = sfF σ i := sf_end c36 (by omega)
                  exact ⟨by unfold safestR; rw [if_neg (by omega), hsn]; rw [if_neg c78, if_neg c85], ⟨t0, ⟨_, t1, hEq⟩, ⟨_, t2⟩, ⟨_, _, t3, hHE⟩, ⟨_, _, _, _, t4⟩, ⟨_, _, _, t5⟩, ⟨_, _, _, t6⟩, hch⟩⟩
                · -- not taken at 85
                  have c85' := i_eq c85
                  refine g_iload_n C 2 rfl dX6_safest_88 ?_
                  refine g_goto C 93 (by decide) dX6_safest_89 ?_
                  refine g_iret C hr rfl hlk dX6_safest_93 ?_
                  have hsn : sfF σ σ.1 = sfF σ i := sf_end c36 (by omega)
                  exact ⟨by unfold safestR; rw [if_neg (by omega), hsn]; rw [if_neg c78, if_pos c85], ⟨t0, ⟨_, t1, hEq⟩, ⟨_, t2⟩, ⟨_, _, t3, hHE⟩, ⟨_, _, _, _, t4⟩, ⟨_, _, _, t5⟩, ⟨_, _, _, t6⟩, hch⟩⟩
              · -- not taken at 78
                have c78' := i_eq c78
                refine g_ldc C (-1000004) k182 dX6_safest_81 ?_
                refine g_iret C hr rfl hlk dX6_safest_83 ?_
                have hsn : sfF σ σ.1 = sfF σ i := sf_end c36 (by omega)
                exact ⟨by unfold safestR; rw [if_neg (by omega), hsn]; exact if_pos c78, ⟨t0, ⟨_, t1, hEq⟩, ⟨_, t2⟩, ⟨_, _, t3, hHE⟩, ⟨_, _, _, _, t4⟩, ⟨_, _, _, t5⟩, ⟨_, _, _, t6⟩, hch⟩⟩
            · -- not taken at 36
              have c36' := i_nle c36
              refine g_aload_n C 0 rfl dX6_safest_39 ?_
              refine g_iload C 4 rfl dX6_safest_40 ?_
              refine g_Vv C [.int (nI i)] 0 6 (by omega) t0 rfl (c_X6_tryTaking l D kc N adr cl d0 dTl i t0 t1 t2 (by omega) (by omega)) (cwV 1 C.2.2.2.2.1 gX6_safest_X6_tryTaking rfl rfl rfl (by decide +kernel) ⟨Nat.le_of_ble_eq_true rfl, Nat.le_of_ble_eq_true rfl⟩) rfl rfl (Nat.le_of_ble_eq_true rfl) (Nat.zero_le _) (Nat.zero_le _) dX6_safest_42 (fun cell2 q2 => ?_)
              obtain ⟨⟨dT_4, hST_5, hET_6⟩, gf_3⟩ := q2
              have h_7 : cell2 0 = .inr (6, [.ref (adr 1), .ref (adr 20), .ref (adr 39), .ref (adr 117), .ref (adr 120), .ref (adr 123)]) := (gf_3 0 (by omega)).trans t0
              have h_8 : StAt cell2 adr kc 1 d0 := StAt.frame t1 (fun j h1 h2 => gf_3 j (by omega))
              have h_9 : HiAt cell2 adr kc 39 od hn dh := HiAt.frame t3 (fun j h1 h2 => gf_3 j (by omega))
              have h_10 : TxAt cell2 adr kc 117 L sx (nI nx) sg ch nu := TxAt.frame t4 (fun j h1 h2 => gf_3 j (by omega))
              have h_11 : BlAt cell2 adr kc 120 bz Sf Mf := BlAt.frame t5 (fun j h1 h2 => gf_3 j (by omega))
              have h_12 : AncAt cell2 adr kc 123 ap av af := AncAt.frame t6 (fun j h1 h2 => gf_3 j (by omega))
              refine g_aload_n C 0 rfl dX6_safest_45 ?_
              refine g_get C 0 6 1 (by omega) h_7 rfl in6 (by decide) f16 (fun _ h9 => h9) rfl dX6_safest_46 ?_
              refine g_iconst C 2 (by decide) dX6_safest_49 ?_
              refine g_Vi C [.int 2] 20 5 (by omega) hST_5.1 rfl (c_X5_anchorsOfKind l D kc N adr cell2 20 dT_4.1 dT_4.2.1 dT_4.2.2.1 dT_4.2.2.2.1 dT_4.2.2.2.2.1 dT_4.2.2.2.2.2.1 dT_4.2.2.2.2.2.2.1 dT_4.2.2.2.2.2.2.2.1 dT_4.2.2.2.2.2.2.2.2.1 dT_4.2.2.2.2.2.2.2.2.2 2 hST_5 (by omega)) (cwV 1 C.2.2.2.2.1 gX6_safest_X5_anchorsOfKind rfl rfl rfl (by decide +kernel) ⟨Nat.le_of_ble_eq_true rfl, Nat.le_of_ble_eq_true rfl⟩) rfl rfl (Nat.le_of_ble_eq_true rfl) (Nat.zero_le _) (Nat.zero_le _) dX6_safest_50 (fun v13 cell13 q13 => ?_)
              obtain ⟨rfl, rfl⟩ := q13
              have hET1 := hET_6 σ hEq hG
              have emT : dT_4.2.1 = σ.2.1 := hET1.2.1
              have hks : kndF dT_4.1 dT_4.2.2.2.1 dT_4.2.2.2.2.2.2.1 dT_4.2.2.2.2.2.2.2.1 dT_4.2.2.2.2.2.2.2.2.1 dT_4.2.2.2.2.2.2.2.2.2 2 dT_4.2.1 = aKs (remD i σ) 2 σ.2.1 := by rw [knd_aKs, emT]; exact eKs hET1 2 _ (Nat.le_refl _)
              refine g_eqst (st1 := ([.int (aKs (remD i σ) 2 σ.2.1)] : List Value)) (by rw [hks]) ?_
              refine g_Si C [.int (aKs (remD i σ) 2 σ.2.1)] (c_J6_bitCount_0f7a4 l D kc N adr cell2 (aKs (remD i σ) 2 σ.2.1)) (va_cwS 1 C.2.2.2.2.1 gX6_safest_J6_bitCount_0f7a4 rfl rfl rfl (by decide +kernel) ⟨Nat.le_of_ble_eq_true rfl, Nat.le_of_ble_eq_true rfl⟩) rfl rfl (Nat.le_of_ble_eq_true rfl) (Nat.zero_le _) (Nat.zero_le _) dX6_safest_53 (fun v14 cell14 q14 => ?_)
              obtain ⟨rfl, rfl⟩ := q14
              refine g_istore C [(5, .int (bcF (aKs (remD i σ) 2 σ.2.1))), (0, .ref (adr 0)), (1, .int x), (2, .int ((sfF σ i).1)), (3, .int ((sfF σ i).2)), (4, .int (nI i))] (by decide) rfl dX6_safest_56 ?_
              refine g_iload C 0 rfl dX6_safest_58 ?_
              refine g_iload_n C 4 rfl dX6_safest_60 ?_
              refine g_icmp_ge C 70 (by decide) dX6_safest_61 (fun c61 => ?_) (fun c61 => ?_)
              · -- taken at 61
                have c61' := i_le c61
                refine g_iinc C 5 [(4, .int (nI (i + 1))), (5, .int (bcF (aKs (remD i σ) 2 σ.2.1))), (0, .ref (adr 0)), (1, .int x), (2, .int ((sfF σ i).1)), (3, .int ((sfF σ i).2))] rfl (iinc_nI i) (by decide) rfl dX6_safest_70 ?_
                refine g_goto C 20 (by decide) dX6_safest_73 ?_
                have hsf : sfF σ (i + 1) = sfF σ i := if_neg (fun h => absurd h.2 (Int32.not_lt.mpr c61))
                refine g_sub [2, 3, 4, 5, 0] rfl ?_
                have ev_15 : (sfF σ i).1 = (sfF σ (i + 1)).1 := by rw [hsf]
                refine g_eqlv (lv1 := [(0, .ref (adr 0)), (1, .int x), (2, .int ((sfF σ (i + 1)).1)), (3, .int ((sfF σ i).2)), (4, .int (nI (i + 1)))]) (congrArg (fun z0 : Int32 => ([(0, .ref (adr 0)), (1, .int x), (2, .int z0), (3, .int ((sfF σ i).2)), (4, .int (nI (i + 1)))] : List (Nat × Value))) ev_15) ?_
                have ev_16 : (sfF σ i).2 = (sfF σ (i + 1)).2 := by rw [hsf]
                refine g_eqlv (lv1 := [(0, .ref (adr 0)), (1, .int x), (2, .int ((sfF σ (i + 1)).1)), (3, .int ((sfF σ (i + 1)).2)), (4, .int (nI (i + 1)))]) (congrArg (fun z0 : Int32 => ([(0, .ref (adr 0)), (1, .int x), (2, .int ((sfF σ (i + 1)).1)), (3, .int z0), (4, .int (nI (i + 1)))] : List (Nat × Value))) ev_16) ?_
                exact ih (i + 1) _ _ (by omega) (by omega) h_7 h_8 hST_5 h_9 h_10 h_11 h_12 
              · -- not taken at 61
                have c61' := i_nle c61
                refine g_iload C 5 rfl dX6_safest_64 ?_
                refine g_istore_n C [(2, .int (nI i)), (5, .int (bcF (aKs (remD i σ) 2 σ.2.1))), (0, .ref (adr 0)), (1, .int x), (3, .int ((sfF σ i).2)), (4, .int (nI i))] (by decide) rfl dX6_safest_66 ?_
                refine g_iload C 1 rfl dX6_safest_67 ?_
                refine g_istore_n C [(3, .int (bcF (aKs (remD i σ) 2 σ.2.1))), (2, .int (nI i)), (5, .int (bcF (aKs (remD i σ) 2 σ.2.1))), (0, .ref (adr 0)), (1, .int x), (4, .int (nI i))] (by decide) rfl dX6_safest_69 ?_
                refine g_iinc C 5 [(4, .int (nI (i + 1))), (3, .int (bcF (aKs (remD i σ) 2 σ.2.1))), (2, .int (nI i)), (5, .int (bcF (aKs (remD i σ) 2 σ.2.1))), (0, .ref (adr 0)), (1, .int x)] rfl (iinc_nI i) (by decide) rfl dX6_safest_70 ?_
                refine g_goto C 20 (by decide) dX6_safest_73 ?_
                have hsf : sfF σ (i + 1) = (nI i, bcF (aKs (remD i σ) 2 σ.2.1)) := if_pos ⟨Int32.not_le.mp c36, Int32.not_le.mp c61⟩
                refine g_sub [4, 5, 2, 1, 0] rfl ?_
                have ev_17 : nI i = (sfF σ (i + 1)).1 := by rw [hsf]
                refine g_eqlv (lv1 := [(0, .ref (adr 0)), (1, .int x), (2, .int ((sfF σ (i + 1)).1)), (3, .int (bcF (aKs (remD i σ) 2 σ.2.1))), (4, .int (nI (i + 1)))]) (congrArg (fun z0 : Int32 => ([(0, .ref (adr 0)), (1, .int x), (2, .int z0), (3, .int (bcF (aKs (remD i σ) 2 σ.2.1))), (4, .int (nI (i + 1)))] : List (Nat × Value))) ev_17) ?_
                have ev_18 : bcF (aKs (remD i σ) 2 σ.2.1) = (sfF σ (i + 1)).2 := by rw [hsf]
                refine g_eqlv (lv1 := [(0, .ref (adr 0)), (1, .int x), (2, .int ((sfF σ (i + 1)).1)), (3, .int ((sfF σ (i + 1)).2)), (4, .int (nI (i + 1)))]) (congrArg (fun z0 : Int32 => ([(0, .ref (adr 0)), (1, .int x), (2, .int ((sfF σ (i + 1)).1)), (3, .int z0), (4, .int (nI (i + 1)))] : List (Nat × Value))) ev_18) ?_
                exact ih (i + 1) _ _ (by omega) (by omega) h_7 h_8 hST_5 h_9 h_10 h_11 h_12 
      refine g_sub [3, 4, 2, 1, 0] rfl ?_
      have ev_19 : (-1) = (sfF σ 0).1 := by rfl
      refine g_eqlv (lv1 := [(0, .ref (adr 0)), (1, .int x), (2, .int ((sfF σ 0).1)), (3, .int 7), (4, .int 0)]) (congrArg (fun z0 : Int32 => ([(0, .ref (adr 0)), (1, .int x), (2, .int z0), (3, .int 7), (4, .int 0)] : List (Nat × Value))) ev_19) ?_
      have ev_20 : 7 = (sfF σ 0).2 := by rfl
      refine g_eqlv (lv1 := [(0, .ref (adr 0)), (1, .int x), (2, .int ((sfF σ 0).1)), (3, .int ((sfF σ 0).2)), (4, .int 0)]) (congrArg (fun z0 : Int32 => ([(0, .ref (adr 0)), (1, .int x), (2, .int ((sfF σ 0).1)), (3, .int z0), (4, .int 0)] : List (Nat × Value))) ev_20) ?_
      exact L20 (d0.1 + 1) 0 _ _ (by omega) (by omega) x0 hS hST hHI hTX hBL hAN 
    · -- not taken at 6
      have c6' := i_nle c6
      refine g_ldc C (-1000001) k60 dX6_safest_9 ?_
      refine g_iret C hr rfl hlk dX6_safest_11 ?_
      exact ⟨by unfold safestR; exact if_pos (by omega), hX0⟩
