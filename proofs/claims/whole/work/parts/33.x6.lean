set_option maxRecDepth 100000 in
set_option maxHeartbeats 4000000 in
theorem c_X6_rehearse (l : Launch) (D : va_G) (kc : Nat → ClassId) (N : Nat) (adr : Nat → Nat) (cell : Nat → va_E) (σ : SD) (hn : Nat) (hi : Nat → SD) (L : Nat) (ch : Nat → Int32)  (hX : XAt cell adr kc σ hn hi L ch) (hG : Good σ) (hN : 125 ≤ N) : MI l yX6_rehearse wsX6_rehearse ({ frames := 5, cells := 0, slots := 0, locals := 114 }) D kc N adr cell [.ref (adr 0)] (fun (w0 : Int32) (cell1 : Nat → va_E) => (rhF L ch 60 0 σ).1 = w0 ∧ (∃ dT1 : SD, StAt cell1 adr kc 20 dT1 ∧ ((rhF L ch 60 0 σ).1 = 0 → Eqv dT1 (rhF L ch 60 0 σ).2.2)) ∧ (∃ (sx1 : Int32) (nx1 : Nat) (sg1 : Int32) (nu1 : Nat → Int32), TxAt cell1 adr kc 117 L sx1 (nI nx1) sg1 ch nu1 ∧ (¬ (rhF L ch 60 0 σ).1 = 0 → sx1 = nI (rhF L ch 60 0 σ).2.1)) ∧ ∀ j : Nat, (j < 20 ∨ 39 ≤ j ∧ j < 117 ∨ 120 ≤ j) → cell1 j = cell j) := by
  refine met_i (cc := cX6_rehearse) (maxL := 3) (ret := (some .int)) (by decide) rfl (Nat.le_of_ble_eq_true rfl) (lv := [(0, .ref (adr 0))]) rfl ?_
  intro Pg Ev Sv Mi args below Me Cd Ar C hr hlk hnm
  have in6 : ∀ w ∈ u_ws RX6 TX6 6, w ∈ wsX6_rehearse := by decide +kernel
  have f16 := C.2.2.2.2.1 (.fieldLink RX6 16 "WordAnchors" "trial" "LWordAnchors$State;") (by decide +kernel)
  have f10 := C.2.2.2.2.1 (.fieldLink RX6 10 "WordAnchors" "now" "LWordAnchors$State;") (by decide +kernel)
  have f29 := C.2.2.2.2.1 (.fieldLink RX6 29 "WordAnchors" "text" "LWordAnchors$EditText;") (by decide +kernel)
  have hX0 := hX
  obtain ⟨x0, ⟨d0, hS, hEq⟩, ⟨dT, hST⟩, ⟨od, dh, hHI, hHE⟩, ⟨sx, nx, sg, nu, hTX⟩, ⟨bz, Sf, Mf, hBL⟩, ⟨ap, av, af, hAN⟩, hch⟩ := hX
  have en := hEq.1
  have em := hEq.2.1
  have hgn := hG.1
  have hgm := hG.2.1
  have hn40 : d0.1 ≤ 40 := hS.2.1.2.2.2.2
  have hm6 : d0.2.1 ≤ 6 := hS.2.2.2.2.2
  have hL60 : L ≤ 60 := hTX.2.2.2
  have hod : od < 4 := hHI.2.2.2.1
  have hh4 : hn ≤ 4 := hHI.2.2.2.2
  have litm1 : ((-1) : Int32).toInt = -1 := rfl
  have lit0 : (0 : Int32).toInt = 0 := rfl
  have lit1 : (1 : Int32).toInt = 1 := rfl
  have lit60 : (60 : Int32).toInt = 60 := rfl
  have tn_d0_1 : (nI d0.1).toInt = ((d0.1 : Nat) : Int) := nI_toInt (by omega)
  have tn_d0_2_1 : (nI d0.2.1).toInt = ((d0.2.1 : Nat) : Int) := nI_toInt (by omega)
  have tn_L : (nI L).toInt = ((L : Nat) : Int) := nI_toInt (by omega)
  have tn_hn : (nI hn).toInt = ((hn : Nat) : Int) := nI_toInt (by omega)
  refine g_aload_n C 0 rfl dX6_rehearse_0 ?_
  refine g_get C 0 6 1 (by omega) x0 rfl in6 (by decide) f16 (fun _ h9 => h9) rfl dX6_rehearse_1 ?_
  refine g_aload_n C 0 rfl dX6_rehearse_4 ?_
  refine g_get C 0 6 0 (by omega) x0 rfl in6 (by decide) f10 (fun _ h9 => h9) rfl dX6_rehearse_5 ?_
  refine g_Vv C [.ref (adr 1)] 20 5 (by omega) hST.1 rfl (c_X5_copyFrom l D kc N adr cell 20 dT.1 dT.2.1 dT.2.2.1 dT.2.2.2.1 dT.2.2.2.2.1 dT.2.2.2.2.2.1 dT.2.2.2.2.2.2.1 dT.2.2.2.2.2.2.2.1 dT.2.2.2.2.2.2.2.2.1 dT.2.2.2.2.2.2.2.2.2 1 d0.1 d0.2.1 d0.2.2.1 d0.2.2.2.1 d0.2.2.2.2.1 d0.2.2.2.2.2.1 d0.2.2.2.2.2.2.1 d0.2.2.2.2.2.2.2.1 d0.2.2.2.2.2.2.2.2.1 d0.2.2.2.2.2.2.2.2.2 hST (by omega) hS (by omega) (by omega)) (cwV 1 C.2.2.2.2.1 gX6_rehearse_X5_copyFrom rfl rfl rfl (by decide +kernel) ⟨Nat.le_of_ble_eq_true rfl, Nat.le_of_ble_eq_true rfl⟩) rfl rfl (Nat.le_of_ble_eq_true rfl) (Nat.zero_le _) (Nat.zero_le _) dX6_rehearse_8 (fun cell1 q1 => ?_)
  obtain ⟨hS_4, gf_2⟩ := q1
  obtain ⟨d_3, hS_5, hE_6⟩ : ∃ d9 : SD, StAt cell1 adr kc 20 d9 ∧ Eqv d9 (σ) := ⟨_, hS_4, (Eqv.tr (cp_eqv hn40 hm6) hEq)⟩
  have h_7 : cell1 0 = .inr (6, [.ref (adr 1), .ref (adr 20), .ref (adr 39), .ref (adr 117), .ref (adr 120), .ref (adr 123)]) := (gf_2 0 (by omega)).trans x0
  have h_8 : StAt cell1 adr kc 1 d0 := StAt.frame hS (fun j h1 h2 => gf_2 j (by omega))
  have h_9 : HiAt cell1 adr kc 39 od hn dh := HiAt.frame hHI (fun j h1 h2 => gf_2 j (by omega))
  have h_10 : TxAt cell1 adr kc 117 L sx (nI nx) sg ch nu := TxAt.frame hTX (fun j h1 h2 => gf_2 j (by omega))
  have h_11 : BlAt cell1 adr kc 120 bz Sf Mf := BlAt.frame hBL (fun j h1 h2 => gf_2 j (by omega))
  have h_12 : AncAt cell1 adr kc 123 ap av af := AncAt.frame hAN (fun j h1 h2 => gf_2 j (by omega))
  have fr_13 : ∀ j : Nat, (j < 20 ∨ 39 ≤ j ∧ j < 117 ∨ 120 ≤ j) → cell1 j = cell j := fun j hj => gf_2 j (by omega)
  refine g_aload_n C 0 rfl dX6_rehearse_11 ?_
  refine g_get C 0 6 3 (by omega) h_7 rfl in6 (by decide) f29 (fun _ h9 => h9) rfl dX6_rehearse_12 ?_
  refine g_Vv C [] 117 2 (by omega) h_10.1 rfl (c_X2_rewind l D kc N adr cell1 117 L sx nx sg ch nu  h_10 (by omega)) (cwV 0 C.2.2.2.2.1 gX6_rehearse_X2_rewind rfl rfl rfl (by decide +kernel) ⟨Nat.le_of_ble_eq_true rfl, Nat.le_of_ble_eq_true rfl⟩) rfl rfl (Nat.le_of_ble_eq_true rfl) (Nat.zero_le _) (Nat.zero_le _) dX6_rehearse_15 (fun cell14 q14 => ?_)
  obtain ⟨hTX_15, gf_16⟩ := q14
  have h_17 : cell14 0 = .inr (6, [.ref (adr 1), .ref (adr 20), .ref (adr 39), .ref (adr 117), .ref (adr 120), .ref (adr 123)]) := (gf_16 0 (by omega)).trans h_7
  have h_18 : StAt cell14 adr kc 1 d0 := StAt.frame h_8 (fun j h1 h2 => gf_16 j (by omega))
  have h_19 : StAt cell14 adr kc 20 d_3 := StAt.frame hS_5 (fun j h1 h2 => gf_16 j (by omega))
  have h_20 : HiAt cell14 adr kc 39 od hn dh := HiAt.frame h_9 (fun j h1 h2 => gf_16 j (by omega))
  have h_21 : BlAt cell14 adr kc 120 bz Sf Mf := BlAt.frame h_11 (fun j h1 h2 => gf_16 j (by omega))
  have h_22 : AncAt cell14 adr kc 123 ap av af := AncAt.frame h_12 (fun j h1 h2 => gf_16 j (by omega))
  have fr_23 : ∀ j : Nat, (j < 20 ∨ 39 ≤ j ∧ j < 117 ∨ 120 ≤ j) → cell14 j = cell j := fun j hj => (gf_16 j (by omega)).trans (fr_13 j hj)
  refine g_iconst C 0 (by decide) dX6_rehearse_18 ?_
  refine g_istore_n C [(1, .int 0), (0, .ref (adr 0))] (by decide) rfl dX6_rehearse_19 ?_
  refine g_iconst C 0 (by decide) dX6_rehearse_20 ?_
  refine g_istore_n C [(2, .int 0), (1, .int 0), (0, .ref (adr 0))] (by decide) rfl dX6_rehearse_21 ?_
  have L22 : ∀ (fu i : Nat) (cl : Nat → va_E) (r : Int32) (a : Nat) (s dTl : SD) (sxl : Int32) (nxl : Nat) (sgl : Int32) (nul : Nat → Int32), i ≤ 60 → 60 < i + fu → (t0 : cl 0 = .inr (6, [.ref (adr 1), .ref (adr 20), .ref (adr 39), .ref (adr 117), .ref (adr 120), .ref (adr 123)])) → (t1 : StAt cl adr kc 1 d0) → (t2 : StAt cl adr kc 20 dTl) → (t4 : TxAt cl adr kc 117 L sxl (nI nxl) sgl ch nul) → (frl22 : ∀ j : Nat, (j < 20 ∨ 39 ≤ j ∧ j < 117 ∨ 120 ≤ j) → cl j = cell j) → (hr0 : r = 0 → a = nxl ∧ rhF L ch 60 0 σ = rhF L ch (60 - i) a s ∧ Good s ∧ Eqv dTl s ∧ a ≤ 80) → (hr1 : ¬ r = 0 → (rhF L ch 60 0 σ).1 = r ∧ sxl = nI (rhF L ch 60 0 σ).2.1) → G Pg l Ev (headSpec wsX6_rehearse { frames := 5, cells := 0, slots := 0, locals := 114 }).room Sv Mi args below Me Cd D N adr Ar Sv.heap 3 0 0 (MQ below (va_Qi (fun (w0 : Int32) (cell1 : Nat → va_E) => (rhF L ch 60 0 σ).1 = w0 ∧ (∃ dT1 : SD, StAt cell1 adr kc 20 dT1 ∧ ((rhF L ch 60 0 σ).1 = 0 → Eqv dT1 (rhF L ch 60 0 σ).2.2)) ∧ (∃ (sx1 : Int32) (nx1 : Nat) (sg1 : Int32) (nu1 : Nat → Int32), TxAt cell1 adr kc 117 L sx1 (nI nx1) sg1 ch nu1 ∧ (¬ (rhF L ch 60 0 σ).1 = 0 → sx1 = nI (rhF L ch 60 0 σ).2.1)) ∧ ∀ j : Nat, (j < 20 ∨ 39 ≤ j ∧ j < 117 ∨ 120 ≤ j) → cell1 j = cell j) (fun (cell1 : Nat → va_E) (t : State) => va_P D vwCl (wld N adr cell1) t.heap) Ar) args Sv 0 0 Ar) cl 22 [(0, .ref (adr 0)), (1, .int r), (2, .int (nI i))] ([] : List Value) := by
    intro fu
    induction fu with
    | zero => intro i cl r a s dTl sxl nxl sgl nul hle hfu; exact absurd hfu (by omega)
    | succ fu ih =>
      intro i cl r a s dTl sxl nxl sgl nul hle22 hfu22 t0 t1 t2 t4 frl22 hr0 hr1
      have tn_i : (nI i).toInt = ((i : Nat) : Int) := nI_toInt (by omega)
      refine g_iload_n C 2 rfl dX6_rehearse_22 ?_
      refine g_bipush C 60 (by decide) dX6_rehearse_23 ?_
      refine g_icmp_ge C 89 (by decide) dX6_rehearse_25 (fun c25 => ?_) (fun c25 => ?_)
      · -- taken at 25
        have c25' := i_le c25
        refine g_iload_n C 1 rfl dX6_rehearse_89 ?_
        refine g_iret C hr rfl hlk dX6_rehearse_90 ?_
        by_cases hrz : r = 0
        · obtain ⟨ha, hrh, hGs, hEs, ha80⟩ := hr0 hrz
          have hrn : rhF L ch 60 0 σ = (0, a, s) := by rw [hrh, show 60 - i = 0 by omega]; rfl
          rw [hrn]
          exact ⟨hrz.symm, ⟨_, t2, fun _ => hEs⟩, ⟨_, _, _, _, t4, fun h => absurd rfl h⟩, frl22⟩
        · obtain ⟨h1, h2⟩ := hr1 hrz
          exact ⟨h1, ⟨_, t2, fun h => absurd (h1.symm.trans h) hrz⟩, ⟨_, _, _, _, t4, fun _ => h2⟩, frl22⟩
      · -- not taken at 25
        have c25' := i_nle c25
        refine g_iload_n C 1 rfl dX6_rehearse_28 ?_
        refine g_if_ne C 89 (by decide) dX6_rehearse_29 (fun c29 => ?_) (fun c29 => ?_)
        · -- taken at 29
          have c29' := i_ne c29
          refine g_iload_n C 1 rfl dX6_rehearse_89 ?_
          refine g_iret C hr rfl hlk dX6_rehearse_90 ?_
          obtain ⟨h1, h2⟩ := hr1 c29
          exact ⟨h1, ⟨_, t2, fun h => absurd (h1.symm.trans h) c29⟩, ⟨_, _, _, _, t4, fun _ => h2⟩, frl22⟩
        · -- not taken at 29
          have c29' := i_eq c29
          obtain ⟨ha, hrh, hGs, hEs, ha80⟩ := hr0 c29
          subst ha
          refine g_aload_n C 0 rfl dX6_rehearse_32 ?_
          refine g_get C 0 6 3 (by omega) t0 rfl in6 (by decide) f29 (fun _ h9 => h9) rfl dX6_rehearse_33 ?_
          refine g_Vi C [] 117 2 (by omega) t4.1 rfl (c_X2_hasMore l D kc N adr cl 117 L sxl a sgl ch nul  t4 (by omega) (by omega)) (cwV 0 C.2.2.2.2.1 gX6_rehearse_X2_hasMore rfl rfl rfl (by decide +kernel) ⟨Nat.le_of_ble_eq_true rfl, Nat.le_of_ble_eq_true rfl⟩) rfl rfl (Nat.le_of_ble_eq_true rfl) (Nat.zero_le _) (Nat.zero_le _) dX6_rehearse_36 (fun v24 cell24 q24 => ?_)
          obtain ⟨rfl, rfl⟩ := q24
          refine g_if_eq C 89 (by decide) dX6_rehearse_39 (fun c39 => ?_) (fun c39 => ?_)
          · -- taken at 39
            have c39' := bI_f c39
            refine g_iload_n C 1 rfl dX6_rehearse_89 ?_
            refine g_iret C hr rfl hlk dX6_rehearse_90 ?_
            have hrn : rhF L ch 60 0 σ = (0, a, s) := by rw [hrh]; exact rh_end (by omega)
            rw [hrn]
            exact ⟨c29.symm, ⟨_, t2, fun _ => hEs⟩, ⟨_, _, _, _, t4, fun h => absurd rfl h⟩, frl22⟩
          · -- not taken at 39
            have c39' := bI_t c39
            refine g_aload_n C 0 rfl dX6_rehearse_42 ?_
            refine g_get C 0 6 3 (by omega) t0 rfl in6 (by decide) f29 (fun _ h9 => h9) rfl dX6_rehearse_43 ?_
            refine g_Vi C [] 117 2 (by omega) t4.1 rfl (c_X2_readEdit l D kc N adr cl 117 L sxl a sgl ch nul  t4 (by omega) hch (by omega)) (cwV 0 C.2.2.2.2.1 gX6_rehearse_X2_readEdit rfl rfl rfl (by decide +kernel) ⟨Nat.le_of_ble_eq_true rfl, Nat.le_of_ble_eq_true rfl⟩) rfl rfl (Nat.le_of_ble_eq_true rfl) (Nat.zero_le _) (Nat.zero_le _) dX6_rehearse_46 (fun v25 cell25 q25 => ?_)
            obtain ⟨nx1, nu1, rfl, hTX_27, hed, gf_26⟩ := q25
            have h_28 : cell25 0 = .inr (6, [.ref (adr 1), .ref (adr 20), .ref (adr 39), .ref (adr 117), .ref (adr 120), .ref (adr 123)]) := (gf_26 0 (by omega)).trans t0
            have h_29 : StAt cell25 adr kc 1 d0 := StAt.frame t1 (fun j h1 h2 => gf_26 j (by omega))
            have h_30 : StAt cell25 adr kc 20 dTl := StAt.frame t2 (fun j h1 h2 => gf_26 j (by omega))
            have fr_31 : ∀ j : Nat, (j < 20 ∨ 39 ≤ j ∧ j < 117 ∨ 120 ≤ j) → cell25 j = cell j := fun j hj => (gf_26 j (by omega)).trans (frl22 j hj)
            refine g_if_eq C 66 (by decide) dX6_rehearse_49 (fun c49 => ?_) (fun c49 => ?_)
            · -- taken at 49
              have c49' := bI_bf c49
              refine g_iconst C 1 (by decide) dX6_rehearse_66 ?_
              refine g_istore_n C [(1, .int 1), (0, .ref (adr 0)), (2, .int (nI i))] (by decide) rfl dX6_rehearse_67 ?_
              refine g_iload_n C 0 rfl dX6_rehearse_68 ?_
              refine g_if_ne C 83 (by decide) dX6_rehearse_69 (fun c69 => ?_) (fun c69 => ?_)
              · -- taken at 69
                have c69' := i_ne c69
                refine g_iinc C 2 [(2, .int (nI (i + 1))), (1, .int 1), (0, .ref (adr 0))] rfl (iinc_nI i) (by decide) rfl dX6_rehearse_83 ?_
                refine g_goto C 22 (by decide) dX6_rehearse_86 ?_
                have hrn : rhF L ch 60 0 σ = (1, a, s) := by rw [hrh]; exact rh_none (by omega) (by omega) (Option.not_isSome_iff_eq_none.mp (by rw [c49']; decide))
                refine g_sub [2, 1, 0] rfl ?_
                exact ih (i + 1) _ 1 a s dTl (nI a) nx1 (chF L ch a) nu1 (by omega) (by omega) h_28 h_29 h_30 hTX_27 fr_31 (fun h => absurd h (by decide)) (fun _ => by rw [hrn]; exact ⟨rfl, rfl⟩)
              · -- not taken at 69
                have c69' := i_eq c69
                exact absurd c69 (by decide)
            · -- not taken at 49
              have c49' := bI_bt c49
              obtain ⟨e, he⟩ := Option.isSome_iff_exists.mp c49'
              obtain ⟨rfl, heb, hnu⟩ := hed e he
              have hdu := ed_due he
              refine g_aload_n C 0 rfl dX6_rehearse_52 ?_
              refine g_get C 0 6 1 (by omega) h_28 rfl in6 (by decide) f16 (fun _ h9 => h9) rfl dX6_rehearse_53 ?_
              refine g_aload_n C 0 rfl dX6_rehearse_56 ?_
              refine g_get C 0 6 3 (by omega) h_28 rfl in6 (by decide) f29 (fun _ h9 => h9) rfl dX6_rehearse_57 ?_
              refine g_Vi C [.ref (adr 117)] 20 5 (by omega) h_30.1 rfl (c_X5_faultOf l D kc N adr cell25 20 dTl.1 dTl.2.1 dTl.2.2.1 dTl.2.2.2.1 dTl.2.2.2.2.1 dTl.2.2.2.2.2.1 dTl.2.2.2.2.2.2.1 dTl.2.2.2.2.2.2.2.1 dTl.2.2.2.2.2.2.2.2.1 dTl.2.2.2.2.2.2.2.2.2 117 L (nI a) e (chF L ch a) ch nu1 h_30 (by omega) hTX_27 (by omega) (isC_ch hch a)) (cwV 1 C.2.2.2.2.1 gX6_rehearse_X5_faultOf rfl rfl rfl (by decide +kernel) ⟨Nat.le_of_ble_eq_true rfl, Nat.le_of_ble_eq_true rfl⟩) rfl rfl (Nat.le_of_ble_eq_true rfl) (Nat.zero_le _) (Nat.zero_le _) dX6_rehearse_60 (fun v32 cell32 q32 => ?_)
              obtain ⟨rfl, rfl⟩ := q32
              have hfl : fltF dTl.1 (chF L ch a) (nu1 0) (nu1 1) (nu1 2) = flE L ch a s := by rw [par_flt hdu hnu, hEs.1]; rfl
              refine g_eqst (st1 := ([.int (flE L ch a s)] : List Value)) (by rw [hfl]) ?_
              refine g_goto C 67 (by decide) dX6_rehearse_63 ?_
              refine g_istore_n C [(1, .int (flE L ch a s)), (0, .ref (adr 0)), (2, .int (nI i))] (by decide) rfl dX6_rehearse_67 ?_
              refine g_iload_n C 0 rfl dX6_rehearse_68 ?_
              refine g_if_ne C 83 (by decide) dX6_rehearse_69 (fun c69 => ?_) (fun c69 => ?_)
              · -- taken at 69
                have c69' := i_ne c69
                refine g_iinc C 2 [(2, .int (nI (i + 1))), (1, .int (flE L ch a s)), (0, .ref (adr 0))] rfl (iinc_nI i) (by decide) rfl dX6_rehearse_83 ?_
                refine g_goto C 22 (by decide) dX6_rehearse_86 ?_
                have hrn : rhF L ch 60 0 σ = (flE L ch a s, a, s) := by rw [hrh]; exact rh_bad (by omega) (by omega) he c69
                refine g_sub [2, 1, 0] rfl ?_
                exact ih (i + 1) _ (flE L ch a s) a s dTl (nI a) e (chF L ch a) nu1 (by omega) (by omega) h_28 h_29 h_30 hTX_27 fr_31 (fun h => absurd h c69) (fun _ => by rw [hrn]; exact ⟨rfl, rfl⟩)
              · -- not taken at 69
                have c69' := i_eq c69
                refine g_aload_n C 1 rfl dX6_rehearse_72 ?_
                refine g_get C 0 6 1 (by omega) h_28 rfl in6 (by decide) f16 (fun _ h9 => h9) rfl dX6_rehearse_73 ?_
                refine g_aload_n C 1 rfl dX6_rehearse_76 ?_
                refine g_get C 0 6 3 (by omega) h_28 rfl in6 (by decide) f29 (fun _ h9 => h9) rfl dX6_rehearse_77 ?_
                refine g_Vv C [.ref (adr 117)] 20 5 (by omega) h_30.1 rfl (c_X5_perform l D kc N adr cell25 20 dTl.1 dTl.2.1 dTl.2.2.1 dTl.2.2.2.1 dTl.2.2.2.2.1 dTl.2.2.2.2.2.1 dTl.2.2.2.2.2.2.1 dTl.2.2.2.2.2.2.2.1 dTl.2.2.2.2.2.2.2.2.1 dTl.2.2.2.2.2.2.2.2.2 117 L (nI a) e (chF L ch a) ch nu1 h_30 (by omega) hTX_27 (by omega) (isC_ch hch a) (hfl.trans c69) (fun n1 n2 n3 => flt_62 (hfl.trans c69) ((due_sg hdu).elim (fun h => absurd h n1) (fun h => h.elim (fun h => absurd h n2) (fun h => h.elim (fun h => absurd h n3) id))))) (cwV 1 C.2.2.2.2.1 gX6_rehearse_X5_perform rfl rfl rfl (by decide +kernel) ⟨Nat.le_of_ble_eq_true rfl, Nat.le_of_ble_eq_true rfl⟩) rfl rfl (Nat.le_of_ble_eq_true rfl) (Nat.zero_le _) (Nat.zero_le _) dX6_rehearse_80 (fun cell33 q33 => ?_)
                obtain ⟨d_35, hS_36, hE1, gf_34⟩ := q33
                have hEp : Eqv d_35 (apE L ch a s) := by have h9 := hE1 s hEs hGs; rw [par_ap hdu hnu] at h9; exact h9
                have h_37 : cell33 0 = .inr (6, [.ref (adr 1), .ref (adr 20), .ref (adr 39), .ref (adr 117), .ref (adr 120), .ref (adr 123)]) := (gf_34 0 (by omega)).trans h_28
                have h_38 : StAt cell33 adr kc 1 d0 := StAt.frame h_29 (fun j h1 h2 => gf_34 j (by omega))
                have h_39 : TxAt cell33 adr kc 117 L (nI a) (nI e) (chF L ch a) ch nu1 := TxAt.frame hTX_27 (fun j h1 h2 => gf_34 j (by omega))
                have fr_40 : ∀ j : Nat, (j < 20 ∨ 39 ≤ j ∧ j < 117 ∨ 120 ≤ j) → cell33 j = cell j := fun j hj => (gf_34 j (by omega)).trans (fr_31 j hj)
                refine g_iinc C 2 [(2, .int (nI (i + 1))), (1, .int (flE L ch a s)), (0, .ref (adr 0))] rfl (iinc_nI i) (by decide) rfl dX6_rehearse_83 ?_
                refine g_goto C 22 (by decide) dX6_rehearse_86 ?_
                have hrn : rhF L ch 60 0 σ = rhF L ch (60 - (i + 1)) e (apE L ch a s) := by rw [hrh, rh_ok (by omega) (by omega) he c69]; exact congrArg (fun z => rhF L ch z e (apE L ch a s)) (by omega)
                refine g_sub [2, 1, 0] rfl ?_
                exact ih (i + 1) _ (flE L ch a s) e (apE L ch a s) d_35 (nI a) e (chF L ch a) nu1 (by omega) (by omega) h_37 h_38 hS_36 h_39 fr_40 (fun _ => ⟨rfl, hrn, good_apE hGs he c69, hEp, by omega⟩) (fun h => absurd c69 h)
  refine g_sub [2, 1, 0] rfl ?_
  exact L22 (60 + 1) 0 _ 0 0 σ d_3 sx 0 sg nu (by omega) (by omega) h_17 h_18 h_19 hTX_15 fr_23 (fun _ => ⟨rfl, rfl, hG, hE_6, by omega⟩) (fun h => absurd rfl h)
set_option maxRecDepth 100000 in
set_option maxHeartbeats 4000000 in
theorem c_X6_fault (l : Launch) (D : va_G) (kc : Nat → ClassId) (N : Nat) (adr : Nat → Nat) (cell : Nat → va_E) (σ : SD) (hn : Nat) (hi : Nat → SD) (L : Nat) (ch : Nat → Int32) (x : Int32) (hX : XAt cell adr kc σ hn hi L ch) (hG : Good σ) (hN : 125 ≤ N) : MI l yX6_fault wsX6_fault ({ frames := 6, cells := 0, slots := 0, locals := 136 }) D kc N adr cell [.ref (adr 0), .int x] (fun (w0 : Int32) (cell1 : Nat → va_E) => faultR σ L ch x = w0 ∧ XAt cell1 adr kc σ hn hi L ch) := by
  refine met_i (cc := cX6_fault) (maxL := 3) (ret := (some .int)) (by decide) rfl (Nat.le_of_ble_eq_true rfl) (lv := [(0, .ref (adr 0)), (1, .int x)]) rfl ?_
  intro Pg Ev Sv Mi args below Me Cd Ar C hr hlk hnm
  have in6 : ∀ w ∈ u_ws RX6 TX6 6, w ∈ wsX6_fault := by decide +kernel
  have k60 := C.2.2.2.2.1 (.constant RX6 60 (-1000001)) (by decide +kernel)
  have f29 := C.2.2.2.2.1 (.fieldLink RX6 29 "WordAnchors" "text" "LWordAnchors$EditText;") (by decide +kernel)
  have k182 := C.2.2.2.2.1 (.constant RX6 182 (-1000004)) (by decide +kernel)
  have hX0 := hX
  obtain ⟨x0, ⟨d0, hS, hEq⟩, ⟨dT, hST⟩, ⟨od, dh, hHI, hHE⟩, ⟨sx, nx, sg, nu, hTX⟩, ⟨bz, Sf, Mf, hBL⟩, ⟨ap, av, af, hAN⟩, hch⟩ := hX
  have en := hEq.1
  have em := hEq.2.1
  have hgn := hG.1
  have hgm := hG.2.1
  have hn40 : d0.1 ≤ 40 := hS.2.1.2.2.2.2
  have hm6 : d0.2.1 ≤ 6 := hS.2.2.2.2.2
  have hL60 : L ≤ 60 := hTX.2.2.2
  have hod : od < 4 := hHI.2.2.2.1
  have hh4 : hn ≤ 4 := hHI.2.2.2.2
  have litm1000004 : ((-1000004) : Int32).toInt = -1000004 := rfl
  have litm1000001 : ((-1000001) : Int32).toInt = -1000001 := rfl
  have litm1 : ((-1) : Int32).toInt = -1 := rfl
  have lit0 : (0 : Int32).toInt = 0 := rfl
  have lit1 : (1 : Int32).toInt = 1 := rfl
  have tn_d0_1 : (nI d0.1).toInt = ((d0.1 : Nat) : Int) := nI_toInt (by omega)
  have tn_d0_2_1 : (nI d0.2.1).toInt = ((d0.2.1 : Nat) : Int) := nI_toInt (by omega)
  have tn_L : (nI L).toInt = ((L : Nat) : Int) := nI_toInt (by omega)
  have tn_hn : (nI hn).toInt = ((hn : Nat) : Int) := nI_toInt (by omega)
  refine g_iload_n C 1 rfl dX6_fault_0 ?_
  refine g_if_lt C 9 (by decide) dX6_fault_1 (fun c1 => ?_) (fun c1 => ?_)
  · -- taken at 1
    have c1' := i_lt c1
    refine g_ldc C (-1000001) k60 dX6_fault_9 ?_
    refine g_iret C hr rfl hlk dX6_fault_11 ?_
    exact ⟨by unfold faultR; exact if_pos (by omega), hX0⟩
  · -- not taken at 1
    have c1' := i_nlt c1
    refine g_iload_n C 1 rfl dX6_fault_4 ?_
    refine g_iconst C 1 (by decide) dX6_fault_5 ?_
    refine g_icmp_le C 12 (by decide) dX6_fault_6 (fun c6 => ?_) (fun c6 => ?_)
    · -- taken at 6
      have c6' := i_le c6
      refine g_aload_n C 0 rfl dX6_fault_12 ?_
      refine g_Vi C [] 0 6 (by omega) x0 rfl (c_X6_rehearse l D kc N adr cell σ hn hi L ch hX0 hG (by omega)) (cwV 0 C.2.2.2.2.1 gX6_fault_X6_rehearse rfl rfl rfl (by decide +kernel) ⟨Nat.le_of_ble_eq_true rfl, Nat.le_of_ble_eq_true rfl⟩) rfl rfl (Nat.le_of_ble_eq_true rfl) (Nat.zero_le _) (Nat.zero_le _) dX6_fault_13 (fun v1 cell1 q1 => ?_)
      obtain ⟨rfl, ⟨dT1, hST_3, hER⟩, ⟨sx1, nx1, sg1, nu1, hTX_4, hsx1⟩, gf_2⟩ := q1
      have h_5 : cell1 0 = .inr (6, [.ref (adr 1), .ref (adr 20), .ref (adr 39), .ref (adr 117), .ref (adr 120), .ref (adr 123)]) := (gf_2 0 (by omega)).trans x0
      have h_6 : StAt cell1 adr kc 1 d0 := StAt.frame hS (fun j h1 h2 => gf_2 j (by omega))
      have h_7 : HiAt cell1 adr kc 39 od hn dh := HiAt.frame hHI (fun j h1 h2 => gf_2 j (by omega))
      have h_8 : BlAt cell1 adr kc 120 bz Sf Mf := BlAt.frame hBL (fun j h1 h2 => gf_2 j (by omega))
      have h_9 : AncAt cell1 adr kc 123 ap av af := AncAt.frame hAN (fun j h1 h2 => gf_2 j (by omega))
      refine g_istore_n C [(2, .int ((rhF L ch 60 0 σ).1)), (0, .ref (adr 0)), (1, .int x)] (by decide) rfl dX6_fault_16 ?_
      refine g_iload_n C 0 rfl dX6_fault_17 ?_
      refine g_if_ne C 24 (by decide) dX6_fault_18 (fun c18 => ?_) (fun c18 => ?_)
      · -- taken at 18
        have c18' := i_ne c18
        refine g_iload_n C 2 rfl dX6_fault_24 ?_
        refine g_if_ne C 38 (by decide) dX6_fault_25 (fun c25 => ?_) (fun c25 => ?_)
        · -- taken at 25
          have c25' := i_ne c25
          refine g_iload_n C 0 rfl dX6_fault_38 ?_
          refine g_iret C hr rfl hlk dX6_fault_39 ?_
          exact ⟨by unfold faultR; rw [if_neg (by omega), if_neg c18, if_neg c25], ⟨h_5, ⟨_, h_6, hEq⟩, ⟨_, hST_3⟩, ⟨_, _, h_7, hHE⟩, ⟨_, _, _, _, hTX_4⟩, ⟨_, _, _, h_8⟩, ⟨_, _, _, h_9⟩, hch⟩⟩
        · -- not taken at 25
          have c25' := i_eq c25
          refine g_aload_n C 1 rfl dX6_fault_28 ?_
          refine g_get C 0 6 3 (by omega) h_5 rfl in6 (by decide) f29 (fun _ h9 => h9) rfl dX6_fault_29 ?_
          refine g_Vi C [] 117 2 (by omega) hTX_4.1 rfl (c_X2_editStart l D kc N adr cell1 117 L sx1 nx1 sg1 ch nu1  hTX_4 (by omega)) (cwV 0 C.2.2.2.2.1 gX6_fault_X2_editStart rfl rfl rfl (by decide +kernel) ⟨Nat.le_of_ble_eq_true rfl, Nat.le_of_ble_eq_true rfl⟩) rfl rfl (Nat.le_of_ble_eq_true rfl) (Nat.zero_le _) (Nat.zero_le _) dX6_fault_32 (fun v10 cell10 q10 => ?_)
          obtain ⟨rfl, rfl⟩ := q10
          refine g_goto C 39 (by decide) dX6_fault_35 ?_
          refine g_iret C hr rfl hlk dX6_fault_39 ?_
          exact ⟨by unfold faultR; rw [if_neg (by omega), if_neg c18, if_pos c25]; exact (hsx1 c18).symm, ⟨h_5, ⟨_, h_6, hEq⟩, ⟨_, hST_3⟩, ⟨_, _, h_7, hHE⟩, ⟨_, _, _, _, hTX_4⟩, ⟨_, _, _, h_8⟩, ⟨_, _, _, h_9⟩, hch⟩⟩
      · -- not taken at 18
        have c18' := i_eq c18
        refine g_ldc C (-1000004) k182 dX6_fault_21 ?_
        refine g_iret C hr rfl hlk dX6_fault_23 ?_
        exact ⟨by unfold faultR; rw [if_neg (by omega)]; exact if_pos c18, ⟨h_5, ⟨_, h_6, hEq⟩, ⟨_, hST_3⟩, ⟨_, _, h_7, hHE⟩, ⟨_, _, _, _, hTX_4⟩, ⟨_, _, _, h_8⟩, ⟨_, _, _, h_9⟩, hch⟩⟩
    · -- not taken at 6
      have c6' := i_nle c6
      refine g_ldc C (-1000001) k60 dX6_fault_9 ?_
      refine g_iret C hr rfl hlk dX6_fault_11 ?_
      exact ⟨by unfold faultR; exact if_pos (by omega), hX0⟩
set_option maxRecDepth 100000 in
set_option maxHeartbeats 4000000 in
theorem c_X6_play (l : Launch) (D : va_G) (kc : Nat → ClassId) (N : Nat) (adr : Nat → Nat) (cell : Nat → va_E) (σ : SD) (hn : Nat) (hi : Nat → SD) (L : Nat) (ch : Nat → Int32)  (hX : XAt cell adr kc σ hn hi L ch) (hG : Good σ) (hN : 125 ≤ N) : MI l yX6_play wsX6_play ({ frames := 6, cells := 0, slots := 0, locals := 136 }) D kc N adr cell [.ref (adr 0)] (fun (w0 : Int32) (cell1 : Nat → va_E) => playR σ L ch = w0 ∧ XNx cell1 adr kc σ hn hi (playO σ L ch) L ch) := by
  refine met_i (cc := cX6_play) (maxL := 1) (ret := (some .int)) (by decide) rfl (Nat.le_of_ble_eq_true rfl) (lv := [(0, .ref (adr 0))]) rfl ?_
  intro Pg Ev Sv Mi args below Me Cd Ar C hr hlk hnm
  have in5 : ∀ w ∈ u_ws RX5 TX5 5, w ∈ wsX6_play := by decide +kernel
  have in6 : ∀ w ∈ u_ws RX6 TX6 6, w ∈ wsX6_play := by decide +kernel
  have f22 := C.2.2.2.2.1 (.fieldLink RX6 22 "WordAnchors" "history" "LWordAnchors$History;") (by decide +kernel)
  have f10 := C.2.2.2.2.1 (.fieldLink RX6 10 "WordAnchors" "now" "LWordAnchors$State;") (by decide +kernel)
  have f16 := C.2.2.2.2.1 (.fieldLink RX6 16 "WordAnchors" "trial" "LWordAnchors$State;") (by decide +kernel)
  have f47 := C.2.2.2.2.1 (.fieldLink RX6 47 "WordAnchors$State" "row" "LWordAnchors$Row;") (by decide +kernel)
  have k124 := C.2.2.2.2.1 (.constant RX6 124 (-1000002)) (by decide +kernel)
  have hX0 := hX
  obtain ⟨x0, ⟨d0, hS, hEq⟩, ⟨dT, hST⟩, ⟨od, dh, hHI, hHE⟩, ⟨sx, nx, sg, nu, hTX⟩, ⟨bz, Sf, Mf, hBL⟩, ⟨ap, av, af, hAN⟩, hch⟩ := hX
  have en := hEq.1
  have em := hEq.2.1
  have hgn := hG.1
  have hgm := hG.2.1
  have hn40 : d0.1 ≤ 40 := hS.2.1.2.2.2.2
  have hm6 : d0.2.1 ≤ 6 := hS.2.2.2.2.2
  have hL60 : L ≤ 60 := hTX.2.2.2
  have hod : od < 4 := hHI.2.2.2.1
  have hh4 : hn ≤ 4 := hHI.2.2.2.2
  have litm1000002 : ((-1000002) : Int32).toInt = -1000002 := rfl
  have litm1 : ((-1) : Int32).toInt = -1 := rfl
  have lit0 : (0 : Int32).toInt = 0 := rfl
  have lit1 : (1 : Int32).toInt = 1 := rfl
  have tn_d0_1 : (nI d0.1).toInt = ((d0.1 : Nat) : Int) := nI_toInt (by omega)
  have tn_d0_2_1 : (nI d0.2.1).toInt = ((d0.2.1 : Nat) : Int) := nI_toInt (by omega)
  have tn_L : (nI L).toInt = ((L : Nat) : Int) := nI_toInt (by omega)
  have tn_hn : (nI hn).toInt = ((hn : Nat) : Int) := nI_toInt (by omega)
  refine g_aload_n C 0 rfl dX6_play_0 ?_
  refine g_Vi C [] 0 6 (by omega) x0 rfl (c_X6_rehearse l D kc N adr cell σ hn hi L ch hX0 hG (by omega)) (cwV 0 C.2.2.2.2.1 gX6_play_X6_rehearse rfl rfl rfl (by decide +kernel) ⟨Nat.le_of_ble_eq_true rfl, Nat.le_of_ble_eq_true rfl⟩) rfl rfl (Nat.le_of_ble_eq_true rfl) (Nat.zero_le _) (Nat.zero_le _) dX6_play_1 (fun v1 cell1 q1 => ?_)
  obtain ⟨rfl, ⟨dT1, hST_3, hER⟩, ⟨sx1, nx1, sg1, nu1, hTX_4, hsx1⟩, gf_2⟩ := q1
  have h_5 : cell1 0 = .inr (6, [.ref (adr 1), .ref (adr 20), .ref (adr 39), .ref (adr 117), .ref (adr 120), .ref (adr 123)]) := (gf_2 0 (by omega)).trans x0
  have h_6 : StAt cell1 adr kc 1 d0 := StAt.frame hS (fun j h1 h2 => gf_2 j (by omega))
  have h_7 : HiAt cell1 adr kc 39 od hn dh := HiAt.frame hHI (fun j h1 h2 => gf_2 j (by omega))
  have h_8 : BlAt cell1 adr kc 120 bz Sf Mf := BlAt.frame hBL (fun j h1 h2 => gf_2 j (by omega))
  have h_9 : AncAt cell1 adr kc 123 ap av af := AncAt.frame hAN (fun j h1 h2 => gf_2 j (by omega))
  refine g_if_eq C 10 (by decide) dX6_play_4 (fun c4 => ?_) (fun c4 => ?_)
  · -- taken at 4
    have c4' := i_eq c4
    refine g_aload_n C 0 rfl dX6_play_10 ?_
    refine g_get C 0 6 2 (by omega) h_5 rfl in6 (by decide) f22 (fun _ h9 => h9) rfl dX6_play_11 ?_
    refine g_aload_n C 0 rfl dX6_play_14 ?_
    refine g_get C 0 6 0 (by omega) h_5 rfl in6 (by decide) f10 (fun _ h9 => h9) rfl dX6_play_15 ?_
    refine g_Vv C [.ref (adr 1)] 39 3 (by omega) h_7.1 rfl (c_X3_record l D kc N adr cell1 39 od hn dh 1 d0 h_7 (by omega) h_6 (by omega) (by omega)) (cwV 1 C.2.2.2.2.1 gX6_play_X3_record rfl rfl rfl (by decide +kernel) ⟨Nat.le_of_ble_eq_true rfl, Nat.le_of_ble_eq_true rfl⟩) rfl rfl (Nat.le_of_ble_eq_true rfl) (Nat.zero_le _) (Nat.zero_le _) dX6_play_18 (fun cell10 q10 => ?_)
    obtain ⟨dc, hHI_12, hEc, gf_11⟩ := q10
    have hHE1 := ring_rec hod hh4 hHE (Eqv.tr hEc hEq)
    have h_13 : cell10 0 = .inr (6, [.ref (adr 1), .ref (adr 20), .ref (adr 39), .ref (adr 117), .ref (adr 120), .ref (adr 123)]) := (gf_11 0 (by omega)).trans h_5
    have h_14 : StAt cell10 adr kc 1 d0 := StAt.frame h_6 (fun j h1 h2 => gf_11 j (by omega))
    have h_15 : StAt cell10 adr kc 20 dT1 := StAt.frame hST_3 (fun j h1 h2 => gf_11 j (by omega))
    have h_16 : TxAt cell10 adr kc 117 L sx1 (nI nx1) sg1 ch nu1 := TxAt.frame hTX_4 (fun j h1 h2 => gf_11 j (by omega))
    have h_17 : BlAt cell10 adr kc 120 bz Sf Mf := BlAt.frame h_8 (fun j h1 h2 => gf_11 j (by omega))
    have h_18 : AncAt cell10 adr kc 123 ap av af := AncAt.frame h_9 (fun j h1 h2 => gf_11 j (by omega))
    refine g_aload_n C 0 rfl dX6_play_21 ?_
    refine g_get C 0 6 0 (by omega) h_13 rfl in6 (by decide) f10 (fun _ h9 => h9) rfl dX6_play_22 ?_
    refine g_aload_n C 0 rfl dX6_play_25 ?_
    refine g_get C 0 6 1 (by omega) h_13 rfl in6 (by decide) f16 (fun _ h9 => h9) rfl dX6_play_26 ?_
    refine g_Vv C [.ref (adr 20)] 1 5 (by omega) h_14.1 rfl (c_X5_copyFrom l D kc N adr cell10 1 d0.1 d0.2.1 d0.2.2.1 d0.2.2.2.1 d0.2.2.2.2.1 d0.2.2.2.2.2.1 d0.2.2.2.2.2.2.1 d0.2.2.2.2.2.2.2.1 d0.2.2.2.2.2.2.2.2.1 d0.2.2.2.2.2.2.2.2.2 20 dT1.1 dT1.2.1 dT1.2.2.1 dT1.2.2.2.1 dT1.2.2.2.2.1 dT1.2.2.2.2.2.1 dT1.2.2.2.2.2.2.1 dT1.2.2.2.2.2.2.2.1 dT1.2.2.2.2.2.2.2.2.1 dT1.2.2.2.2.2.2.2.2.2 h_14 (by omega) h_15 (by omega) (by omega)) (cwV 1 C.2.2.2.2.1 gX6_play_X5_copyFrom rfl rfl rfl (by decide +kernel) ⟨Nat.le_of_ble_eq_true rfl, Nat.le_of_ble_eq_true rfl⟩) rfl rfl (Nat.le_of_ble_eq_true rfl) (Nat.zero_le _) (Nat.zero_le _) dX6_play_29 (fun cell19 q19 => ?_)
    obtain ⟨hS_22, gf_20⟩ := q19
    obtain ⟨d_21, hS_23, hE_24⟩ : ∃ d9 : SD, StAt cell19 adr kc 1 d9 ∧ Eqv d9 ((rhF L ch 60 0 σ).2.2) := ⟨_, hS_22, Eqv.tr (cp_eqv (d2 := dT1) h_15.2.1.2.2.2.2 h_15.2.2.2.2.2) (hER c4)⟩
    have h_25 : cell19 0 = .inr (6, [.ref (adr 1), .ref (adr 20), .ref (adr 39), .ref (adr 117), .ref (adr 120), .ref (adr 123)]) := (gf_20 0 (by omega)).trans h_13
    have h_26 : StAt cell19 adr kc 20 dT1 := StAt.frame h_15 (fun j h1 h2 => gf_20 j (by omega))
    have h_27 : HiAt cell19 adr kc 39 (if hn < 4 then od else (od + 1) % 4) (if hn < 4 then hn + 1 else 4) (updS dh ((od + hn) % 4) dc) := HiAt.frame hHI_12 (fun j h1 h2 => gf_20 j (by omega))
    have h_28 : TxAt cell19 adr kc 117 L sx1 (nI nx1) sg1 ch nu1 := TxAt.frame h_16 (fun j h1 h2 => gf_20 j (by omega))
    have h_29 : BlAt cell19 adr kc 120 bz Sf Mf := BlAt.frame h_17 (fun j h1 h2 => gf_20 j (by omega))
    have h_30 : AncAt cell19 adr kc 123 ap av af := AncAt.frame h_18 (fun j h1 h2 => gf_20 j (by omega))
    refine g_aload_n C 0 rfl dX6_play_32 ?_
    refine g_get C 0 6 0 (by omega) h_25 rfl in6 (by decide) f10 (fun _ h9 => h9) rfl dX6_play_33 ?_
    refine g_get C 1 5 0 (by omega) hS_23.1 rfl in5 (by decide) f47 (fun _ h9 => h9) rfl dX6_play_36 ?_
    refine g_Vi C [] (1 + 1) 4 (by omega) hS_23.2.1.1 rfl (c_X4_size l D kc N adr cell19 (1 + 1) d_21.2.2.2.1 d_21.2.2.2.2.1 d_21.2.2.2.2.2.1 d_21.1  hS_23.2.1 (by omega)) (cwV 0 C.2.2.2.2.1 gX6_play_X4_size rfl rfl rfl (by decide +kernel) ⟨Nat.le_of_ble_eq_true rfl, Nat.le_of_ble_eq_true rfl⟩) rfl rfl (Nat.le_of_ble_eq_true rfl) (Nat.zero_le _) (Nat.zero_le _) dX6_play_39 (fun v31 cell31 q31 => ?_)
    obtain ⟨rfl, rfl⟩ := q31
    refine g_iret C hr rfl hlk dX6_play_42 ?_
    refine ⟨?_, XNx.yes (s := (rhF L ch 60 0 σ).2.2) (by unfold playO; exact if_pos c4) ⟨h_25, ⟨_, hS_23, hE_24⟩, ⟨_, h_26⟩, ⟨_, _, h_27, hHE1⟩, ⟨_, _, _, _, h_28⟩, ⟨_, _, _, h_29⟩, ⟨_, _, _, h_30⟩, hch⟩⟩
    unfold playR; rw [if_neg (fun h => h c4), hE_24.1]
  · -- not taken at 4
    have c4' := i_ne c4
    refine g_ldc C (-1000002) k124 dX6_play_7 ?_
    refine g_iret C hr rfl hlk dX6_play_9 ?_
    exact ⟨by unfold playR; exact if_pos c4, XNx.no (by unfold playO; exact if_neg c4) ⟨h_5, ⟨_, h_6, hEq⟩, ⟨_, hST_3⟩, ⟨_, _, h_7, hHE⟩, ⟨_, _, _, _, hTX_4⟩, ⟨_, _, _, h_8⟩, ⟨_, _, _, h_9⟩, hch⟩⟩
