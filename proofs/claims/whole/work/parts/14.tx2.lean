set_option maxRecDepth 100000 in
set_option maxHeartbeats 4000000 in
theorem c_X2_readEdit (l : Launch) (D : va_G) (kc : Nat → ClassId) (N : Nat) (adr : Nat → Nat) (cell : Nat → va_E) (t L : Nat) (sx : Int32) (q : Nat) (sg : Int32) (ch nu : Nat → Int32)  (hT : TxAt cell adr kc t L sx (nI q) sg ch nu) (hN : t + 3 ≤ N) (hch : ∀ j : Nat, j < L → isC (ch j)) (hq : q < 60) : MI l yX2_readEdit wsX2_readEdit ({ frames := 2, cells := 0, slots := 0, locals := 43 }) D kc N adr cell [.ref (adr t)] (fun (w : Int32) (cell1 : Nat → va_E) => ∃ (nx1 : Nat) (nu1 : Nat → Int32), bI (edF L ch q).isSome = w ∧ TxAt cell1 adr kc t L (nI q) (nI nx1) (chF L ch q) ch nu1 ∧ (∀ e1 : Nat, edF L ch q = some e1 → e1 = nx1 ∧ e1 ≤ q + 11 ∧ ∀ k : Nat, k < dueN (chF L ch q) → nu1 k = nvF L ch (q + 1) k) ∧ ∀ j : Nat, (j < t ∨ t + 3 ≤ j) → cell1 j = cell j) := by
  refine met_i (cc := cX2_readEdit) (maxL := 4) (ret := (some .boolean)) (by decide) rfl (Nat.le_of_ble_eq_true rfl) (lv := [(0, .ref (adr t))]) rfl ?_
  intro Pg Ev Sv Mi args below Me Cd Ar C hr hlk hnm
  have in2 : ∀ w ∈ u_ws RX2 TX2 6, w ∈ wsX2_readEdit := by decide +kernel
  have f23 := C.2.2.2.2.1 (.fieldLink RX2 23 "WordAnchors$EditText" "next" "I") (by decide +kernel)
  have f26 := C.2.2.2.2.1 (.fieldLink RX2 26 "WordAnchors$EditText" "start" "I") (by decide +kernel)
  have f29 := C.2.2.2.2.1 (.fieldLink RX2 29 "WordAnchors$EditText" "sign" "C") (by decide +kernel)
  obtain ⟨t0, t1, t2, hL⟩ := hT
  have hdue := dueN_le (chF L ch q)
  have litm1 : ((-1) : Int32).toInt = -1 := rfl
  have lit0 : (0 : Int32).toInt = 0 := rfl
  have lit1 : (1 : Int32).toInt = 1 := rfl
  have lit44 : (44 : Int32).toInt = 44 := rfl
  have lit59 : (59 : Int32).toInt = 59 := rfl
  have tn_L : (nI L).toInt = ((L : Nat) : Int) := nI_toInt (by omega)
  have tn_q : (nI q).toInt = ((q : Nat) : Int) := nI_toInt (by omega)
  have tn_dueN__chF_L_ch_q_ : (nI (dueN (chF L ch q))).toInt = ((dueN (chF L ch q) : Nat) : Int) := nI_toInt (by omega)
  refine g_aload_n C 0 rfl dX2_readEdit_0 ?_
  refine g_aload_n C 0 rfl dX2_readEdit_1 ?_
  refine g_get C t 2 4 (by omega) t0 rfl in2 (by decide) f23 (fun _ h9 => h9) rfl dX2_readEdit_2 ?_
  refine g_put C t 2 3 (by omega) t0 rfl in2 tyX2 tyX2_ok nmX2 (by decide) f26 (fun _ h9 => h9) rfl (ty := .int) (by decide +kernel) rfl rfl (Nat.le_of_ble_eq_true rfl) dX2_readEdit_5 ?_
  refine g_cell (fun cell1 ec1 => ?_)
  have h_2 : cell1 t = .inr (2, [.ref (adr (t + 1)), .ref (adr (t + 2)), .int (nI L), .int (nI q), .int (nI q), .int sg]) := by rw [ec1]; exact va_up_self _ _ _
  have h_3 : cell1 (t + 1) = .inl (kc 1, 60, .inl ch) := by rw [ec1, va_up_ne _ _ (by omega)]; exact t1
  have h_4 : cell1 (t + 2) = .inl (kc 0, 3, .inl nu) := by rw [ec1, va_up_ne _ _ (by omega)]; exact t2
  have fr_5 : ∀ j : Nat, (j < t ∨ t + 3 ≤ j) → cell1 j = cell j := fun j hj => by rw [ec1, va_up_ne _ _ (by omega)]
  refine g_aload_n C 0 rfl dX2_readEdit_8 ?_
  refine g_aload_n C 0 rfl dX2_readEdit_9 ?_
  refine g_Vi C [] t 2 (by omega) h_2 rfl (c_X2_nextCharacter l D kc N adr cell1 t L (nI q) q sg ch nu  ⟨h_2, h_3, h_4, by omega⟩ (by omega) hch (by omega)) (cwV 0 C.2.2.2.2.1 gX2_readEdit_X2_nextCharacter rfl rfl rfl (by decide +kernel) ⟨Nat.le_of_ble_eq_true rfl, Nat.le_of_ble_eq_true rfl⟩) rfl rfl (Nat.le_of_ble_eq_true rfl) (Nat.zero_le _) (Nat.zero_le _) dX2_readEdit_10 (fun v6 cell6 q6 => ?_)
  obtain ⟨rfl, rfl⟩ := q6
  refine g_put C t 2 5 (by omega) h_2 rfl in2 tyX2 tyX2_ok nmX2 (by decide) f29 (fun _ h9 => h9) rfl (ty := .char) (by decide +kernel) (isC_n (isC_ch hch q)) (isC_f (isC_ch hch q)) (Nat.le_of_ble_eq_true rfl) dX2_readEdit_13 ?_
  refine g_cell (fun cell7 ec7 => ?_)
  have h_8 : cell7 t = .inr (2, [.ref (adr (t + 1)), .ref (adr (t + 2)), .int (nI L), .int (nI q), .int (nI q), .int (chF L ch q)]) := by rw [ec7]; exact va_up_self _ _ _
  have h_9 : cell7 (t + 1) = .inl (kc 1, 60, .inl ch) := by rw [ec7, va_up_ne _ _ (by omega)]; exact h_3
  have h_10 : cell7 (t + 2) = .inl (kc 0, 3, .inl nu) := by rw [ec7, va_up_ne _ _ (by omega)]; exact h_4
  have fr_11 : ∀ j : Nat, (j < t ∨ t + 3 ≤ j) → cell7 j = cell j := fun j hj => by rw [ec7, va_up_ne _ _ (by omega)]; exact fr_5 j hj
  refine g_aload_n C 0 rfl dX2_readEdit_16 ?_
  refine g_dup C rfl dX2_readEdit_17 ?_
  refine g_get C t 2 4 (by omega) h_8 rfl in2 (by decide) f23 (fun _ h9 => h9) rfl dX2_readEdit_18 ?_
  refine g_iconst C 1 (by decide) dX2_readEdit_21 ?_
  refine g_iadd C dX2_readEdit_22 ?_
  refine g_eqst (show ([.int ((nI q) + 1), .ref (adr t)] : List Value) = ([.int (nI (q + 1)), .ref (adr t)] : List Value) from by rw [nI_1]) ?_
  refine g_put C t 2 4 (by omega) h_8 rfl in2 tyX2 tyX2_ok nmX2 (by decide) f23 (fun _ h9 => h9) rfl (ty := .int) (by decide +kernel) rfl rfl (Nat.le_of_ble_eq_true rfl) dX2_readEdit_23 ?_
  refine g_cell (fun cell13 ec13 => ?_)
  have h_14 : cell13 t = .inr (2, [.ref (adr (t + 1)), .ref (adr (t + 2)), .int (nI L), .int (nI q), .int (nI (q + 1)), .int (chF L ch q)]) := by rw [ec13]; exact va_up_self _ _ _
  have h_15 : cell13 (t + 1) = .inl (kc 1, 60, .inl ch) := by rw [ec13, va_up_ne _ _ (by omega)]; exact h_9
  have h_16 : cell13 (t + 2) = .inl (kc 0, 3, .inl nu) := by rw [ec13, va_up_ne _ _ (by omega)]; exact h_10
  have fr_17 : ∀ j : Nat, (j < t ∨ t + 3 ≤ j) → cell13 j = cell j := fun j hj => by rw [ec13, va_up_ne _ _ (by omega)]; exact fr_11 j hj
  refine g_aload_n C 0 rfl dX2_readEdit_26 ?_
  refine g_get C t 2 5 (by omega) h_14 rfl in2 (by decide) f29 (fun _ h9 => h9) rfl dX2_readEdit_27 ?_
  refine g_Si C [.int (chF L ch q)] (c_X2_numbersBehind l D kc N adr cell13 (chF L ch q)) (va_cwS 1 C.2.2.2.2.1 gX2_readEdit_X2_numbersBehind rfl rfl rfl (by decide +kernel) ⟨Nat.le_of_ble_eq_true rfl, Nat.le_of_ble_eq_true rfl⟩) rfl rfl (Nat.le_of_ble_eq_true rfl) (Nat.zero_le _) (Nat.zero_le _) dX2_readEdit_30 (fun v18 cell18 q18 => ?_)
  obtain ⟨rfl, rfl⟩ := q18
  refine g_istore_n C [(1, .int (nI (dueN (chF L ch q)))), (0, .ref (adr t))] (by decide) rfl dX2_readEdit_33 ?_
  refine g_iload_n C 0 rfl dX2_readEdit_34 ?_
  refine g_if_le C 42 (by decide) dX2_readEdit_35 (fun c35 => ?_) (fun c35 => ?_)
  · -- taken at 35
    have c35' := i_le c35
    refine g_iconst C 0 (by decide) dX2_readEdit_42 ?_
    refine g_istore_n C [(2, .int 0), (1, .int (nI (dueN (chF L ch q)))), (0, .ref (adr t))] (by decide) rfl dX2_readEdit_43 ?_
    refine g_iconst C 0 (by decide) dX2_readEdit_44 ?_
    refine g_istore_n C [(3, .int 0), (2, .int 0), (1, .int (nI (dueN (chF L ch q)))), (0, .ref (adr t))] (by decide) rfl dX2_readEdit_45 ?_
    refine g_iload_n C 0 rfl dX2_readEdit_46 ?_
    refine g_iload_n C 2 rfl dX2_readEdit_47 ?_
    refine g_icmp_ge C 88 (by decide) dX2_readEdit_48 (fun c48 => ?_) (fun c48 => ?_)
    · -- taken at 48
      have c48' := i_le c48
      refine g_iload_n C 1 rfl dX2_readEdit_88 ?_
      refine g_if_eq C 105 (by decide) dX2_readEdit_89 (fun c89 => ?_) (fun c89 => ?_)
      · -- taken at 89
        have c89' := i_eq c89
        refine g_iconst C 0 (by decide) dX2_readEdit_105 ?_
        refine g_iret C hr rfl hlk dX2_readEdit_106 ?_
        have he : edF L ch q = none := ed_none (by omega)
        exact ⟨_, _, by rw [he]; rfl, ⟨h_14, h_15, h_16, by omega⟩, fun e1 h1 => (by rw [he] at h1; cases h1), fr_17⟩
      · -- not taken at 89
        have c89' := i_ne c89
        exact absurd c89 (by decide)
    · -- not taken at 48
      have c48' := i_nle c48
      refine g_iload_n C 1 rfl dX2_readEdit_51 ?_
      refine g_if_eq C 88 (by decide) dX2_readEdit_52 (fun c52 => ?_) (fun c52 => ?_)
      · -- taken at 52
        have c52' := i_eq c52
        refine g_iload_n C 1 rfl dX2_readEdit_88 ?_
        refine g_if_eq C 105 (by decide) dX2_readEdit_89 (fun c89 => ?_) (fun c89 => ?_)
        · -- taken at 89
          have c89' := i_eq c89
          refine g_iconst C 0 (by decide) dX2_readEdit_105 ?_
          refine g_iret C hr rfl hlk dX2_readEdit_106 ?_
          have he : edF L ch q = none := ed_none (by omega)
          exact ⟨_, _, by rw [he]; rfl, ⟨h_14, h_15, h_16, by omega⟩, fun e1 h1 => (by rw [he] at h1; cases h1), fr_17⟩
        · -- not taken at 89
          have c89' := i_ne c89
          exact absurd c89 (by decide)
      · -- not taken at 52
        have c52' := i_ne c52
        exact absurd c52 (by decide)
  · -- not taken at 35
    have c35' := i_nle c35
    refine g_iconst C 1 (by decide) dX2_readEdit_38 ?_
    refine g_goto C 43 (by decide) dX2_readEdit_39 ?_
    refine g_istore_n C [(2, .int 1), (1, .int (nI (dueN (chF L ch q)))), (0, .ref (adr t))] (by decide) rfl dX2_readEdit_43 ?_
    refine g_iconst C 0 (by decide) dX2_readEdit_44 ?_
    refine g_istore_n C [(3, .int 0), (2, .int 1), (1, .int (nI (dueN (chF L ch q)))), (0, .ref (adr t))] (by decide) rfl dX2_readEdit_45 ?_
    have L46 : ∀ (fu i : Nat) (cl : Nat → va_E) (x2 : Int32) (nxv : Nat) (nuv : Nat → Int32), i ≤ dueN (chF L ch q) → dueN (chF L ch q) < i + fu → (y0 : cl t = .inr (2, [.ref (adr (t + 1)), .ref (adr (t + 2)), .int (nI L), .int (nI q), .int (nI nxv), .int (chF L ch q)])) → (y1 : cl (t + 1) = .inl (kc 1, 60, .inl ch)) → (y2 : cl (t + 2) = .inl (kc 0, 3, .inl nuv)) → (frl46 : ∀ j : Nat, (j < t ∨ t + 3 ≤ j) → cl j = cell j) → (hx2 : x2 = bI (pnF L ch (q + 1) i).isSome) → (hq0 : ∀ z : Nat, pnF L ch (q + 1) i = some z → z = nxv ∧ z ≤ q + 1 + 3 * i ∧ ∀ j : Nat, j < i → nuv j = nvF L ch (q + 1) j) → G Pg l Ev (headSpec wsX2_readEdit { frames := 2, cells := 0, slots := 0, locals := 43 }).room Sv Mi args below Me Cd D N adr Ar Sv.heap 4 0 0 (MQ below (va_Qi (fun (w : Int32) (cell1 : Nat → va_E) => ∃ (nx1 : Nat) (nu1 : Nat → Int32), bI (edF L ch q).isSome = w ∧ TxAt cell1 adr kc t L (nI q) (nI nx1) (chF L ch q) ch nu1 ∧ (∀ e1 : Nat, edF L ch q = some e1 → e1 = nx1 ∧ e1 ≤ q + 11 ∧ ∀ k : Nat, k < dueN (chF L ch q) → nu1 k = nvF L ch (q + 1) k) ∧ ∀ j : Nat, (j < t ∨ t + 3 ≤ j) → cell1 j = cell j) (fun (cell1 : Nat → va_E) (t : State) => va_P D vwCl (wld N adr cell1) t.heap) Ar) args Sv 0 0 Ar) cl 46 [(0, .ref (adr t)), (1, .int (nI (dueN (chF L ch q)))), (2, .int x2), (3, .int (nI i))] ([] : List Value) := by
      intro fu
      induction fu with
      | zero => intro i cl x2 nxv nuv hle hfu; exact absurd hfu (by omega)
      | succ fu ih =>
        intro i cl x2 nxv nuv hle46 hfu46 y0 y1 y2 frl46 hx2 hq0
        have tn_i : (nI i).toInt = ((i : Nat) : Int) := nI_toInt (by omega)
        refine g_iload_n C 3 rfl dX2_readEdit_46 ?_
        refine g_iload_n C 1 rfl dX2_readEdit_47 ?_
        refine g_icmp_ge C 88 (by decide) dX2_readEdit_48 (fun c48 => ?_) (fun c48 => ?_)
        · -- taken at 48
          have c48' := i_le c48
          refine g_iload_n C 2 rfl dX2_readEdit_88 ?_
          refine g_if_eq C 105 (by decide) dX2_readEdit_89 (fun c89 => ?_) (fun c89 => ?_)
          · -- taken at 89
            have c89' := i_eq c89
            refine g_iconst C 0 (by decide) dX2_readEdit_105 ?_
            refine g_iret C hr rfl hlk dX2_readEdit_106 ?_
            have hno : pnF L ch (q + 1) i = none := Option.not_isSome_iff_eq_none.mp (by have h9 := c89; rw [hx2] at h9; rw [bI_bf h9]; decide)
            have he : edF L ch q = none := ed_pn (by omega) hno
            exact ⟨_, _, by rw [he]; rfl, ⟨y0, y1, y2, by omega⟩, fun e1 h1 => (by rw [he] at h1; cases h1), frl46⟩
          · -- not taken at 89
            have c89' := i_ne c89
            obtain ⟨z, hz⟩ := Option.isSome_iff_exists.mp (show (pnF L ch (q + 1) i).isSome = true by have h9 := c89; rw [hx2] at h9; exact bI_bt h9)
            obtain ⟨rfl, hzb, hnu⟩ := hq0 z hz
            have hie : i = dueN (chF L ch q) := by first | omega | (exfalso; exact c89 c52)
            have hze : pnF L ch (q + 1) (dueN (chF L ch q)) = some z := by rw [← hie]; exact hz
            refine g_aload_n C 0 rfl dX2_readEdit_92 ?_
            refine g_bipush C 59 (by decide) dX2_readEdit_93 ?_
            refine g_Vi C [.int 59] t 2 (by omega) y0 rfl (c_X2_readSign l D kc N adr cl t L (nI q) z (chF L ch q) ch nuv 59 ⟨y0, y1, y2, by omega⟩ (by omega) hch (by have := dueN_le (chF L ch q); omega)) (cwV 1 C.2.2.2.2.1 gX2_readEdit_X2_readSign rfl rfl rfl (by decide +kernel) ⟨Nat.le_of_ble_eq_true rfl, Nat.le_of_ble_eq_true rfl⟩) rfl rfl (Nat.le_of_ble_eq_true rfl) (Nat.zero_le _) (Nat.zero_le _) dX2_readEdit_95 (fun v19 cell19 q19 => ?_)
            obtain ⟨rfl, ⟨g_20, g_21, g_22, g_23⟩, gf_24⟩ := q19
            have g_20 : cell19 t = .inr (2, [.ref (adr (t + 1)), .ref (adr (t + 2)), .int (nI L), .int (nI q), .int (nI (if chF L ch z = 59 then z + 1 else z)), .int (chF L ch q)]) := g_20
            have g_21 : cell19 (t + 1) = .inl (kc 1, 60, .inl ch) := g_21
            have g_22 : cell19 (t + 2) = .inl (kc 0, 3, .inl nuv) := g_22
            have fr_25 : ∀ j : Nat, (j < t ∨ t + 3 ≤ j) → cell19 j = cell j := fun j hj => (gf_24 j (by omega)).trans (frl46 j hj)
            refine g_if_eq C 105 (by decide) dX2_readEdit_98 (fun c98 => ?_) (fun c98 => ?_)
            · -- taken at 98
              have c98' := bI_f c98
              refine g_iconst C 0 (by decide) dX2_readEdit_105 ?_
              refine g_iret C hr rfl hlk dX2_readEdit_106 ?_
              have he : edF L ch q = none := by rw [ed_some (by omega) hze]; exact if_neg c98'
              exact ⟨_, _, by rw [he]; rfl, ⟨g_20, g_21, g_22, by omega⟩, fun e1 h1 => (by rw [he] at h1; cases h1), fr_25⟩
            · -- not taken at 98
              have c98' := bI_t c98
              refine g_iconst C 1 (by decide) dX2_readEdit_101 ?_
              refine g_goto C 106 (by decide) dX2_readEdit_102 ?_
              refine g_iret C hr rfl hlk dX2_readEdit_106 ?_
              have he : edF L ch q = some (z + 1) := by rw [ed_some (by omega) hze]; exact if_pos c98'
              exact ⟨_, _, by rw [he]; rfl, ⟨g_20, g_21, g_22, by omega⟩, fun e1 h1 => (by rw [he] at h1; cases h1; exact ⟨(by rw [if_pos c98']), (by omega), fun j hj => hnu j (by omega)⟩), fr_25⟩
        · -- not taken at 48
          have c48' := i_nle c48
          refine g_iload_n C 2 rfl dX2_readEdit_51 ?_
          refine g_if_eq C 88 (by decide) dX2_readEdit_52 (fun c52 => ?_) (fun c52 => ?_)
          · -- taken at 52
            have c52' := i_eq c52
            refine g_iload_n C 2 rfl dX2_readEdit_88 ?_
            refine g_if_eq C 105 (by decide) dX2_readEdit_89 (fun c89 => ?_) (fun c89 => ?_)
            · -- taken at 89
              have c89' := i_eq c89
              refine g_iconst C 0 (by decide) dX2_readEdit_105 ?_
              refine g_iret C hr rfl hlk dX2_readEdit_106 ?_
              have hno : pnF L ch (q + 1) i = none := Option.not_isSome_iff_eq_none.mp (by have h9 := c89; rw [hx2] at h9; rw [bI_bf h9]; decide)
              have he : edF L ch q = none := ed_pn (by omega) hno
              exact ⟨_, _, by rw [he]; rfl, ⟨y0, y1, y2, by omega⟩, fun e1 h1 => (by rw [he] at h1; cases h1), frl46⟩
            · -- not taken at 89
              have c89' := i_ne c89
              obtain ⟨z, hz⟩ := Option.isSome_iff_exists.mp (show (pnF L ch (q + 1) i).isSome = true by have h9 := c89; rw [hx2] at h9; exact bI_bt h9)
              obtain ⟨rfl, hzb, hnu⟩ := hq0 z hz
              have hie : i = dueN (chF L ch q) := by first | omega | (exfalso; exact c89 c52)
              have hze : pnF L ch (q + 1) (dueN (chF L ch q)) = some z := by rw [← hie]; exact hz
              refine g_aload_n C 0 rfl dX2_readEdit_92 ?_
              refine g_bipush C 59 (by decide) dX2_readEdit_93 ?_
              refine g_Vi C [.int 59] t 2 (by omega) y0 rfl (c_X2_readSign l D kc N adr cl t L (nI q) z (chF L ch q) ch nuv 59 ⟨y0, y1, y2, by omega⟩ (by omega) hch (by have := dueN_le (chF L ch q); omega)) (cwV 1 C.2.2.2.2.1 gX2_readEdit_X2_readSign rfl rfl rfl (by decide +kernel) ⟨Nat.le_of_ble_eq_true rfl, Nat.le_of_ble_eq_true rfl⟩) rfl rfl (Nat.le_of_ble_eq_true rfl) (Nat.zero_le _) (Nat.zero_le _) dX2_readEdit_95 (fun v26 cell26 q26 => ?_)
              obtain ⟨rfl, ⟨g_27, g_28, g_29, g_30⟩, gf_31⟩ := q26
              have g_27 : cell26 t = .inr (2, [.ref (adr (t + 1)), .ref (adr (t + 2)), .int (nI L), .int (nI q), .int (nI (if chF L ch z = 59 then z + 1 else z)), .int (chF L ch q)]) := g_27
              have g_28 : cell26 (t + 1) = .inl (kc 1, 60, .inl ch) := g_28
              have g_29 : cell26 (t + 2) = .inl (kc 0, 3, .inl nuv) := g_29
              have fr_32 : ∀ j : Nat, (j < t ∨ t + 3 ≤ j) → cell26 j = cell j := fun j hj => (gf_31 j (by omega)).trans (frl46 j hj)
              refine g_if_eq C 105 (by decide) dX2_readEdit_98 (fun c98 => ?_) (fun c98 => ?_)
              · -- taken at 98
                have c98' := bI_f c98
                refine g_iconst C 0 (by decide) dX2_readEdit_105 ?_
                refine g_iret C hr rfl hlk dX2_readEdit_106 ?_
                have he : edF L ch q = none := by rw [ed_some (by omega) hze]; exact if_neg c98'
                exact ⟨_, _, by rw [he]; rfl, ⟨g_27, g_28, g_29, by omega⟩, fun e1 h1 => (by rw [he] at h1; cases h1), fr_32⟩
              · -- not taken at 98
                have c98' := bI_t c98
                refine g_iconst C 1 (by decide) dX2_readEdit_101 ?_
                refine g_goto C 106 (by decide) dX2_readEdit_102 ?_
                refine g_iret C hr rfl hlk dX2_readEdit_106 ?_
                have he : edF L ch q = some (z + 1) := by rw [ed_some (by omega) hze]; exact if_pos c98'
                exact ⟨_, _, by rw [he]; rfl, ⟨g_27, g_28, g_29, by omega⟩, fun e1 h1 => (by rw [he] at h1; cases h1; exact ⟨(by rw [if_pos c98']), (by omega), fun j hj => hnu j (by omega)⟩), fr_32⟩
          · -- not taken at 52
            have c52' := i_ne c52
            obtain ⟨z, hz⟩ := Option.isSome_iff_exists.mp (show (pnF L ch (q + 1) i).isSome = true by rw [hx2] at c52; exact bI_bt c52)
            obtain ⟨rfl, hzb, hnu⟩ := hq0 z hz
            have hp1 := pn_s hz
            refine g_iload_n C 3 rfl dX2_readEdit_55 ?_
            refine g_if_eq C 68 (by decide) dX2_readEdit_56 (fun c56 => ?_) (fun c56 => ?_)
            · -- taken at 56
              have c56' := i_eq c56
              have hi0 : i = 0 := by omega
              have hbg : nbg i z = z := if_pos hi0
              have hcm : ¬ (¬ i = 0 ∧ ¬ chF L ch z = 44) := fun h => h.1 hi0
              refine g_aload_n C 0 rfl dX2_readEdit_68 ?_
              refine g_iload_n C 3 rfl dX2_readEdit_69 ?_
              refine g_Vi C [.int (nI i)] t 2 (by omega) y0 rfl (c_X2_readNumber l D kc N adr cl t L (nI q) z (chF L ch q) ch nuv i ⟨y0, y1, y2, by omega⟩ (by omega) hch (by have := dueN_le (chF L ch q); omega) (by have := dueN_le (chF L ch q); omega)) (cwV 1 C.2.2.2.2.1 gX2_readEdit_X2_readNumber rfl rfl rfl (by decide +kernel) ⟨Nat.le_of_ble_eq_true rfl, Nat.le_of_ble_eq_true rfl⟩) rfl rfl (Nat.le_of_ble_eq_true rfl) (Nat.zero_le _) (Nat.zero_le _) dX2_readEdit_70 (fun v33 cell33 q33 => ?_)
              obtain ⟨rfl, ⟨g_34, g_35, g_36, g_37⟩, gf_38⟩ := q33
              have g_34 : cell33 t = .inr (2, [.ref (adr (t + 1)), .ref (adr (t + 2)), .int (nI L), .int (nI q), .int (nI (z + numC L ch z)), .int (chF L ch q)]) := g_34
              have g_35 : cell33 (t + 1) = .inl (kc 1, 60, .inl ch) := g_35
              have g_36 : cell33 (t + 2) = .inl (kc 0, 3, .inl (upd nuv i (numV L ch z (numC L ch z)))) := g_36
              have fr_39 : ∀ j : Nat, (j < t ∨ t + 3 ≤ j) → cell33 j = cell j := fun j hj => (gf_38 j (by omega)).trans (frl46 j hj)
              refine g_if_eq C 80 (by decide) dX2_readEdit_73 (fun c73 => ?_) (fun c73 => ?_)
              · -- taken at 73
                have c73' := bI_f c73
                refine g_iconst C 0 (by decide) dX2_readEdit_80 ?_
                refine g_istore_n C [(2, .int 0), (0, .ref (adr t)), (1, .int (nI (dueN (chF L ch q)))), (3, .int (nI i))] (by decide) rfl dX2_readEdit_81 ?_
                refine g_iinc C 3 [(3, .int (nI (i + 1))), (2, .int 0), (0, .ref (adr t)), (1, .int (nI (dueN (chF L ch q))))] rfl (iinc_nI i) (by decide) rfl dX2_readEdit_82 ?_
                refine g_goto C 46 (by decide) dX2_readEdit_85 ?_
                have hn : pnF L ch (q + 1) (i + 1) = none := by rw [hp1]; exact if_pos (Or.inr (by rw [hbg]; exact Decidable.not_not.mp c73'))
                have hxe : (0 : Int32) = bI (pnF L ch (q + 1) (i + 1)).isSome := by rw [hn]; rfl
                have hqe : ∀ z1 : Nat, pnF L ch (q + 1) (i + 1) = some z1 → z1 = (z + numC L ch z) ∧ z1 ≤ q + 1 + 3 * (i + 1) ∧ ∀ j : Nat, j < i + 1 → (upd nuv i (numV L ch z (numC L ch z))) j = nvF L ch (q + 1) j := fun z1 h1 => by rw [hn] at h1; cases h1
                refine g_sub [2, 3, 1, 0] rfl ?_
                exact ih (i + 1) _ _ _ _ (by omega) (by omega) g_34 g_35 g_36 fr_39 hxe hqe
              · -- not taken at 73
                have c73' := bI_t c73
                refine g_iconst C 1 (by decide) dX2_readEdit_76 ?_
                refine g_goto C 81 (by decide) dX2_readEdit_77 ?_
                refine g_istore_n C [(2, .int 1), (0, .ref (adr t)), (1, .int (nI (dueN (chF L ch q)))), (3, .int (nI i))] (by decide) rfl dX2_readEdit_81 ?_
                refine g_iinc C 3 [(3, .int (nI (i + 1))), (2, .int 1), (0, .ref (adr t)), (1, .int (nI (dueN (chF L ch q))))] rfl (iinc_nI i) (by decide) rfl dX2_readEdit_82 ?_
                refine g_goto C 46 (by decide) dX2_readEdit_85 ?_
                have hn : pnF L ch (q + 1) (i + 1) = some (nbg i z + numC L ch (nbg i z)) := by rw [hp1]; exact if_neg (fun h => h.elim (fun h => hcm h) (fun h => c73' (by rw [← hbg]; exact h)))
                have hxe : (1 : Int32) = bI (pnF L ch (q + 1) (i + 1)).isSome := by rw [hn]; rfl
                have hqe : ∀ z1 : Nat, pnF L ch (q + 1) (i + 1) = some z1 → z1 = (z + numC L ch z) ∧ z1 ≤ q + 1 + 3 * (i + 1) ∧ ∀ j : Nat, j < i + 1 → (upd nuv i (numV L ch z (numC L ch z))) j = nvF L ch (q + 1) j := by
                  intro z1 h1
                  rw [hn] at h1; cases h1
                  refine ⟨by rw [hbg], by have := numC_le L ch (nbg i z); have : nbg i z ≤ z + 1 := by (unfold nbg; split <;> omega)
                                          omega, fun j hj => ?_⟩
                  by_cases e : j = i
                  · subst e; rw [upd_s, nvF_s hz, hbg]
                  · rw [upd_n e]; exact hnu j (by omega)
                refine g_sub [2, 3, 1, 0] rfl ?_
                exact ih (i + 1) _ _ _ _ (by omega) (by omega) g_34 g_35 g_36 fr_39 hxe hqe
            · -- not taken at 56
              have c56' := i_ne c56
              refine g_aload_n C 0 rfl dX2_readEdit_59 ?_
              refine g_bipush C 44 (by decide) dX2_readEdit_60 ?_
              refine g_Vi C [.int 44] t 2 (by omega) y0 rfl (c_X2_readSign l D kc N adr cl t L (nI q) z (chF L ch q) ch nuv 44 ⟨y0, y1, y2, by omega⟩ (by omega) hch (by have := dueN_le (chF L ch q); omega)) (cwV 1 C.2.2.2.2.1 gX2_readEdit_X2_readSign rfl rfl rfl (by decide +kernel) ⟨Nat.le_of_ble_eq_true rfl, Nat.le_of_ble_eq_true rfl⟩) rfl rfl (Nat.le_of_ble_eq_true rfl) (Nat.zero_le _) (Nat.zero_le _) dX2_readEdit_62 (fun v40 cell40 q40 => ?_)
              obtain ⟨rfl, ⟨g_41, g_42, g_43, g_44⟩, gf_45⟩ := q40
              have g_41 : cell40 t = .inr (2, [.ref (adr (t + 1)), .ref (adr (t + 2)), .int (nI L), .int (nI q), .int (nI (if chF L ch z = 44 then z + 1 else z)), .int (chF L ch q)]) := g_41
              have g_42 : cell40 (t + 1) = .inl (kc 1, 60, .inl ch) := g_42
              have g_43 : cell40 (t + 2) = .inl (kc 0, 3, .inl nuv) := g_43
              have fr_46 : ∀ j : Nat, (j < t ∨ t + 3 ≤ j) → cell40 j = cell j := fun j hj => (gf_45 j (by omega)).trans (frl46 j hj)
              refine g_if_eq C 80 (by decide) dX2_readEdit_65 (fun c65 => ?_) (fun c65 => ?_)
              · -- taken at 65
                have c65' := bI_f c65
                refine g_iconst C 0 (by decide) dX2_readEdit_80 ?_
                refine g_istore_n C [(2, .int 0), (0, .ref (adr t)), (1, .int (nI (dueN (chF L ch q)))), (3, .int (nI i))] (by decide) rfl dX2_readEdit_81 ?_
                refine g_iinc C 3 [(3, .int (nI (i + 1))), (2, .int 0), (0, .ref (adr t)), (1, .int (nI (dueN (chF L ch q))))] rfl (iinc_nI i) (by decide) rfl dX2_readEdit_82 ?_
                refine g_goto C 46 (by decide) dX2_readEdit_85 ?_
                have hn : pnF L ch (q + 1) (i + 1) = none := by rw [hp1]; exact if_pos (Or.inl ⟨fun e => c56 (by rw [e]; rfl), c65'⟩)
                have hxe : (0 : Int32) = bI (pnF L ch (q + 1) (i + 1)).isSome := by rw [hn]; rfl
                have hqe : ∀ z1 : Nat, pnF L ch (q + 1) (i + 1) = some z1 → z1 = (if chF L ch z = 44 then z + 1 else z) ∧ z1 ≤ q + 1 + 3 * (i + 1) ∧ ∀ j : Nat, j < i + 1 → nuv j = nvF L ch (q + 1) j := fun z1 h1 => by rw [hn] at h1; cases h1
                refine g_sub [2, 3, 1, 0] rfl ?_
                exact ih (i + 1) _ _ _ _ (by omega) (by omega) g_41 g_42 g_43 fr_46 hxe hqe
              · -- not taken at 65
                have c65' := bI_t c65
                have h_47 : cell40 t = .inr (2, [.ref (adr (t + 1)), .ref (adr (t + 2)), .int (nI L), .int (nI q), .int (nI (z + 1)), .int (chF L ch q)]) := by rw [g_41, if_pos c65']
                have hi0 : ¬ i = 0 := fun e => c56 (by rw [e]; rfl)
                have hbg : nbg i z = z + 1 := if_neg hi0
                have hcm : ¬ (¬ i = 0 ∧ ¬ chF L ch z = 44) := fun h => h.2 c65'
                refine g_aload_n C 0 rfl dX2_readEdit_68 ?_
                refine g_iload_n C 3 rfl dX2_readEdit_69 ?_
                refine g_Vi C [.int (nI i)] t 2 (by omega) h_47 rfl (c_X2_readNumber l D kc N adr cell40 t L (nI q) (z + 1) (chF L ch q) ch nuv i ⟨h_47, g_42, g_43, by omega⟩ (by omega) hch (by have := dueN_le (chF L ch q); omega) (by have := dueN_le (chF L ch q); omega)) (cwV 1 C.2.2.2.2.1 gX2_readEdit_X2_readNumber rfl rfl rfl (by decide +kernel) ⟨Nat.le_of_ble_eq_true rfl, Nat.le_of_ble_eq_true rfl⟩) rfl rfl (Nat.le_of_ble_eq_true rfl) (Nat.zero_le _) (Nat.zero_le _) dX2_readEdit_70 (fun v48 cell48 q48 => ?_)
                obtain ⟨rfl, ⟨g_49, g_50, g_51, g_52⟩, gf_53⟩ := q48
                have g_49 : cell48 t = .inr (2, [.ref (adr (t + 1)), .ref (adr (t + 2)), .int (nI L), .int (nI q), .int (nI ((z + 1) + numC L ch (z + 1))), .int (chF L ch q)]) := g_49
                have g_50 : cell48 (t + 1) = .inl (kc 1, 60, .inl ch) := g_50
                have g_51 : cell48 (t + 2) = .inl (kc 0, 3, .inl (upd nuv i (numV L ch (z + 1) (numC L ch (z + 1))))) := g_51
                have fr_54 : ∀ j : Nat, (j < t ∨ t + 3 ≤ j) → cell48 j = cell j := fun j hj => (gf_53 j (by omega)).trans (fr_46 j hj)
                refine g_if_eq C 80 (by decide) dX2_readEdit_73 (fun c73 => ?_) (fun c73 => ?_)
                · -- taken at 73
                  have c73' := bI_f c73
                  refine g_iconst C 0 (by decide) dX2_readEdit_80 ?_
                  refine g_istore_n C [(2, .int 0), (0, .ref (adr t)), (1, .int (nI (dueN (chF L ch q)))), (3, .int (nI i))] (by decide) rfl dX2_readEdit_81 ?_
                  refine g_iinc C 3 [(3, .int (nI (i + 1))), (2, .int 0), (0, .ref (adr t)), (1, .int (nI (dueN (chF L ch q))))] rfl (iinc_nI i) (by decide) rfl dX2_readEdit_82 ?_
                  refine g_goto C 46 (by decide) dX2_readEdit_85 ?_
                  have hn : pnF L ch (q + 1) (i + 1) = none := by rw [hp1]; exact if_pos (Or.inr (by rw [hbg]; exact Decidable.not_not.mp c73'))
                  have hxe : (0 : Int32) = bI (pnF L ch (q + 1) (i + 1)).isSome := by rw [hn]; rfl
                  have hqe : ∀ z1 : Nat, pnF L ch (q + 1) (i + 1) = some z1 → z1 = ((z + 1) + numC L ch (z + 1)) ∧ z1 ≤ q + 1 + 3 * (i + 1) ∧ ∀ j : Nat, j < i + 1 → (upd nuv i (numV L ch (z + 1) (numC L ch (z + 1)))) j = nvF L ch (q + 1) j := fun z1 h1 => by rw [hn] at h1; cases h1
                  refine g_sub [2, 3, 1, 0] rfl ?_
                  exact ih (i + 1) _ _ _ _ (by omega) (by omega) g_49 g_50 g_51 fr_54 hxe hqe
                · -- not taken at 73
                  have c73' := bI_t c73
                  refine g_iconst C 1 (by decide) dX2_readEdit_76 ?_
                  refine g_goto C 81 (by decide) dX2_readEdit_77 ?_
                  refine g_istore_n C [(2, .int 1), (0, .ref (adr t)), (1, .int (nI (dueN (chF L ch q)))), (3, .int (nI i))] (by decide) rfl dX2_readEdit_81 ?_
                  refine g_iinc C 3 [(3, .int (nI (i + 1))), (2, .int 1), (0, .ref (adr t)), (1, .int (nI (dueN (chF L ch q))))] rfl (iinc_nI i) (by decide) rfl dX2_readEdit_82 ?_
                  refine g_goto C 46 (by decide) dX2_readEdit_85 ?_
                  have hn : pnF L ch (q + 1) (i + 1) = some (nbg i z + numC L ch (nbg i z)) := by rw [hp1]; exact if_neg (fun h => h.elim (fun h => hcm h) (fun h => c73' (by rw [← hbg]; exact h)))
                  have hxe : (1 : Int32) = bI (pnF L ch (q + 1) (i + 1)).isSome := by rw [hn]; rfl
                  have hqe : ∀ z1 : Nat, pnF L ch (q + 1) (i + 1) = some z1 → z1 = ((z + 1) + numC L ch (z + 1)) ∧ z1 ≤ q + 1 + 3 * (i + 1) ∧ ∀ j : Nat, j < i + 1 → (upd nuv i (numV L ch (z + 1) (numC L ch (z + 1)))) j = nvF L ch (q + 1) j := by
                    intro z1 h1
                    rw [hn] at h1; cases h1
                    refine ⟨by rw [hbg], by have := numC_le L ch (nbg i z); have : nbg i z ≤ z + 1 := by (unfold nbg; split <;> omega)
                                            omega, fun j hj => ?_⟩
                    by_cases e : j = i
                    · subst e; rw [upd_s, nvF_s hz, hbg]
                    · rw [upd_n e]; exact hnu j (by omega)
                  refine g_sub [2, 3, 1, 0] rfl ?_
                  exact ih (i + 1) _ _ _ _ (by omega) (by omega) g_49 g_50 g_51 fr_54 hxe hqe
    refine g_sub [3, 2, 1, 0] rfl ?_
    exact L46 (dueN (chF L ch q) + 1) 0 _ _ _ _ (by omega) (by omega) h_14 h_15 h_16 fr_17 rfl (fun z h => by cases h; exact ⟨rfl, by omega, fun j hj => absurd hj (Nat.not_lt_zero j)⟩)
