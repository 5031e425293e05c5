set_option maxRecDepth 100000 in
set_option maxHeartbeats 4000000 in
theorem c_X5_followWords (l : Launch) (D : va_G) (kc : Nat → ClassId) (N : Nat) (adr : Nat → Nat) (cell : Nat → va_E) (b n m : Nat) (ed : Int32) (W T U E P V : Nat → Int32) (F : Nat → Nat → Int32)  (hSt : StAt cell adr kc b (n, m, ed, W, T, U, E, P, V, F)) (hN : b + 19 ≤ N) : MV l yX5_followWords wsX5_followWords ({ frames := 2, cells := 0, slots := 0, locals := 42 }) D kc N adr cell [.ref (adr b)] (fun (cell1 : Nat → va_E) => StAt cell1 adr kc b (n, m, ed + 1, W, T, U, E, P, fill (fun k => atF 40 T (V k)) V m, F) ∧ ∀ j : Nat, (j < b ∨ b + 19 ≤ j) → cell1 j = cell j) := by
  refine met_v (cc := cX5_followWords) (maxL := 3) (ret := none) (by decide) rfl (Nat.le_of_ble_eq_true rfl) (lv := [(0, .ref (adr b))]) rfl ?_
  intro Pg Ev Sv Mi args below Me Cd Ar C hr hlk hnm
  have in5 : ∀ w ∈ u_ws RX5 TX5 5, w ∈ wsX5_followWords := by decide +kernel
  have f33 := C.2.2.2.2.1 (.fieldLink RX5 33 "WordAnchors$State" "edits" "I") (by decide +kernel)
  have f29 := C.2.2.2.2.1 (.fieldLink RX5 29 "WordAnchors$State" "anchorCount" "I") (by decide +kernel)
  have f12 := C.2.2.2.2.1 (.fieldLink RX5 12 "WordAnchors$State" "row" "LWordAnchors$Row;") (by decide +kernel)
  have hSt0 := hSt
  obtain ⟨s0, hRw, ⟨gg, s5, hg⟩, s6, hAn, hm⟩ := hSt
  have s0 : cell b = .inr (5, [.ref (adr (b + 1)), .ref (adr (b + 5)), .ref (adr (b + 6)), .int (nI m), .int ed]) := s0
  have hRw : RowAt cell adr kc (b + 1) W T U n := hRw
  have s6 : cell (b + 6) = .inl (kc 0, 5, .inl E) := s6
  have hAn : AnsAt cell adr kc b P V F := hAn
  have hm : m ≤ 6 := hm
  obtain ⟨r0, r1, r2, r3, hn⟩ := hRw
  have litm1 : ((-1) : Int32).toInt = -1 := rfl
  have lit0 : (0 : Int32).toInt = 0 := rfl
  have lit1 : (1 : Int32).toInt = 1 := rfl
  have tn_n : (nI n).toInt = ((n : Nat) : Int) := nI_toInt (by omega)
  have tn_m : (nI m).toInt = ((m : Nat) : Int) := nI_toInt (by omega)
  refine g_aload_n C 0 rfl dX5_followWords_0 ?_
  refine g_dup C rfl dX5_followWords_1 ?_
  refine g_get C b 5 4 (by omega) s0 rfl in5 (by decide) f33 (fun _ h9 => h9) rfl dX5_followWords_2 ?_
  refine g_iconst C 1 (by decide) dX5_followWords_5 ?_
  refine g_iadd C dX5_followWords_6 ?_
  refine g_put C b 5 4 (by omega) s0 rfl in5 tyX5 tyX5_ok nmX5 (by decide) f33 (fun _ h9 => h9) rfl (ty := .int) (by decide +kernel) rfl rfl (Nat.le_of_ble_eq_true rfl) dX5_followWords_7 ?_
  refine g_cell (fun cell1 ec1 => ?_)
  have h_2 : cell1 b = .inr (5, [.ref (adr (b + 1)), .ref (adr (b + 5)), .ref (adr (b + 6)), .int (nI m), .int (ed + 1)]) := by rw [ec1]; exact va_up_self _ _ _
  have h_3 : cell1 (b + 1) = .inr (4, [.ref (adr (b + 1 + 1)), .ref (adr (b + 1 + 2)), .ref (adr (b + 1 + 3)), .int (nI n)]) := by rw [ec1, va_up_ne _ _ (by omega)]; exact r0
  have h_4 : cell1 (b + 1 + 1) = .inl (kc 0, 40, .inl W) := by rw [ec1, va_up_ne _ _ (by omega)]; exact r1
  have h_5 : cell1 (b + 1 + 2) = .inl (kc 0, 40, .inl T) := by rw [ec1, va_up_ne _ _ (by omega)]; exact r2
  have h_6 : cell1 (b + 1 + 3) = .inl (kc 0, 40, .inl U) := by rw [ec1, va_up_ne _ _ (by omega)]; exact r3
  have h_7 : cell1 (b + 5) = .inl (kc 2, 6, .inr (.inr (.inr (.inr gg)))) := by rw [ec1, va_up_ne _ _ (by omega)]; exact s5
  have h_8 : cell1 (b + 6) = .inl (kc 0, 5, .inl E) := by rw [ec1, va_up_ne _ _ (by omega)]; exact s6
  have h_9 : AnsAt cell1 adr kc b P V F := AnsAt.frame hAn (fun j h1 h2 => by rw [ec1, va_up_ne _ _ (by omega)])
  have fr_10 : ∀ j : Nat, (j < b ∨ b + 19 ≤ j) → cell1 j = cell j := fun j hj => by rw [ec1, va_up_ne _ _ (by omega)]
  refine g_iconst C 0 (by decide) dX5_followWords_10 ?_
  refine g_istore_n C [(1, .int 0), (0, .ref (adr b))] (by decide) rfl dX5_followWords_11 ?_
  have L12 : ∀ (fu i : Nat) (cl : Nat → va_E) , i ≤ m → m < i + fu → (t0 : cl b = .inr (5, [.ref (adr (b + 1)), .ref (adr (b + 5)), .ref (adr (b + 6)), .int (nI m), .int (ed + 1)])) → (t1 : cl (b + 1) = .inr (4, [.ref (adr (b + 1 + 1)), .ref (adr (b + 1 + 2)), .ref (adr (b + 1 + 3)), .int (nI n)])) → (t2 : cl (b + 1 + 1) = .inl (kc 0, 40, .inl W)) → (t3 : cl (b + 1 + 2) = .inl (kc 0, 40, .inl T)) → (t4 : cl (b + 1 + 3) = .inl (kc 0, 40, .inl U)) → (t5 : cl (b + 5) = .inl (kc 2, 6, .inr (.inr (.inr (.inr gg))))) → (t6 : cl (b + 6) = .inl (kc 0, 5, .inl E)) → (t7 : AnsAt cl adr kc b P (fill (fun k => atF 40 T (V k)) V i) F) → (frl12 : ∀ j : Nat, (j < b ∨ b + 19 ≤ j) → cl j = cell j) → G Pg l Ev (headSpec wsX5_followWords { frames := 2, cells := 0, slots := 0, locals := 42 }).room Sv Mi args below Me Cd D N adr Ar Sv.heap 3 0 0 (MQ below (va_Qv (fun (cell1 : Nat → va_E) => StAt cell1 adr kc b (n, m, ed + 1, W, T, U, E, P, fill (fun k => atF 40 T (V k)) V m, F) ∧ ∀ j : Nat, (j < b ∨ b + 19 ≤ j) → cell1 j = cell j) (fun (cell1 : Nat → va_E) (t : State) => va_P D vwCl (wld N adr cell1) t.heap) Ar) args Sv 0 0 Ar) cl 12 [(0, .ref (adr b)), (1, .int (nI i))] ([] : List Value) := by
    intro fu
    induction fu with
    | zero => intro i cl  hle hfu; exact absurd hfu (by omega)
    | succ fu ih =>
      intro i cl  hle12 hfu12 t0 t1 t2 t3 t4 t5 t6 t7 frl12 
      have tn_i : (nI i).toInt = ((i : Nat) : Int) := nI_toInt (by omega)
      refine g_iload_n C 1 rfl dX5_followWords_12 ?_
      refine g_aload_n C 0 rfl dX5_followWords_13 ?_
      refine g_get C b 5 3 (by omega) t0 rfl in5 (by decide) f29 (fun _ h9 => h9) rfl dX5_followWords_14 ?_
      refine g_icmp_ge C 44 (by decide) dX5_followWords_17 (fun c17 => ?_) (fun c17 => ?_)
      · -- taken at 17
        have c17' := i_le c17
        obtain rfl : m = i := by omega
        refine g_vret C hr hlk dX5_followWords_44 ?_
        exact ⟨⟨t0, ⟨t1, t2, t3, t4, by omega⟩, ⟨gg, t5, hg⟩, t6, t7, (by show m ≤ 6; omega)⟩, frl12⟩
      · -- not taken at 17
        have c17' := i_nle c17
        refine g_aload_n C 0 rfl dX5_followWords_20 ?_
        refine g_iload_n C 1 rfl dX5_followWords_21 ?_
        refine g_Vq C [.int (nI i)] b 5 (by omega) t0 rfl (c_X5_anchorNumbered l D kc N adr cl b n m (ed + 1) W T U E P (fill (fun k => atF 40 T (V k)) V i) F (nI i) ⟨t0, ⟨t1, t2, t3, t4, by omega⟩, ⟨gg, t5, hg⟩, t6, t7, (by show m ≤ 6; omega)⟩ (by omega)) (cwV 1 C.2.2.2.2.1 gX5_followWords_X5_anchorNumbered rfl rfl rfl (by decide +kernel) ⟨Nat.le_of_ble_eq_true rfl, Nat.le_of_ble_eq_true rfl⟩) rfl rfl (Nat.le_of_ble_eq_true rfl) (Nat.zero_le _) (Nat.zero_le _) dX5_followWords_22 (fun v11 cell11 q11 => ?_)
        obtain ⟨rfl, rfl⟩ := q11
        refine g_eqst (st1 := ([.ref (adr (b + 7 + 2 * i))] : List Value)) (by rw [if_pos (by omega), nI_clamp (by omega)]; rfl) ?_
        have ha_12 := t7 i (by omega)
        refine g_astore_n C [(2, .ref (adr (b + 7 + 2 * i))), (0, .ref (adr b)), (1, .int (nI i))] (by decide) rfl dX5_followWords_25 ?_
        refine g_aload_n C 0 rfl dX5_followWords_26 ?_
        refine g_ifnull C dX5_followWords_27 ?_
        refine g_aload_n C 0 rfl dX5_followWords_30 ?_
        refine g_aload_n C 1 rfl dX5_followWords_31 ?_
        refine g_get C b 5 0 (by omega) t0 rfl in5 (by decide) f12 (fun _ h9 => h9) rfl dX5_followWords_32 ?_
        refine g_Vv C [.ref (adr (b + 1))] (b + 7 + 2 * i) 0 (by omega) ha_12.1 rfl (c_X0_followWord l D kc N adr cl (b + 7 + 2 * i) (P i) ((fill (fun k => atF 40 T (V k)) V i) i) (F i) (b + 1) W T U n  ⟨ha_12.1, ha_12.2⟩ (by omega) ⟨t1, t2, t3, t4, by omega⟩ (by omega) (by omega)) (cwV 1 C.2.2.2.2.1 gX5_followWords_X0_followWord rfl rfl rfl (by decide +kernel) ⟨Nat.le_of_ble_eq_true rfl, Nat.le_of_ble_eq_true rfl⟩) rfl rfl (Nat.le_of_ble_eq_true rfl) (Nat.zero_le _) (Nat.zero_le _) dX5_followWords_35 (fun cell13 q13 => ?_)
        obtain ⟨an_14, gf_15⟩ := q13
        have an_16 : AnsAt cell13 adr kc b P (fill (fun k => atF 40 T (V k)) V (i + 1)) F := by
          refine AnsAt.put (i := i) t7 ?_ gf_15 (fun k hk e => ⟨rfl, ?_, rfl⟩)
          · rw [fill_in (by omega)]; rw [fill_out (Nat.le_refl _)] at an_14; exact an_14
          · unfold fill; by_cases l : k < i
            · rw [if_pos l, if_pos (by omega)]
            · rw [if_neg l, if_neg (by omega)]
        have h_17 : cell13 b = .inr (5, [.ref (adr (b + 1)), .ref (adr (b + 5)), .ref (adr (b + 6)), .int (nI m), .int (ed + 1)]) := (gf_15 b (by omega)).trans t0
        have h_18 : cell13 (b + 1) = .inr (4, [.ref (adr (b + 1 + 1)), .ref (adr (b + 1 + 2)), .ref (adr (b + 1 + 3)), .int (nI n)]) := (gf_15 (b + 1) (by omega)).trans t1
        have h_19 : cell13 (b + 1 + 1) = .inl (kc 0, 40, .inl W) := (gf_15 (b + 1 + 1) (by omega)).trans t2
        have h_20 : cell13 (b + 1 + 2) = .inl (kc 0, 40, .inl T) := (gf_15 (b + 1 + 2) (by omega)).trans t3
        have h_21 : cell13 (b + 1 + 3) = .inl (kc 0, 40, .inl U) := (gf_15 (b + 1 + 3) (by omega)).trans t4
        have h_22 : cell13 (b + 5) = .inl (kc 2, 6, .inr (.inr (.inr (.inr gg)))) := (gf_15 (b + 5) (by omega)).trans t5
        have h_23 : cell13 (b + 6) = .inl (kc 0, 5, .inl E) := (gf_15 (b + 6) (by omega)).trans t6
        have fr_24 : ∀ j : Nat, (j < b ∨ b + 19 ≤ j) → cell13 j = cell j := fun j hj => (gf_15 j (by omega)).trans (frl12 j hj)
        refine g_iinc C 2 [(1, .int (nI (i + 1))), (2, .ref (adr (b + 7 + 2 * i))), (0, .ref (adr b))] rfl (iinc_nI i) (by decide) rfl dX5_followWords_38 ?_
        refine g_goto C 12 (by decide) dX5_followWords_41 ?_
        refine g_sub [2, 0] rfl ?_
        have hx_25 : AnsAt cell13 adr kc b P (fill (fun k => atF 40 T (V k)) V (i + 1)) F := by exact an_16
        exact ih (i + 1) _ (by omega) (by omega) h_17 h_18 h_19 h_20 h_21 h_22 h_23 hx_25 fr_24 
  refine g_sub [1, 0] rfl ?_
  have hx_26 : AnsAt cell1 adr kc b P (fill (fun k => atF 40 T (V k)) V 0) F := by rw [← fill_0]; exact h_9
  exact L12 (m + 1) 0 _ (by omega) (by omega) h_2 h_3 h_4 h_5 h_6 h_7 h_8 hx_26 fr_10 
set_option maxRecDepth 100000 in
set_option maxHeartbeats 4000000 in
theorem c_X5_insertWord (l : Launch) (D : va_G) (kc : Nat → ClassId) (N : Nat) (adr : Nat → Nat) (cell : Nat → va_E) (b n m : Nat) (ed : Int32) (W T U E P V : Nat → Int32) (F : Nat → Nat → Int32) (q : Nat) (w : Int32) (hSt : StAt cell adr kc b (n, m, ed, W, T, U, E, P, V, F)) (hN : b + 19 ≤ N) (hq : q ≤ n ∧ n < 40) : MV l yX5_insertWord wsX5_insertWord ({ frames := 3, cells := 0, slots := 0, locals := 68 }) D kc N adr cell [.ref (adr b), .int (nI q), .int w] (fun (cell1 : Nat → va_E) => ∃ W1 T1 U1 : Nat → Int32, StAt cell1 adr kc b (n + 1, m, ed + 1, W1, T1, U1, E, P, fill (fun k => atF 40 T1 (V k)) V m, F) ∧ (∀ p : Nat, p < n + 1 → W1 p = insW q w W p) ∧ (∀ p : Nat, p < 40 → T1 p = nI (insP q p)) ∧ ∀ j : Nat, (j < b ∨ b + 19 ≤ j) → cell1 j = cell j) := by
  refine met_v (cc := cX5_insertWord) (maxL := 3) (ret := none) (by decide) rfl (Nat.le_of_ble_eq_true rfl) (lv := [(0, .ref (adr b)), (1, .int (nI q)), (2, .int w)]) rfl ?_
  intro Pg Ev Sv Mi args below Me Cd Ar C hr hlk hnm
  have in5 : ∀ w ∈ u_ws RX5 TX5 5, w ∈ wsX5_insertWord := by decide +kernel
  have f12 := C.2.2.2.2.1 (.fieldLink RX5 12 "WordAnchors$State" "row" "LWordAnchors$Row;") (by decide +kernel)
  have hSt0 := hSt
  obtain ⟨s0, hRw, ⟨gg, s5, hg⟩, s6, hAn, hm⟩ := hSt
  have s0 : cell b = .inr (5, [.ref (adr (b + 1)), .ref (adr (b + 5)), .ref (adr (b + 6)), .int (nI m), .int ed]) := s0
  have hRw : RowAt cell adr kc (b + 1) W T U n := hRw
  have s6 : cell (b + 6) = .inl (kc 0, 5, .inl E) := s6
  have hAn : AnsAt cell adr kc b P V F := hAn
  have hm : m ≤ 6 := hm
  obtain ⟨r0, r1, r2, r3, hn⟩ := hRw
  have litm1 : ((-1) : Int32).toInt = -1 := rfl
  have lit0 : (0 : Int32).toInt = 0 := rfl
  have lit1 : (1 : Int32).toInt = 1 := rfl
  have tn_n : (nI n).toInt = ((n : Nat) : Int) := nI_toInt (by omega)
  have tn_m : (nI m).toInt = ((m : Nat) : Int) := nI_toInt (by omega)
  have tn_q : (nI q).toInt = ((q : Nat) : Int) := nI_toInt (by omega)
  refine g_aload_n C 0 rfl dX5_insertWord_0 ?_
  refine g_get C b 5 0 (by omega) s0 rfl in5 (by decide) f12 (fun _ h9 => h9) rfl dX5_insertWord_1 ?_
  refine g_iload_n C 1 rfl dX5_insertWord_4 ?_
  refine g_iload_n C 2 rfl dX5_insertWord_5 ?_
  refine g_Vv C [.int (nI q), .int w] (b + 1) 4 (by omega) r0 rfl (c_X4_insert l D kc N adr cell (b + 1) W T U n q w ⟨r0, r1, r2, r3, by omega⟩ (by omega) (by omega)) (cwV 2 C.2.2.2.2.1 gX5_insertWord_X4_insert rfl rfl rfl (by decide +kernel) ⟨Nat.le_of_ble_eq_true rfl, Nat.le_of_ble_eq_true rfl⟩) rfl rfl (Nat.le_of_ble_eq_true rfl) (Nat.zero_le _) (Nat.zero_le _) dX5_insertWord_6 (fun cell1 q1 => ?_)
  obtain ⟨W1, T1, U1, ⟨g_2, g_3, g_4, g_5, g_6⟩, hw1, ht1, gf_7⟩ := q1
  have h_8 : cell1 b = .inr (5, [.ref (adr (b + 1)), .ref (adr (b + 5)), .ref (adr (b + 6)), .int (nI m), .int ed]) := (gf_7 b (by omega)).trans s0
  have h_9 : cell1 (b + 5) = .inl (kc 2, 6, .inr (.inr (.inr (.inr gg)))) := (gf_7 (b + 5) (by omega)).trans s5
  have h_10 : cell1 (b + 6) = .inl (kc 0, 5, .inl E) := (gf_7 (b + 6) (by omega)).trans s6
  have h_11 : AnsAt cell1 adr kc b P V F := AnsAt.frame hAn (fun j h1 h2 => gf_7 j (by omega))
  have fr_12 : ∀ j : Nat, (j < b ∨ b + 19 ≤ j) → cell1 j = cell j := fun j hj => gf_7 j (by omega)
  refine g_aload_n C 0 rfl dX5_insertWord_9 ?_
  refine g_Vv C [] b 5 (by omega) h_8 rfl (c_X5_followWords l D kc N adr cell1 b (n + 1) m ed W1 T1 U1 E P V F  ⟨h_8, ⟨g_2, g_3, g_4, g_5, by omega⟩, ⟨gg, h_9, hg⟩, h_10, h_11, (by show m ≤ 6; omega)⟩ (by omega)) (cwV 0 C.2.2.2.2.1 gX5_insertWord_X5_followWords rfl rfl rfl (by decide +kernel) ⟨Nat.le_of_ble_eq_true rfl, Nat.le_of_ble_eq_true rfl⟩) rfl rfl (Nat.le_of_ble_eq_true rfl) (Nat.zero_le _) (Nat.zero_le _) dX5_insertWord_10 (fun cell13 q13 => ?_)
  obtain ⟨⟨z_140, ⟨z_141, z_142, z_143, z_144, z_14n⟩, ⟨ggz_14, z_145, hgz_14⟩, z_146, z_147, z_14m⟩, gf_15⟩ := q13
  have z_140 : cell13 b = .inr (5, [.ref (adr (b + 1)), .ref (adr (b + 5)), .ref (adr (b + 6)), .int (nI m), .int (ed + 1)]) := z_140
  have z_141 : cell13 (b + 1) = .inr (4, [.ref (adr (b + 1 + 1)), .ref (adr (b + 1 + 2)), .ref (adr (b + 1 + 3)), .int (nI (n + 1))]) := z_141
  have z_142 : cell13 (b + 1 + 1) = .inl (kc 0, 40, .inl W1) := z_142
  have z_143 : cell13 (b + 1 + 2) = .inl (kc 0, 40, .inl T1) := z_143
  have z_144 : cell13 (b + 1 + 3) = .inl (kc 0, 40, .inl U1) := z_144
  have z_145 : cell13 (b + 5) = .inl (kc 2, 6, .inr (.inr (.inr (.inr ggz_14)))) := z_145
  have z_146 : cell13 (b + 6) = .inl (kc 0, 5, .inl E) := z_146
  have z_147 : AnsAt cell13 adr kc b P (fill (fun k => atF 40 T1 (V k)) V m) F := z_147
  have fr_16 : ∀ j : Nat, (j < b ∨ b + 19 ≤ j) → cell13 j = cell j := fun j hj => (gf_15 j (by omega)).trans (fr_12 j hj)
  refine g_vret C hr hlk dX5_insertWord_13 ?_
  exact ⟨W1, T1, U1, ⟨z_140, ⟨z_141, z_142, z_143, z_144, by omega⟩, ⟨ggz_14, z_145, hgz_14⟩, z_146, z_147, (by show m ≤ 6; omega)⟩, hw1, ht1, fr_16⟩
set_option maxRecDepth 100000 in
set_option maxHeartbeats 4000000 in
theorem c_X5_removeWord (l : Launch) (D : va_G) (kc : Nat → ClassId) (N : Nat) (adr : Nat → Nat) (cell : Nat → va_E) (b n m : Nat) (ed : Int32) (W T U E P V : Nat → Int32) (F : Nat → Nat → Int32) (q : Nat) (hSt : StAt cell adr kc b (n, m, ed, W, T, U, E, P, V, F)) (hN : b + 19 ≤ N) (hq : q < n) : MV l yX5_removeWord wsX5_removeWord ({ frames := 3, cells := 0, slots := 0, locals := 68 }) D kc N adr cell [.ref (adr b), .int (nI q)] (fun (cell1 : Nat → va_E) => ∃ W1 T1 U1 : Nat → Int32, StAt cell1 adr kc b (n - 1, m, ed + 1, W1, T1, U1, E, P, fill (fun k => atF 40 T1 (V k)) V m, F) ∧ (∀ p : Nat, p < n - 1 → W1 p = remW q W p) ∧ (∀ p : Nat, p < 40 → T1 p = remP q p) ∧ ∀ j : Nat, (j < b ∨ b + 19 ≤ j) → cell1 j = cell j) := by
  refine met_v (cc := cX5_removeWord) (maxL := 2) (ret := none) (by decide) rfl (Nat.le_of_ble_eq_true rfl) (lv := [(0, .ref (adr b)), (1, .int (nI q))]) rfl ?_
  intro Pg Ev Sv Mi args below Me Cd Ar C hr hlk hnm
  have in5 : ∀ w ∈ u_ws RX5 TX5 5, w ∈ wsX5_removeWord := by decide +kernel
  have f12 := C.2.2.2.2.1 (.fieldLink RX5 12 "WordAnchors$State" "row" "LWordAnchors$Row;") (by decide +kernel)
  have hSt0 := hSt
  obtain ⟨s0, hRw, ⟨gg, s5, hg⟩, s6, hAn, hm⟩ := hSt
  have s0 : cell b = .inr (5, [.ref (adr (b + 1)), .ref (adr (b + 5)), .ref (adr (b + 6)), .int (nI m), .int ed]) := s0
  have hRw : RowAt cell adr kc (b + 1) W T U n := hRw
  have s6 : cell (b + 6) = .inl (kc 0, 5, .inl E) := s6
  have hAn : AnsAt cell adr kc b P V F := hAn
  have hm : m ≤ 6 := hm
  obtain ⟨r0, r1, r2, r3, hn⟩ := hRw
  have litm1 : ((-1) : Int32).toInt = -1 := rfl
  have lit0 : (0 : Int32).toInt = 0 := rfl
  have lit1 : (1 : Int32).toInt = 1 := rfl
  have tn_n : (nI n).toInt = ((n : Nat) : Int) := nI_toInt (by omega)
  have tn_m : (nI m).toInt = ((m : Nat) : Int) := nI_toInt (by omega)
  have tn_q : (nI q).toInt = ((q : Nat) : Int) := nI_toInt (by omega)
  refine g_aload_n C 0 rfl dX5_removeWord_0 ?_
  refine g_get C b 5 0 (by omega) s0 rfl in5 (by decide) f12 (fun _ h9 => h9) rfl dX5_removeWord_1 ?_
  refine g_iload_n C 1 rfl dX5_removeWord_4 ?_
  refine g_Vv C [.int (nI q)] (b + 1) 4 (by omega) r0 rfl (c_X4_remove l D kc N adr cell (b + 1) W T U n q ⟨r0, r1, r2, r3, by omega⟩ (by omega) (by omega)) (cwV 1 C.2.2.2.2.1 gX5_removeWord_X4_remove rfl rfl rfl (by decide +kernel) ⟨Nat.le_of_ble_eq_true rfl, Nat.le_of_ble_eq_true rfl⟩) rfl rfl (Nat.le_of_ble_eq_true rfl) (Nat.zero_le _) (Nat.zero_le _) dX5_removeWord_5 (fun cell1 q1 => ?_)
  obtain ⟨W1, T1, U1, ⟨g_2, g_3, g_4, g_5, g_6⟩, hw1, ht1, gf_7⟩ := q1
  have h_8 : cell1 b = .inr (5, [.ref (adr (b + 1)), .ref (adr (b + 5)), .ref (adr (b + 6)), .int (nI m), .int ed]) := (gf_7 b (by omega)).trans s0
  have h_9 : cell1 (b + 5) = .inl (kc 2, 6, .inr (.inr (.inr (.inr gg)))) := (gf_7 (b + 5) (by omega)).trans s5
  have h_10 : cell1 (b + 6) = .inl (kc 0, 5, .inl E) := (gf_7 (b + 6) (by omega)).trans s6
  have h_11 : AnsAt cell1 adr kc b P V F := AnsAt.frame hAn (fun j h1 h2 => gf_7 j (by omega))
  have fr_12 : ∀ j : Nat, (j < b ∨ b + 19 ≤ j) → cell1 j = cell j := fun j hj => gf_7 j (by omega)
  refine g_aload_n C 0 rfl dX5_removeWord_8 ?_
  refine g_Vv C [] b 5 (by omega) h_8 rfl (c_X5_followWords l D kc N adr cell1 b (n - 1) m ed W1 T1 U1 E P V F  ⟨h_8, ⟨g_2, g_3, g_4, g_5, by omega⟩, ⟨gg, h_9, hg⟩, h_10, h_11, (by show m ≤ 6; omega)⟩ (by omega)) (cwV 0 C.2.2.2.2.1 gX5_removeWord_X5_followWords rfl rfl rfl (by decide +kernel) ⟨Nat.le_of_ble_eq_true rfl, Nat.le_of_ble_eq_true rfl⟩) rfl rfl (Nat.le_of_ble_eq_true rfl) (Nat.zero_le _) (Nat.zero_le _) dX5_removeWord_9 (fun cell13 q13 => ?_)
  obtain ⟨⟨z_140, ⟨z_141, z_142, z_143, z_144, z_14n⟩, ⟨ggz_14, z_145, hgz_14⟩, z_146, z_147, z_14m⟩, gf_15⟩ := q13
  have z_140 : cell13 b = .inr (5, [.ref (adr (b + 1)), .ref (adr (b + 5)), .ref (adr (b + 6)), .int (nI m), .int (ed + 1)]) := z_140
  have z_141 : cell13 (b + 1) = .inr (4, [.ref (adr (b + 1 + 1)), .ref (adr (b + 1 + 2)), .ref (adr (b + 1 + 3)), .int (nI (n - 1))]) := z_141
  have z_142 : cell13 (b + 1 + 1) = .inl (kc 0, 40, .inl W1) := z_142
  have z_143 : cell13 (b + 1 + 2) = .inl (kc 0, 40, .inl T1) := z_143
  have z_144 : cell13 (b + 1 + 3) = .inl (kc 0, 40, .inl U1) := z_144
  have z_145 : cell13 (b + 5) = .inl (kc 2, 6, .inr (.inr (.inr (.inr ggz_14)))) := z_145
  have z_146 : cell13 (b + 6) = .inl (kc 0, 5, .inl E) := z_146
  have z_147 : AnsAt cell13 adr kc b P (fill (fun k => atF 40 T1 (V k)) V m) F := z_147
  have fr_16 : ∀ j : Nat, (j < b ∨ b + 19 ≤ j) → cell13 j = cell j := fun j hj => (gf_15 j (by omega)).trans (fr_12 j hj)
  refine g_vret C hr hlk dX5_removeWord_12 ?_
  exact ⟨W1, T1, U1, ⟨z_140, ⟨z_141, z_142, z_143, z_144, by omega⟩, ⟨ggz_14, z_145, hgz_14⟩, z_146, z_147, (by show m ≤ 6; omega)⟩, hw1, ht1, fr_16⟩
set_option maxRecDepth 100000 in
set_option maxHeartbeats 4000000 in
theorem c_X5_replaceWord (l : Launch) (D : va_G) (kc : Nat → ClassId) (N : Nat) (adr : Nat → Nat) (cell : Nat → va_E) (b n m : Nat) (ed : Int32) (W T U E P V : Nat → Int32) (F : Nat → Nat → Int32) (q : Nat) (w : Int32) (hSt : StAt cell adr kc b (n, m, ed, W, T, U, E, P, V, F)) (hN : b + 19 ≤ N) (hq : q < n) : MV l yX5_replaceWord wsX5_replaceWord ({ frames := 3, cells := 0, slots := 0, locals := 64 }) D kc N adr cell [.ref (adr b), .int (nI q), .int w] (fun (cell1 : Nat → va_E) => ∃ W1 T1 U1 : Nat → Int32, StAt cell1 adr kc b (n, m, ed + 1, W1, T1, U1, E, P, fill (fun k => atF 40 T1 (V k)) V m, F) ∧ (∀ p : Nat, p < n → W1 p = upd W q w p) ∧ (∀ p : Nat, p < 40 → T1 p = (if p = q then -1 else nI p)) ∧ ∀ j : Nat, (j < b ∨ b + 19 ≤ j) → cell1 j = cell j) := by
  refine met_v (cc := cX5_replaceWord) (maxL := 3) (ret := none) (by decide) rfl (Nat.le_of_ble_eq_true rfl) (lv := [(0, .ref (adr b)), (1, .int (nI q)), (2, .int w)]) rfl ?_
  intro Pg Ev Sv Mi args below Me Cd Ar C hr hlk hnm
  have in5 : ∀ w ∈ u_ws RX5 TX5 5, w ∈ wsX5_replaceWord := by decide +kernel
  have f12 := C.2.2.2.2.1 (.fieldLink RX5 12 "WordAnchors$State" "row" "LWordAnchors$Row;") (by decide +kernel)
  have hSt0 := hSt
  obtain ⟨s0, hRw, ⟨gg, s5, hg⟩, s6, hAn, hm⟩ := hSt
  have s0 : cell b = .inr (5, [.ref (adr (b + 1)), .ref (adr (b + 5)), .ref (adr (b + 6)), .int (nI m), .int ed]) := s0
  have hRw : RowAt cell adr kc (b + 1) W T U n := hRw
  have s6 : cell (b + 6) = .inl (kc 0, 5, .inl E) := s6
  have hAn : AnsAt cell adr kc b P V F := hAn
  have hm : m ≤ 6 := hm
  obtain ⟨r0, r1, r2, r3, hn⟩ := hRw
  have litm1 : ((-1) : Int32).toInt = -1 := rfl
  have lit0 : (0 : Int32).toInt = 0 := rfl
  have lit1 : (1 : Int32).toInt = 1 := rfl
  have tn_n : (nI n).toInt = ((n : Nat) : Int) := nI_toInt (by omega)
  have tn_m : (nI m).toInt = ((m : Nat) : Int) := nI_toInt (by omega)
  have tn_q : (nI q).toInt = ((q : Nat) : Int) := nI_toInt (by omega)
  refine g_aload_n C 0 rfl dX5_replaceWord_0 ?_
  refine g_get C b 5 0 (by omega) s0 rfl in5 (by decide) f12 (fun _ h9 => h9) rfl dX5_replaceWord_1 ?_
  refine g_iload_n C 1 rfl dX5_replaceWord_4 ?_
  refine g_iload_n C 2 rfl dX5_replaceWord_5 ?_
  refine g_Vv C [.int (nI q), .int w] (b + 1) 4 (by omega) r0 rfl (c_X4_replace l D kc N adr cell (b + 1) W T U n q w ⟨r0, r1, r2, r3, by omega⟩ (by omega) (by omega)) (cwV 2 C.2.2.2.2.1 gX5_replaceWord_X4_replace rfl rfl rfl (by decide +kernel) ⟨Nat.le_of_ble_eq_true rfl, Nat.le_of_ble_eq_true rfl⟩) rfl rfl (Nat.le_of_ble_eq_true rfl) (Nat.zero_le _) (Nat.zero_le _) dX5_replaceWord_6 (fun cell1 q1 => ?_)
  obtain ⟨W1, T1, U1, ⟨g_2, g_3, g_4, g_5, g_6⟩, hw1, ht1, gf_7⟩ := q1
  have h_8 : cell1 b = .inr (5, [.ref (adr (b + 1)), .ref (adr (b + 5)), .ref (adr (b + 6)), .int (nI m), .int ed]) := (gf_7 b (by omega)).trans s0
  have h_9 : cell1 (b + 5) = .inl (kc 2, 6, .inr (.inr (.inr (.inr gg)))) := (gf_7 (b + 5) (by omega)).trans s5
  have h_10 : cell1 (b + 6) = .inl (kc 0, 5, .inl E) := (gf_7 (b + 6) (by omega)).trans s6
  have h_11 : AnsAt cell1 adr kc b P V F := AnsAt.frame hAn (fun j h1 h2 => gf_7 j (by omega))
  have fr_12 : ∀ j : Nat, (j < b ∨ b + 19 ≤ j) → cell1 j = cell j := fun j hj => gf_7 j (by omega)
  refine g_aload_n C 0 rfl dX5_replaceWord_9 ?_
  refine g_Vv C [] b 5 (by omega) h_8 rfl (c_X5_followWords l D kc N adr cell1 b n m ed W1 T1 U1 E P V F  ⟨h_8, ⟨g_2, g_3, g_4, g_5, by omega⟩, ⟨gg, h_9, hg⟩, h_10, h_11, (by show m ≤ 6; omega)⟩ (by omega)) (cwV 0 C.2.2.2.2.1 gX5_replaceWord_X5_followWords rfl rfl rfl (by decide +kernel) ⟨Nat.le_of_ble_eq_true rfl, Nat.le_of_ble_eq_true rfl⟩) rfl rfl (Nat.le_of_ble_eq_true rfl) (Nat.zero_le _) (Nat.zero_le _) dX5_replaceWord_10 (fun cell13 q13 => ?_)
  obtain ⟨⟨z_140, ⟨z_141, z_142, z_143, z_144, z_14n⟩, ⟨ggz_14, z_145, hgz_14⟩, z_146, z_147, z_14m⟩, gf_15⟩ := q13
  have z_140 : cell13 b = .inr (5, [.ref (adr (b + 1)), .ref (adr (b + 5)), .ref (adr (b + 6)), .int (nI m), .int (ed + 1)]) := z_140
  have z_141 : cell13 (b + 1) = .inr (4, [.ref (adr (b + 1 + 1)), .ref (adr (b + 1 + 2)), .ref (adr (b + 1 + 3)), .int (nI n)]) := z_141
  have z_142 : cell13 (b + 1 + 1) = .inl (kc 0, 40, .inl W1) := z_142
  have z_143 : cell13 (b + 1 + 2) = .inl (kc 0, 40, .inl T1) := z_143
  have z_144 : cell13 (b + 1 + 3) = .inl (kc 0, 40, .inl U1) := z_144
  have z_145 : cell13 (b + 5) = .inl (kc 2, 6, .inr (.inr (.inr (.inr ggz_14)))) := z_145
  have z_146 : cell13 (b + 6) = .inl (kc 0, 5, .inl E) := z_146
  have z_147 : AnsAt cell13 adr kc b P (fill (fun k => atF 40 T1 (V k)) V m) F := z_147
  have fr_16 : ∀ j : Nat, (j < b ∨ b + 19 ≤ j) → cell13 j = cell j := fun j hj => (gf_15 j (by omega)).trans (fr_12 j hj)
  refine g_vret C hr hlk dX5_replaceWord_13 ?_
  exact ⟨W1, T1, U1, ⟨z_140, ⟨z_141, z_142, z_143, z_144, by omega⟩, ⟨ggz_14, z_145, hgz_14⟩, z_146, z_147, (by show m ≤ 6; omega)⟩, hw1, ht1, fr_16⟩
set_option maxRecDepth 100000 in
set_option maxHeartbeats 4000000 in
theorem c_X5_shiftWords (l : Launch) (D : va_G) (kc : Nat → ClassId) (N : Nat) (adr : Nat → Nat) (cell : Nat → va_E) (b n m : Nat) (ed : Int32) (W T U E P V : Nat → Int32) (F : Nat → Nat → Int32) (f k t : Nat) (hSt : StAt cell adr kc b (n, m, ed, W, T, U, E, P, V, F)) (hN : b + 19 ≤ N) (hq : f < n ∧ 1 ≤ k ∧ f + k ≤ n ∧ t + k ≤ n) : MV l yX5_shiftWords wsX5_shiftWords ({ frames := 3, cells := 0, slots := 0, locals := 69 }) D kc N adr cell [.ref (adr b), .int (nI f), .int (nI k), .int (nI t)] (fun (cell1 : Nat → va_E) => ∃ W1 T1 U1 : Nat → Int32, StAt cell1 adr kc b (n, m, ed + 1, W1, T1, U1, E, P, fill (fun k => atF 40 T1 (V k)) V m, F) ∧ (∀ p : Nat, p < n → W1 p = W (pasF t k f p)) ∧ (∀ p : Nat, p < 40 → T1 p = nI (pasF f k t p)) ∧ ∀ j : Nat, (j < b ∨ b + 19 ≤ j) → cell1 j = cell j) := by
  refine met_v (cc := cX5_shiftWords) (maxL := 4) (ret := none) (by decide) rfl (Nat.le_of_ble_eq_true rfl) (lv := [(0, .ref (adr b)), (1, .int (nI f)), (2, .int (nI k)), (3, .int (nI t))]) rfl ?_
  intro Pg Ev Sv Mi args below Me Cd Ar C hr hlk hnm
  have in5 : ∀ w ∈ u_ws RX5 TX5 5, w ∈ wsX5_shiftWords := by decide +kernel
  have f12 := C.2.2.2.2.1 (.fieldLink RX5 12 "WordAnchors$State" "row" "LWordAnchors$Row;") (by decide +kernel)
  have hSt0 := hSt
  obtain ⟨s0, hRw, ⟨gg, s5, hg⟩, s6, hAn, hm⟩ := hSt
  have s0 : cell b = .inr (5, [.ref (adr (b + 1)), .ref (adr (b + 5)), .ref (adr (b + 6)), .int (nI m), .int ed]) := s0
  have hRw : RowAt cell adr kc (b + 1) W T U n := hRw
  have s6 : cell (b + 6) = .inl (kc 0, 5, .inl E) := s6
  have hAn : AnsAt cell adr kc b P V F := hAn
  have hm : m ≤ 6 := hm
  obtain ⟨r0, r1, r2, r3, hn⟩ := hRw
  have litm1 : ((-1) : Int32).toInt = -1 := rfl
  have lit0 : (0 : Int32).toInt = 0 := rfl
  have lit1 : (1 : Int32).toInt = 1 := rfl
  have tn_n : (nI n).toInt = ((n : Nat) : Int) := nI_toInt (by omega)
  have tn_m : (nI m).toInt = ((m : Nat) : Int) := nI_toInt (by omega)
  have tn_f : (nI f).toInt = ((f : Nat) : Int) := nI_toInt (by omega)
  have tn_k : (nI k).toInt = ((k : Nat) : Int) := nI_toInt (by omega)
  have tn_t : (nI t).toInt = ((t : Nat) : Int) := nI_toInt (by omega)
  refine g_aload_n C 0 rfl dX5_shiftWords_0 ?_
  refine g_get C b 5 0 (by omega) s0 rfl in5 (by decide) f12 (fun _ h9 => h9) rfl dX5_shiftWords_1 ?_
  refine g_iload_n C 1 rfl dX5_shiftWords_4 ?_
  refine g_iload_n C 2 rfl dX5_shiftWords_5 ?_
  refine g_iload_n C 3 rfl dX5_shiftWords_6 ?_
  refine g_Vv C [.int (nI f), .int (nI k), .int (nI t)] (b + 1) 4 (by omega) r0 rfl (c_X4_shift l D kc N adr cell (b + 1) W T U n f k t ⟨r0, r1, r2, r3, by omega⟩ (by omega) (by omega)) (cwV 3 C.2.2.2.2.1 gX5_shiftWords_X4_shift rfl rfl rfl (by decide +kernel) ⟨Nat.le_of_ble_eq_true rfl, Nat.le_of_ble_eq_true rfl⟩) rfl rfl (Nat.le_of_ble_eq_true rfl) (Nat.zero_le _) (Nat.zero_le _) dX5_shiftWords_7 (fun cell1 q1 => ?_)
  obtain ⟨W1, T1, U1, ⟨g_2, g_3, g_4, g_5, g_6⟩, hw1, ht1, gf_7⟩ := q1
  have h_8 : cell1 b = .inr (5, [.ref (adr (b + 1)), .ref (adr (b + 5)), .ref (adr (b + 6)), .int (nI m), .int ed]) := (gf_7 b (by omega)).trans s0
  have h_9 : cell1 (b + 5) = .inl (kc 2, 6, .inr (.inr (.inr (.inr gg)))) := (gf_7 (b + 5) (by omega)).trans s5
  have h_10 : cell1 (b + 6) = .inl (kc 0, 5, .inl E) := (gf_7 (b + 6) (by omega)).trans s6
  have h_11 : AnsAt cell1 adr kc b P V F := AnsAt.frame hAn (fun j h1 h2 => gf_7 j (by omega))
  have fr_12 : ∀ j : Nat, (j < b ∨ b + 19 ≤ j) → cell1 j = cell j := fun j hj => gf_7 j (by omega)
  refine g_aload_n C 0 rfl dX5_shiftWords_10 ?_
  refine g_Vv C [] b 5 (by omega) h_8 rfl (c_X5_followWords l D kc N adr cell1 b n m ed W1 T1 U1 E P V F  ⟨h_8, ⟨g_2, g_3, g_4, g_5, by omega⟩, ⟨gg, h_9, hg⟩, h_10, h_11, (by show m ≤ 6; omega)⟩ (by omega)) (cwV 0 C.2.2.2.2.1 gX5_shiftWords_X5_followWords rfl rfl rfl (by decide +kernel) ⟨Nat.le_of_ble_eq_true rfl, Nat.le_of_ble_eq_true rfl⟩) rfl rfl (Nat.le_of_ble_eq_true rfl) (Nat.zero_le _) (Nat.zero_le _) dX5_shiftWords_11 (fun cell13 q13 => ?_)
  obtain ⟨⟨z_140, ⟨z_141, z_142, z_143, z_144, z_14n⟩, ⟨ggz_14, z_145, hgz_14⟩, z_146, z_147, z_14m⟩, gf_15⟩ := q13
  have z_140 : cell13 b = .inr (5, [.ref (adr (b + 1)), .ref (adr (b + 5)), .ref (adr (b + 6)), .int (nI m), .int (ed + 1)]) := z_140
  have z_141 : cell13 (b + 1) = .inr (4, [.ref (adr (b + 1 + 1)), .ref (adr (b + 1 + 2)), .ref (adr (b + 1 + 3)), .int (nI n)]) := z_141
  have z_142 : cell13 (b + 1 + 1) = .inl (kc 0, 40, .inl W1) := z_142
  have z_143 : cell13 (b + 1 + 2) = .inl (kc 0, 40, .inl T1) := z_143
  have z_144 : cell13 (b + 1 + 3) = .inl (kc 0, 40, .inl U1) := z_144
  have z_145 : cell13 (b + 5) = .inl (kc 2, 6, .inr (.inr (.inr (.inr ggz_14)))) := z_145
  have z_146 : cell13 (b + 6) = .inl (kc 0, 5, .inl E) := z_146
  have z_147 : AnsAt cell13 adr kc b P (fill (fun k => atF 40 T1 (V k)) V m) F := z_147
  have fr_16 : ∀ j : Nat, (j < b ∨ b + 19 ≤ j) → cell13 j = cell j := fun j hj => (gf_15 j (by omega)).trans (fr_12 j hj)
  refine g_vret C hr hlk dX5_shiftWords_14 ?_
  exact ⟨W1, T1, U1, ⟨z_140, ⟨z_141, z_142, z_143, z_144, by omega⟩, ⟨ggz_14, z_145, hgz_14⟩, z_146, z_147, (by show m ≤ 6; omega)⟩, hw1, ht1, fr_16⟩
