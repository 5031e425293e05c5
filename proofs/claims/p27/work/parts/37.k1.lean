set_option maxRecDepth 100000 in
set_option maxHeartbeats 4000000 in
theorem c_X0_init (l : Launch) (D : va_G) (kc : Nat → ClassId) (adr : Nat → Nat) (cell : Nat → va_E) (b : Nat) (hb : cell b = .inr (0, [.null, .int 0, .int 0])) : MK l yX0_init wsX0_init ({ frames := 1, cells := 1, slots := 5, locals := 20 }) 1 1 5 D kc (b + 1) adr cell [.ref (adr b)] (fun (a1 : Nat → Nat) (c1 : Nat → va_E) => AncAt c1 a1 kc b 0 0 (fun _ => 0) ∧ ∀ j : Nat, j < b → c1 j = cell j) := by
  refine met_k (cc := cX0_init) (maxL := 1) (ret := none) (by decide) rfl (Nat.le_of_ble_eq_true rfl) (lv := [(0, .ref (adr b))]) rfl ?_
  intro Pg Ev Sv Mi args below Me Cd Ar C hr hlk hnm hAO
  have in0 : ∀ w ∈ u_ws RX0 TX0 3, w ∈ wsX0_init := by decide +kernel
  have w87334344 := C.2.2.2.2.1 (.methodLink RX0 3 objectInit) (by decide +kernel)
  have w5213295 := C.2.2.2.2.1 (.instanceMethod objectInit) (by decide +kernel)
  have w1100371547 := C.2.2.2.2.1 (.code objectInit ⟨#[0xb1]⟩ 1 none) (by decide +kernel)
  have w778274299 := C.2.2.2.2.1 (.arrayClass .int) (by decide +kernel)
  have f9 := C.2.2.2.2.1 (.fieldLink RX0 9 "WordAnchors$Anchor" "things" "[I") (by decide +kernel)
  refine g_aload_n C 0 rfl dX0_init_0 ?_
  refine g_obj C w87334344 w5213295 w1100371547 dX0_init_1 (Nat.le_of_ble_eq_true rfl) (Nat.le_of_ble_eq_true rfl) ?_
  refine g_aload_n C 0 rfl dX0_init_4 ?_
  refine g_iconst C 5 (by decide) dX0_init_5 ?_
  refine g_newa C 0 rfl rfl w778274299 (5, .inl (fun _ => 0)) (fun _ => rfl) (by decide) (by decide) (by decide) (Nat.le_of_ble_eq_true rfl) (Nat.le_of_ble_eq_true rfl) dX0_init_6 (b + 2) (by omega) (fun a1 hg1 C => ?_)
  refine g_cell (fun c1 ec1 => ?_)
  have hc1 : ∀ j : Nat, j < b + 1 → c1 j = cell j := fun j hj => by rw [ec1, va_up_ne _ _ (by omega)]
  have h2 : c1 b = .inr (0, [.null, .int 0, .int 0]) := by rw [hc1 b (by omega), hb]
  have h3 : c1 (b + 1) = .inl (kc 0, 5, .inl (fun _ => 0)) := by rw [ec1]; exact va_up_self _ _ _
  have fr4 : ∀ j : Nat, j < b → c1 j = cell j := fun j hj => hc1 j (by omega)
  have ag5 : ∀ j : Nat, j < b + 1 → a1 j = adr j := fun j hj => hg1 j (by omega)
  refine g_eqlv (lv1 := [(0, .ref (a1 b))]) (by rw [hg1 b (by omega)]) ?_
  refine g_eqst (st1 := ([.ref (a1 (b + 1)), .ref (a1 b)] : List Value)) (by rw [hg1 b (by omega)]) ?_
  refine g_putF C b 0 0 (by omega) h2 rfl in0 tyX0 tyX0_ok nmX0 (by decide) f9 (fun _ h9 => h9) rfl hnm rfl (tyX0_ok 0 (by decide)) rfl rfl (Nat.le_of_ble_eq_true rfl) dX0_init_8 ?_
  refine g_cell (fun c6 ec6 => ?_)
  have h7 : c6 (b + 1) = .inl (kc 0, 5, .inl (fun _ => 0)) := by rw [(show c6 (b + 1) = c1 (b + 1) by rw [ec6, va_up_ne _ _ (by omega)]), h3]
  have h8 : c6 b = .inr (0, [.ref (a1 (b + 1)), .int 0, .int 0]) := by rw [ec6]; exact va_up_self _ _ _
  have fr9 : ∀ j : Nat, j < b → c6 j = cell j := fun j hj => ((show c6 j = c1 j by rw [ec6, va_up_ne _ _ (by omega)])).trans (fr4 j hj)
  refine g_kret (by omega) C hr hlk dX0_init_11 ag5 ?_
  exact ⟨⟨h8, h7⟩, fr9⟩
set_option maxRecDepth 100000 in
set_option maxHeartbeats 4000000 in
theorem c_X1_init (l : Launch) (D : va_G) (kc : Nat → ClassId) (adr : Nat → Nat) (cell : Nat → va_E) (b : Nat) (hb : cell b = .inr (1, [.null, .null, .int 0])) : MK l yX1_init wsX1_init ({ frames := 1, cells := 2, slots := 12, locals := 20 }) 2 2 12 D kc (b + 1) adr cell [.ref (adr b)] (fun (a1 : Nat → Nat) (c1 : Nat → va_E) => BlAt c1 a1 kc b 0 (fun _ => 0) (fun _ => 0) ∧ ∀ j : Nat, j < b → c1 j = cell j) := by
  refine met_k (cc := cX1_init) (maxL := 1) (ret := none) (by decide) rfl (Nat.le_of_ble_eq_true rfl) (lv := [(0, .ref (adr b))]) rfl ?_
  intro Pg Ev Sv Mi args below Me Cd Ar C hr hlk hnm hAO
  have in1 : ∀ w ∈ u_ws RX1 TX1 3, w ∈ wsX1_init := by decide +kernel
  have w2554035390 := C.2.2.2.2.1 (.methodLink RX1 3 objectInit) (by decide +kernel)
  have w5213295 := C.2.2.2.2.1 (.instanceMethod objectInit) (by decide +kernel)
  have w1100371547 := C.2.2.2.2.1 (.code objectInit ⟨#[0xb1]⟩ 1 none) (by decide +kernel)
  have w778274299 := C.2.2.2.2.1 (.arrayClass .int) (by decide +kernel)
  have f9 := C.2.2.2.2.1 (.fieldLink RX1 9 "WordAnchors$Blocks" "shifts" "[I") (by decide +kernel)
  have f15 := C.2.2.2.2.1 (.fieldLink RX1 15 "WordAnchors$Blocks" "members" "[I") (by decide +kernel)
  refine g_aload_n C 0 rfl dX1_init_0 ?_
  refine g_obj C w2554035390 w5213295 w1100371547 dX1_init_1 (Nat.le_of_ble_eq_true rfl) (Nat.le_of_ble_eq_true rfl) ?_
  refine g_aload_n C 0 rfl dX1_init_4 ?_
  refine g_bipush C 6 (by decide) dX1_init_5 ?_
  refine g_newa C 0 rfl rfl w778274299 (6, .inl (fun _ => 0)) (fun _ => rfl) (by decide) (by decide) (by decide) (Nat.le_of_ble_eq_true rfl) (Nat.le_of_ble_eq_true rfl) dX1_init_7 (b + 2) (by omega) (fun a1 hg1 C => ?_)
  refine g_cell (fun c1 ec1 => ?_)
  have hc1 : ∀ j : Nat, j < b + 1 → c1 j = cell j := fun j hj => by rw [ec1, va_up_ne _ _ (by omega)]
  have h2 : c1 b = .inr (1, [.null, .null, .int 0]) := by rw [hc1 b (by omega), hb]
  have h3 : c1 (b + 1) = .inl (kc 0, 6, .inl (fun _ => 0)) := by rw [ec1]; exact va_up_self _ _ _
  have fr4 : ∀ j : Nat, j < b → c1 j = cell j := fun j hj => hc1 j (by omega)
  have ag5 : ∀ j : Nat, j < b + 1 → a1 j = adr j := fun j hj => hg1 j (by omega)
  refine g_eqlv (lv1 := [(0, .ref (a1 b))]) (by rw [hg1 b (by omega)]) ?_
  refine g_eqst (st1 := ([.ref (a1 (b + 1)), .ref (a1 b)] : List Value)) (by rw [hg1 b (by omega)]) ?_
  refine g_putF C b 1 0 (by omega) h2 rfl in1 tyX1 tyX1_ok nmX1 (by decide) f9 (fun _ h9 => h9) rfl hnm rfl (tyX1_ok 0 (by decide)) rfl rfl (Nat.le_of_ble_eq_true rfl) dX1_init_9 ?_
  refine g_cell (fun c6 ec6 => ?_)
  have h7 : c6 (b + 1) = .inl (kc 0, 6, .inl (fun _ => 0)) := by rw [(show c6 (b + 1) = c1 (b + 1) by rw [ec6, va_up_ne _ _ (by omega)]), h3]
  have h8 : c6 b = .inr (1, [.ref (a1 (b + 1)), .null, .int 0]) := by rw [ec6]; exact va_up_self _ _ _
  have fr9 : ∀ j : Nat, j < b → c6 j = cell j := fun j hj => ((show c6 j = c1 j by rw [ec6, va_up_ne _ _ (by omega)])).trans (fr4 j hj)
  refine g_aload_n C 0 rfl dX1_init_12 ?_
  refine g_bipush C 6 (by decide) dX1_init_13 ?_
  refine g_newa C 0 rfl rfl w778274299 (6, .inl (fun _ => 0)) (fun _ => rfl) (by decide) (by decide) (by decide) (Nat.le_of_ble_eq_true rfl) (Nat.le_of_ble_eq_true rfl) dX1_init_15 (b + 3) (by omega) (fun a10 hg10 C => ?_)
  refine g_cell (fun c10 ec10 => ?_)
  have hc10 : ∀ j : Nat, j < b + 2 → c10 j = c6 j := fun j hj => by rw [ec10, va_up_ne _ _ (by omega)]
  have h11 : c10 (b + 1) = .inl (kc 0, 6, .inl (fun _ => 0)) := by rw [hc10 (b + 1) (by omega), h7]
  have h12 : c10 b = .inr (1, [.ref (a10 (b + 1)), .null, .int 0]) := by rw [hc10 b (by omega), h8, hg10 (b + 1) (by omega)]
  have h13 : c10 (b + 2) = .inl (kc 0, 6, .inl (fun _ => 0)) := by rw [ec10]; exact va_up_self _ _ _
  have fr14 : ∀ j : Nat, j < b → c10 j = cell j := fun j hj => (hc10 j (by omega)).trans (fr9 j hj)
  have ag15 : ∀ j : Nat, j < b + 1 → a10 j = adr j := fun j hj => (hg10 j (by omega)).trans (ag5 j hj)
  refine g_eqlv (lv1 := [(0, .ref (a10 b))]) (by rw [hg10 b (by omega)]) ?_
  refine g_eqst (st1 := ([.ref (a10 (b + 2)), .ref (a10 b)] : List Value)) (by rw [hg10 b (by omega)]) ?_
  refine g_putF C b 1 1 (by omega) h12 rfl in1 tyX1 tyX1_ok nmX1 (by decide) f15 (fun _ h9 => h9) rfl hnm rfl (tyX1_ok 1 (by decide)) rfl rfl (Nat.le_of_ble_eq_true rfl) dX1_init_17 ?_
  refine g_cell (fun c16 ec16 => ?_)
  have h17 : c16 (b + 1) = .inl (kc 0, 6, .inl (fun _ => 0)) := by rw [(show c16 (b + 1) = c10 (b + 1) by rw [ec16, va_up_ne _ _ (by omega)]), h11]
  have h18 : c16 (b + 2) = .inl (kc 0, 6, .inl (fun _ => 0)) := by rw [(show c16 (b + 2) = c10 (b + 2) by rw [ec16, va_up_ne _ _ (by omega)]), h13]
  have h19 : c16 b = .inr (1, [.ref (a10 (b + 1)), .ref (a10 (b + 2)), .int 0]) := by rw [ec16]; exact va_up_self _ _ _
  have fr20 : ∀ j : Nat, j < b → c16 j = cell j := fun j hj => ((show c16 j = c10 j by rw [ec16, va_up_ne _ _ (by omega)])).trans (fr14 j hj)
  refine g_kret (by omega) C hr hlk dX1_init_20 ag15 ?_
  exact ⟨⟨h19, h17, h18, by omega⟩, fr20⟩
set_option maxRecDepth 100000 in
set_option maxHeartbeats 4000000 in
theorem c_X2_init (l : Launch) (D : va_G) (kc : Nat → ClassId) (adr : Nat → Nat) (cell : Nat → va_E) (b : Nat) (hb : cell b = .inr (2, [.null, .null, .int 0, .int 0, .int 0, .int 0])) : MK l yX2_init wsX2_init ({ frames := 1, cells := 2, slots := 63, locals := 20 }) 2 2 63 D kc (b + 1) adr cell [.ref (adr b)] (fun (a1 : Nat → Nat) (c1 : Nat → va_E) => TxAt c1 a1 kc b 0 0 0 0 (fun _ => 0) (fun _ => 0) ∧ ∀ j : Nat, j < b → c1 j = cell j) := by
  refine met_k (cc := cX2_init) (maxL := 1) (ret := none) (by decide) rfl (Nat.le_of_ble_eq_true rfl) (lv := [(0, .ref (adr b))]) rfl ?_
  intro Pg Ev Sv Mi args below Me Cd Ar C hr hlk hnm hAO
  have in2 : ∀ w ∈ u_ws RX2 TX2 6, w ∈ wsX2_init := by decide +kernel
  have w3831126373 := C.2.2.2.2.1 (.methodLink RX2 3 objectInit) (by decide +kernel)
  have w5213295 := C.2.2.2.2.1 (.instanceMethod objectInit) (by decide +kernel)
  have w1100371547 := C.2.2.2.2.1 (.code objectInit ⟨#[0xb1]⟩ 1 none) (by decide +kernel)
  have w449695054 := C.2.2.2.2.1 (.arrayClass .char) (by decide +kernel)
  have f9 := C.2.2.2.2.1 (.fieldLink RX2 9 "WordAnchors$EditText" "characters" "[C") (by decide +kernel)
  have w778274299 := C.2.2.2.2.1 (.arrayClass .int) (by decide +kernel)
  have f15 := C.2.2.2.2.1 (.fieldLink RX2 15 "WordAnchors$EditText" "numbers" "[I") (by decide +kernel)
  refine g_aload_n C 0 rfl dX2_init_0 ?_
  refine g_obj C w3831126373 w5213295 w1100371547 dX2_init_1 (Nat.le_of_ble_eq_true rfl) (Nat.le_of_ble_eq_true rfl) ?_
  refine g_aload_n C 0 rfl dX2_init_4 ?_
  refine g_bipush C 60 (by decide) dX2_init_5 ?_
  refine g_newa C 1 rfl rfl w449695054 (60, .inl (fun _ => 0)) (fun _ => rfl) (by decide) (by decide) (by decide) (Nat.le_of_ble_eq_true rfl) (Nat.le_of_ble_eq_true rfl) dX2_init_7 (b + 2) (by omega) (fun a1 hg1 C => ?_)
  refine g_cell (fun c1 ec1 => ?_)
  have hc1 : ∀ j : Nat, j < b + 1 → c1 j = cell j := fun j hj => by rw [ec1, va_up_ne _ _ (by omega)]
  have h2 : c1 b = .inr (2, [.null, .null, .int 0, .int 0, .int 0, .int 0]) := by rw [hc1 b (by omega), hb]
  have h3 : c1 (b + 1) = .inl (kc 1, 60, .inl (fun _ => 0)) := by rw [ec1]; exact va_up_self _ _ _
  have fr4 : ∀ j : Nat, j < b → c1 j = cell j := fun j hj => hc1 j (by omega)
  have ag5 : ∀ j : Nat, j < b + 1 → a1 j = adr j := fun j hj => hg1 j (by omega)
  refine g_eqlv (lv1 := [(0, .ref (a1 b))]) (by rw [hg1 b (by omega)]) ?_
  refine g_eqst (st1 := ([.ref (a1 (b + 1)), .ref (a1 b)] : List Value)) (by rw [hg1 b (by omega)]) ?_
  refine g_putF C b 2 0 (by omega) h2 rfl in2 tyX2 tyX2_ok nmX2 (by decide) f9 (fun _ h9 => h9) rfl hnm rfl (tyX2_ok 0 (by decide)) rfl rfl (Nat.le_of_ble_eq_true rfl) dX2_init_9 ?_
  refine g_cell (fun c6 ec6 => ?_)
  have h7 : c6 (b + 1) = .inl (kc 1, 60, .inl (fun _ => 0)) := by rw [(show c6 (b + 1) = c1 (b + 1) by rw [ec6, va_up_ne _ _ (by omega)]), h3]
  have h8 : c6 b = .inr (2, [.ref (a1 (b + 1)), .null, .int 0, .int 0, .int 0, .int 0]) := by rw [ec6]; exact va_up_self _ _ _
  have fr9 : ∀ j : Nat, j < b → c6 j = cell j := fun j hj => ((show c6 j = c1 j by rw [ec6, va_up_ne _ _ (by omega)])).trans (fr4 j hj)
  refine g_aload_n C 0 rfl dX2_init_12 ?_
  refine g_iconst C 3 (by decide) dX2_init_13 ?_
  refine g_newa C 0 rfl rfl w778274299 (3, .inl (fun _ => 0)) (fun _ => rfl) (by decide) (by decide) (by decide) (Nat.le_of_ble_eq_true rfl) (Nat.le_of_ble_eq_true rfl) dX2_init_14 (b + 3) (by omega) (fun a10 hg10 C => ?_)
  refine g_cell (fun c10 ec10 => ?_)
  have hc10 : ∀ j : Nat, j < b + 2 → c10 j = c6 j := fun j hj => by rw [ec10, va_up_ne _ _ (by omega)]
  have h11 : c10 (b + 1) = .inl (kc 1, 60, .inl (fun _ => 0)) := by rw [hc10 (b + 1) (by omega), h7]
  have h12 : c10 b = .inr (2, [.ref (a10 (b + 1)), .null, .int 0, .int 0, .int 0, .int 0]) := by rw [hc10 b (by omega), h8, hg10 (b + 1) (by omega)]
  have h13 : c10 (b + 2) = .inl (kc 0, 3, .inl (fun _ => 0)) := by rw [ec10]; exact va_up_self _ _ _
  have fr14 : ∀ j : Nat, j < b → c10 j = cell j := fun j hj => (hc10 j (by omega)).trans (fr9 j hj)
  have ag15 : ∀ j : Nat, j < b + 1 → a10 j = adr j := fun j hj => (hg10 j (by omega)).trans (ag5 j hj)
  refine g_eqlv (lv1 := [(0, .ref (a10 b))]) (by rw [hg10 b (by omega)]) ?_
  refine g_eqst (st1 := ([.ref (a10 (b + 2)), .ref (a10 b)] : List Value)) (by rw [hg10 b (by omega)]) ?_
  refine g_putF C b 2 1 (by omega) h12 rfl in2 tyX2 tyX2_ok nmX2 (by decide) f15 (fun _ h9 => h9) rfl hnm rfl (tyX2_ok 1 (by decide)) rfl rfl (Nat.le_of_ble_eq_true rfl) dX2_init_16 ?_
  refine g_cell (fun c16 ec16 => ?_)
  have h17 : c16 (b + 1) = .inl (kc 1, 60, .inl (fun _ => 0)) := by rw [(show c16 (b + 1) = c10 (b + 1) by rw [ec16, va_up_ne _ _ (by omega)]), h11]
  have h18 : c16 (b + 2) = .inl (kc 0, 3, .inl (fun _ => 0)) := by rw [(show c16 (b + 2) = c10 (b + 2) by rw [ec16, va_up_ne _ _ (by omega)]), h13]
  have h19 : c16 b = .inr (2, [.ref (a10 (b + 1)), .ref (a10 (b + 2)), .int 0, .int 0, .int 0, .int 0]) := by rw [ec16]; exact va_up_self _ _ _
  have fr20 : ∀ j : Nat, j < b → c16 j = cell j := fun j hj => ((show c16 j = c10 j by rw [ec16, va_up_ne _ _ (by omega)])).trans (fr14 j hj)
  refine g_kret (by omega) C hr hlk dX2_init_19 ag15 ?_
  exact ⟨⟨h19, h17, h18, by omega⟩, fr20⟩
set_option maxRecDepth 100000 in
set_option maxHeartbeats 4000000 in
theorem c_X4_init (l : Launch) (D : va_G) (kc : Nat → ClassId) (adr : Nat → Nat) (cell : Nat → va_E) (b : Nat) (hb : cell b = .inr (4, [.null, .null, .null, .int 0])) : MK l yX4_init wsX4_init ({ frames := 1, cells := 3, slots := 120, locals := 20 }) 3 3 120 D kc (b + 1) adr cell [.ref (adr b)] (fun (a1 : Nat → Nat) (c1 : Nat → va_E) => RowAt c1 a1 kc b (fun _ => 0) (fun _ => 0) (fun _ => 0) 0 ∧ ∀ j : Nat, j < b → c1 j = cell j) := by
  refine met_k (cc := cX4_init) (maxL := 1) (ret := none) (by decide) rfl (Nat.le_of_ble_eq_true rfl) (lv := [(0, .ref (adr b))]) rfl ?_
  intro Pg Ev Sv Mi args below Me Cd Ar C hr hlk hnm hAO
  have in4 : ∀ w ∈ u_ws RX4 TX4 4, w ∈ wsX4_init := by decide +kernel
  have w479728339 := C.2.2.2.2.1 (.methodLink RX4 3 objectInit) (by decide +kernel)
  have w5213295 := C.2.2.2.2.1 (.instanceMethod objectInit) (by decide +kernel)
  have w1100371547 := C.2.2.2.2.1 (.code objectInit ⟨#[0xb1]⟩ 1 none) (by decide +kernel)
  have w778274299 := C.2.2.2.2.1 (.arrayClass .int) (by decide +kernel)
  have f9 := C.2.2.2.2.1 (.fieldLink RX4 9 "WordAnchors$Row" "words" "[I") (by decide +kernel)
  have f15 := C.2.2.2.2.1 (.fieldLink RX4 15 "WordAnchors$Row" "targets" "[I") (by decide +kernel)
  have f18 := C.2.2.2.2.1 (.fieldLink RX4 18 "WordAnchors$Row" "relocated" "[I") (by decide +kernel)
  refine g_aload_n C 0 rfl dX4_init_0 ?_
  refine g_obj C w479728339 w5213295 w1100371547 dX4_init_1 (Nat.le_of_ble_eq_true rfl) (Nat.le_of_ble_eq_true rfl) ?_
  refine g_aload_n C 0 rfl dX4_init_4 ?_
  refine g_bipush C 40 (by decide) dX4_init_5 ?_
  refine g_newa C 0 rfl rfl w778274299 (40, .inl (fun _ => 0)) (fun _ => rfl) (by decide) (by decide) (by decide) (Nat.le_of_ble_eq_true rfl) (Nat.le_of_ble_eq_true rfl) dX4_init_7 (b + 2) (by omega) (fun a1 hg1 C => ?_)
  refine g_cell (fun c1 ec1 => ?_)
  have hc1 : ∀ j : Nat, j < b + 1 → c1 j = cell j := fun j hj => by rw [ec1, va_up_ne _ _ (by omega)]
  have h2 : c1 b = .inr (4, [.null, .null, .null, .int 0]) := by rw [hc1 b (by omega), hb]
  have h3 : c1 (b + 1) = .inl (kc 0, 40, .inl (fun _ => 0)) := by rw [ec1]; exact va_up_self _ _ _
  have fr4 : ∀ j : Nat, j < b → c1 j = cell j := fun j hj => hc1 j (by omega)
  have ag5 : ∀ j : Nat, j < b + 1 → a1 j = adr j := fun j hj => hg1 j (by omega)
  refine g_eqlv (lv1 := [(0, .ref (a1 b))]) (by rw [hg1 b (by omega)]) ?_
  refine g_eqst (st1 := ([.ref (a1 (b + 1)), .ref (a1 b)] : List Value)) (by rw [hg1 b (by omega)]) ?_
  refine g_putF C b 4 0 (by omega) h2 rfl in4 tyX4 tyX4_ok nmX4 (by decide) f9 (fun _ h9 => h9) rfl hnm rfl (tyX4_ok 0 (by decide)) rfl rfl (Nat.le_of_ble_eq_true rfl) dX4_init_9 ?_
  refine g_cell (fun c6 ec6 => ?_)
  have h7 : c6 (b + 1) = .inl (kc 0, 40, .inl (fun _ => 0)) := by rw [(show c6 (b + 1) = c1 (b + 1) by rw [ec6, va_up_ne _ _ (by omega)]), h3]
  have h8 : c6 b = .inr (4, [.ref (a1 (b + 1)), .null, .null, .int 0]) := by rw [ec6]; exact va_up_self _ _ _
  have fr9 : ∀ j : Nat, j < b → c6 j = cell j := fun j hj => ((show c6 j = c1 j by rw [ec6, va_up_ne _ _ (by omega)])).trans (fr4 j hj)
  refine g_aload_n C 0 rfl dX4_init_12 ?_
  refine g_bipush C 40 (by decide) dX4_init_13 ?_
  refine g_newa C 0 rfl rfl w778274299 (40, .inl (fun _ => 0)) (fun _ => rfl) (by decide) (by decide) (by decide) (Nat.le_of_ble_eq_true rfl) (Nat.le_of_ble_eq_true rfl) dX4_init_15 (b + 3) (by omega) (fun a10 hg10 C => ?_)
  refine g_cell (fun c10 ec10 => ?_)
  have hc10 : ∀ j : Nat, j < b + 2 → c10 j = c6 j := fun j hj => by rw [ec10, va_up_ne _ _ (by omega)]
  have h11 : c10 (b + 1) = .inl (kc 0, 40, .inl (fun _ => 0)) := by rw [hc10 (b + 1) (by omega), h7]
  have h12 : c10 b = .inr (4, [.ref (a10 (b + 1)), .null, .null, .int 0]) := by rw [hc10 b (by omega), h8, hg10 (b + 1) (by omega)]
  have h13 : c10 (b + 2) = .inl (kc 0, 40, .inl (fun _ => 0)) := by rw [ec10]; exact va_up_self _ _ _
  have fr14 : ∀ j : Nat, j < b → c10 j = cell j := fun j hj => (hc10 j (by omega)).trans (fr9 j hj)
  have ag15 : ∀ j : Nat, j < b + 1 → a10 j = adr j := fun j hj => (hg10 j (by omega)).trans (ag5 j hj)
  refine g_eqlv (lv1 := [(0, .ref (a10 b))]) (by rw [hg10 b (by omega)]) ?_
  refine g_eqst (st1 := ([.ref (a10 (b + 2)), .ref (a10 b)] : List Value)) (by rw [hg10 b (by omega)]) ?_
  refine g_putF C b 4 1 (by omega) h12 rfl in4 tyX4 tyX4_ok nmX4 (by decide) f15 (fun _ h9 => h9) rfl hnm rfl (tyX4_ok 1 (by decide)) rfl rfl (Nat.le_of_ble_eq_true rfl) dX4_init_17 ?_
  refine g_cell (fun c16 ec16 => ?_)
  have h17 : c16 (b + 1) = .inl (kc 0, 40, .inl (fun _ => 0)) := by rw [(show c16 (b + 1) = c10 (b + 1) by rw [ec16, va_up_ne _ _ (by omega)]), h11]
  have h18 : c16 (b + 2) = .inl (kc 0, 40, .inl (fun _ => 0)) := by rw [(show c16 (b + 2) = c10 (b + 2) by rw [ec16, va_up_ne _ _ (by omega)]), h13]
  have h19 : c16 b = .inr (4, [.ref (a10 (b + 1)), .ref (a10 (b + 2)), .null, .int 0]) := by rw [ec16]; exact va_up_self _ _ _
  have fr20 : ∀ j : Nat, j < b → c16 j = cell j := fun j hj => ((show c16 j = c10 j by rw [ec16, va_up_ne _ _ (by omega)])).trans (fr14 j hj)
  refine g_aload_n C 0 rfl dX4_init_20 ?_
  refine g_bipush C 40 (by decide) dX4_init_21 ?_
  refine g_newa C 0 rfl rfl w778274299 (40, .inl (fun _ => 0)) (fun _ => rfl) (by decide) (by decide) (by decide) (Nat.le_of_ble_eq_true rfl) (Nat.le_of_ble_eq_true rfl) dX4_init_23 (b + 4) (by omega) (fun a21 hg21 C => ?_)
  refine g_cell (fun c21 ec21 => ?_)
  have hc21 : ∀ j : Nat, j < b + 3 → c21 j = c16 j := fun j hj => by rw [ec21, va_up_ne _ _ (by omega)]
  have h22 : c21 (b + 1) = .inl (kc 0, 40, .inl (fun _ => 0)) := by rw [hc21 (b + 1) (by omega), h17]
  have h23 : c21 (b + 2) = .inl (kc 0, 40, .inl (fun _ => 0)) := by rw [hc21 (b + 2) (by omega), h18]
  have h24 : c21 b = .inr (4, [.ref (a21 (b + 1)), .ref (a21 (b + 2)), .null, .int 0]) := by rw [hc21 b (by omega), h19, hg21 (b + 1) (by omega), hg21 (b + 2) (by omega)]
  have h25 : c21 (b + 3) = .inl (kc 0, 40, .inl (fun _ => 0)) := by rw [ec21]; exact va_up_self _ _ _
  have fr26 : ∀ j : Nat, j < b → c21 j = cell j := fun j hj => (hc21 j (by omega)).trans (fr20 j hj)
  have ag27 : ∀ j : Nat, j < b + 1 → a21 j = adr j := fun j hj => (hg21 j (by omega)).trans (ag15 j hj)
  refine g_eqlv (lv1 := [(0, .ref (a21 b))]) (by rw [hg21 b (by omega)]) ?_
  refine g_eqst (st1 := ([.ref (a21 (b + 3)), .ref (a21 b)] : List Value)) (by rw [hg21 b (by omega)]) ?_
  refine g_putF C b 4 2 (by omega) h24 rfl in4 tyX4 tyX4_ok nmX4 (by decide) f18 (fun _ h9 => h9) rfl hnm rfl (tyX4_ok 2 (by decide)) rfl rfl (Nat.le_of_ble_eq_true rfl) dX4_init_25 ?_
  refine g_cell (fun c28 ec28 => ?_)
  have h29 : c28 (b + 1) = .inl (kc 0, 40, .inl (fun _ => 0)) := by rw [(show c28 (b + 1) = c21 (b + 1) by rw [ec28, va_up_ne _ _ (by omega)]), h22]
  have h30 : c28 (b + 2) = .inl (kc 0, 40, .inl (fun _ => 0)) := by rw [(show c28 (b + 2) = c21 (b + 2) by rw [ec28, va_up_ne _ _ (by omega)]), h23]
  have h31 : c28 (b + 3) = .inl (kc 0, 40, .inl (fun _ => 0)) := by rw [(show c28 (b + 3) = c21 (b + 3) by rw [ec28, va_up_ne _ _ (by omega)]), h25]
  have h32 : c28 b = .inr (4, [.ref (a21 (b + 1)), .ref (a21 (b + 2)), .ref (a21 (b + 3)), .int 0]) := by rw [ec28]; exact va_up_self _ _ _
  have fr33 : ∀ j : Nat, j < b → c28 j = cell j := fun j hj => ((show c28 j = c21 j by rw [ec28, va_up_ne _ _ (by omega)])).trans (fr26 j hj)
  refine g_kret (by omega) C hr hlk dX4_init_28 ag27 ?_
  exact ⟨⟨h32, h29, h30, h31, by omega⟩, fr33⟩
