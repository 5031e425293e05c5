set_option maxRecDepth 100000 in
set_option maxHeartbeats 4000000 in
theorem c_X7_init (l : Launch) (D : va_G) (kc : Nat → ClassId) (adr : Nat → Nat) (cell : Nat → va_E) (hb : cell 0 = .inr (7, [.null, .null, .null, .null, .int 0, .null, .int 0, .int 0, .int 0, .null, .null, .null])) : MK l yX7_init wsX7_init ({ frames := 1, cells := 8, slots := 739, locals := 20 }) 8 8 739 D kc (1) adr cell [.ref (adr 0)] (fun (a1 : Nat → Nat) (c1 : Nat → va_E) => MAt c1 a1 kc s00 0 (fun _ => s00) 0 (fun _ => 0)) := by
  refine met_k (cc := cX7_init) (maxL := 1) (ret := none) (by decide) rfl (Nat.le_of_ble_eq_true rfl) (lv := [(0, .ref (adr 0))]) rfl ?_
  intro Pg Ev Sv Mi args below Me Cd Ar C hr hlk hnm hAO
  have in7 : ∀ w ∈ u_ws RX7 TX7 12, w ∈ wsX7_init := by decide +kernel
  have w2361567639 := C.2.2.2.2.1 (.methodLink RX7 1 objectInit) (by decide +kernel)
  have w5213295 := C.2.2.2.2.1 (.instanceMethod objectInit) (by decide +kernel)
  have w1100371547 := C.2.2.2.2.1 (.code objectInit ⟨#[0xb1]⟩ 1 none) (by decide +kernel)
  have w778274299 := C.2.2.2.2.1 (.arrayClass .int) (by decide +kernel)
  have f7 := C.2.2.2.2.1 (.fieldLink RX7 7 "WordAnchorsModel" "s" "[I") (by decide +kernel)
  have f13 := C.2.2.2.2.1 (.fieldLink RX7 13 "WordAnchorsModel" "was" "[I") (by decide +kernel)
  have f16 := C.2.2.2.2.1 (.fieldLink RX7 16 "WordAnchorsModel" "begun" "[I") (by decide +kernel)
  have f19 := C.2.2.2.2.1 (.fieldLink RX7 19 "WordAnchorsModel" "aside" "[I") (by decide +kernel)
  have w449695054 := C.2.2.2.2.1 (.arrayClass .char) (by decide +kernel)
  have f22 := C.2.2.2.2.1 (.fieldLink RX7 22 "WordAnchorsModel" "text" "[C") (by decide +kernel)
  have f26 := C.2.2.2.2.1 (.fieldLink RX7 26 "WordAnchorsModel" "number" "[I") (by decide +kernel)
  have f29 := C.2.2.2.2.1 (.fieldLink RX7 29 "WordAnchorsModel" "moved" "[I") (by decide +kernel)
  have f32 := C.2.2.2.2.1 (.fieldLink RX7 32 "WordAnchorsModel" "shift" "[I") (by decide +kernel)
  refine g_aload_n C 0 rfl dX7_init_0 ?_
  refine g_obj C w2361567639 w5213295 w1100371547 dX7_init_1 (Nat.le_of_ble_eq_true rfl) (Nat.le_of_ble_eq_true rfl) ?_
  refine g_aload_n C 0 rfl dX7_init_4 ?_
  refine g_bipush C 90 (by decide) dX7_init_5 ?_
  refine g_newa C 0 rfl rfl w778274299 (90, .inl (fun _ => 0)) (fun _ => rfl) (by decide) (by decide) (by decide) (Nat.le_of_ble_eq_true rfl) (Nat.le_of_ble_eq_true rfl) dX7_init_7 (2) (by omega) (fun a1 hg1 C => ?_)
  refine g_cell (fun c1 ec1 => ?_)
  have hc1 : ∀ j : Nat, j < 1 → c1 j = cell j := fun j hj => by rw [ec1, va_up_ne _ _ (by omega)]
  have h2 : c1 0 = .inr (7, [.null, .null, .null, .null, .int 0, .null, .int 0, .int 0, .int 0, .null, .null, .null]) := by rw [hc1 0 (by omega), hb]
  have h3 : c1 1 = .inl (kc 0, 90, .inl (fun _ => 0)) := by rw [ec1]; exact va_up_self _ _ _
  have ag4 : ∀ j : Nat, j < 1 → a1 j = adr j := fun j hj => hg1 j (by omega)
  refine g_eqlv (lv1 := [(0, .ref (a1 0))]) (by rw [hg1 0 (by omega)]) ?_
  refine g_eqst (st1 := ([.ref (a1 1), .ref (a1 0)] : List Value)) (by rw [hg1 0 (by omega)]) ?_
  refine g_putF C 0 7 0 (by omega) h2 rfl in7 tyX7 tyX7_ok nmX7 (by decide) f7 (fun _ h9 => h9) rfl hnm rfl (tyX7_ok 0 (by decide)) rfl rfl (Nat.le_of_ble_eq_true rfl) dX7_init_9 ?_
  refine g_cell (fun c5 ec5 => ?_)
  have h6 : c5 1 = .inl (kc 0, 90, .inl (fun _ => 0)) := by rw [(show c5 1 = c1 1 by rw [ec5, va_up_ne _ _ (by omega)]), h3]
  have h7 : c5 0 = .inr (7, [.ref (a1 1), .null, .null, .null, .int 0, .null, .int 0, .int 0, .int 0, .null, .null, .null]) := by rw [ec5]; exact va_up_self _ _ _
  refine g_aload_n C 0 rfl dX7_init_12 ?_
  refine g_sipush C 360 (by decide) dX7_init_13 ?_
  refine g_newa C 0 rfl rfl w778274299 (360, .inl (fun _ => 0)) (fun _ => rfl) (by decide) (by decide) (by decide) (Nat.le_of_ble_eq_true rfl) (Nat.le_of_ble_eq_true rfl) dX7_init_16 (3) (by omega) (fun a8 hg8 C => ?_)
  refine g_cell (fun c8 ec8 => ?_)
  have hc8 : ∀ j : Nat, j < 2 → c8 j = c5 j := fun j hj => by rw [ec8, va_up_ne _ _ (by omega)]
  have h9 : c8 1 = .inl (kc 0, 90, .inl (fun _ => 0)) := by rw [hc8 1 (by omega), h6]
  have h10 : c8 0 = .inr (7, [.ref (a8 1), .null, .null, .null, .int 0, .null, .int 0, .int 0, .int 0, .null, .null, .null]) := by rw [hc8 0 (by omega), h7, hg8 1 (by omega)]
  have h11 : c8 2 = .inl (kc 0, 360, .inl (fun _ => 0)) := by rw [ec8]; exact va_up_self _ _ _
  have ag12 : ∀ j : Nat, j < 1 → a8 j = adr j := fun j hj => (hg8 j (by omega)).trans (ag4 j hj)
  refine g_eqlv (lv1 := [(0, .ref (a8 0))]) (by rw [hg8 0 (by omega)]) ?_
  refine g_eqst (st1 := ([.ref (a8 2), .ref (a8 0)] : List Value)) (by rw [hg8 0 (by omega)]) ?_
  refine g_putF C 0 7 1 (by omega) h10 rfl in7 tyX7 tyX7_ok nmX7 (by decide) f13 (fun _ h9 => h9) rfl hnm rfl (tyX7_ok 1 (by decide)) rfl rfl (Nat.le_of_ble_eq_true rfl) dX7_init_18 ?_
  refine g_cell (fun c13 ec13 => ?_)
  have h14 : c13 1 = .inl (kc 0, 90, .inl (fun _ => 0)) := by rw [(show c13 1 = c8 1 by rw [ec13, va_up_ne _ _ (by omega)]), h9]
  have h15 : c13 2 = .inl (kc 0, 360, .inl (fun _ => 0)) := by rw [(show c13 2 = c8 2 by rw [ec13, va_up_ne _ _ (by omega)]), h11]
  have h16 : c13 0 = .inr (7, [.ref (a8 1), .ref (a8 2), .null, .null, .int 0, .null, .int 0, .int 0, .int 0, .null, .null, .null]) := by rw [ec13]; exact va_up_self _ _ _
  refine g_aload_n C 0 rfl dX7_init_21 ?_
  refine g_bipush C 90 (by decide) dX7_init_22 ?_
  refine g_newa C 0 rfl rfl w778274299 (90, .inl (fun _ => 0)) (fun _ => rfl) (by decide) (by decide) (by decide) (Nat.le_of_ble_eq_true rfl) (Nat.le_of_ble_eq_true rfl) dX7_init_24 (4) (by omega) (fun a17 hg17 C => ?_)
  refine g_cell (fun c17 ec17 => ?_)
  have hc17 : ∀ j : Nat, j < 3 → c17 j = c13 j := fun j hj => by rw [ec17, va_up_ne _ _ (by omega)]
  have h18 : c17 1 = .inl (kc 0, 90, .inl (fun _ => 0)) := by rw [hc17 1 (by omega), h14]
  have h19 : c17 2 = .inl (kc 0, 360, .inl (fun _ => 0)) := by rw [hc17 2 (by omega), h15]
  have h20 : c17 0 = .inr (7, [.ref (a17 1), .ref (a17 2), .null, .null, .int 0, .null, .int 0, .int 0, .int 0, .null, .null, .null]) := by rw [hc17 0 (by omega), h16, hg17 1 (by omega), hg17 2 (by omega)]
  have h21 : c17 3 = .inl (kc 0, 90, .inl (fun _ => 0)) := by rw [ec17]; exact va_up_self _ _ _
  have ag22 : ∀ j : Nat, j < 1 → a17 j = adr j := fun j hj => (hg17 j (by omega)).trans (ag12 j hj)
  refine g_eqlv (lv1 := [(0, .ref (a17 0))]) (by rw [hg17 0 (by omega)]) ?_
  refine g_eqst (st1 := ([.ref (a17 3), .ref (a17 0)] : List Value)) (by rw [hg17 0 (by omega)]) ?_
  refine g_putF C 0 7 2 (by omega) h20 rfl in7 tyX7 tyX7_ok nmX7 (by decide) f16 (fun _ h9 => h9) rfl hnm rfl (tyX7_ok 2 (by decide)) rfl rfl (Nat.le_of_ble_eq_true rfl) dX7_init_26 ?_
  refine g_cell (fun c23 ec23 => ?_)
  have h24 : c23 1 = .inl (kc 0, 90, .inl (fun _ => 0)) := by rw [(show c23 1 = c17 1 by rw [ec23, va_up_ne _ _ (by omega)]), h18]
  have h25 : c23 2 = .inl (kc 0, 360, .inl (fun _ => 0)) := by rw [(show c23 2 = c17 2 by rw [ec23, va_up_ne _ _ (by omega)]), h19]
  have h26 : c23 3 = .inl (kc 0, 90, .inl (fun _ => 0)) := by rw [(show c23 3 = c17 3 by rw [ec23, va_up_ne _ _ (by omega)]), h21]
  have h27 : c23 0 = .inr (7, [.ref (a17 1), .ref (a17 2), .ref (a17 3), .null, .int 0, .null, .int 0, .int 0, .int 0, .null, .null, .null]) := by rw [ec23]; exact va_up_self _ _ _
  refine g_aload_n C 0 rfl dX7_init_29 ?_
  refine g_bipush C 90 (by decide) dX7_init_30 ?_
  refine g_newa C 0 rfl rfl w778274299 (90, .inl (fun _ => 0)) (fun _ => rfl) (by decide) (by decide) (by decide) (Nat.le_of_ble_eq_true rfl) (Nat.le_of_ble_eq_true rfl) dX7_init_32 (5) (by omega) (fun a28 hg28 C => ?_)
  refine g_cell (fun c28 ec28 => ?_)
  have hc28 : ∀ j : Nat, j < 4 → c28 j = c23 j := fun j hj => by rw [ec28, va_up_ne _ _ (by omega)]
  have h29 : c28 1 = .inl (kc 0, 90, .inl (fun _ => 0)) := by rw [hc28 1 (by omega), h24]
  have h30 : c28 2 = .inl (kc 0, 360, .inl (fun _ => 0)) := by rw [hc28 2 (by omega), h25]
  have h31 : c28 3 = .inl (kc 0, 90, .inl (fun _ => 0)) := by rw [hc28 3 (by omega), h26]
  have h32 : c28 0 = .inr (7, [.ref (a28 1), .ref (a28 2), .ref (a28 3), .null, .int 0, .null, .int 0, .int 0, .int 0, .null, .null, .null]) := by rw [hc28 0 (by omega), h27, hg28 1 (by omega), hg28 2 (by omega), hg28 3 (by omega)]
  have h33 : c28 4 = .inl (kc 0, 90, .inl (fun _ => 0)) := by rw [ec28]; exact va_up_self _ _ _
  have ag34 : ∀ j : Nat, j < 1 → a28 j = adr j := fun j hj => (hg28 j (by omega)).trans (ag22 j hj)
  refine g_eqlv (lv1 := [(0, .ref (a28 0))]) (by rw [hg28 0 (by omega)]) ?_
  refine g_eqst (st1 := ([.ref (a28 4), .ref (a28 0)] : List Value)) (by rw [hg28 0 (by omega)]) ?_
  refine g_putF C 0 7 3 (by omega) h32 rfl in7 tyX7 tyX7_ok nmX7 (by decide) f19 (fun _ h9 => h9) rfl hnm rfl (tyX7_ok 3 (by decide)) rfl rfl (Nat.le_of_ble_eq_true rfl) dX7_init_34 ?_
  refine g_cell (fun c35 ec35 => ?_)
  have h36 : c35 1 = .inl (kc 0, 90, .inl (fun _ => 0)) := by rw [(show c35 1 = c28 1 by rw [ec35, va_up_ne _ _ (by omega)]), h29]
  have h37 : c35 2 = .inl (kc 0, 360, .inl (fun _ => 0)) := by rw [(show c35 2 = c28 2 by rw [ec35, va_up_ne _ _ (by omega)]), h30]
  have h38 : c35 3 = .inl (kc 0, 90, .inl (fun _ => 0)) := by rw [(show c35 3 = c28 3 by rw [ec35, va_up_ne _ _ (by omega)]), h31]
  have h39 : c35 4 = .inl (kc 0, 90, .inl (fun _ => 0)) := by rw [(show c35 4 = c28 4 by rw [ec35, va_up_ne _ _ (by omega)]), h33]
  have h40 : c35 0 = .inr (7, [.ref (a28 1), .ref (a28 2), .ref (a28 3), .ref (a28 4), .int 0, .null, .int 0, .int 0, .int 0, .null, .null, .null]) := by rw [ec35]; exact va_up_self _ _ _
  refine g_aload_n C 0 rfl dX7_init_37 ?_
  refine g_bipush C 60 (by decide) dX7_init_38 ?_
  refine g_newa C 1 rfl rfl w449695054 (60, .inl (fun _ => 0)) (fun _ => rfl) (by decide) (by decide) (by decide) (Nat.le_of_ble_eq_true rfl) (Nat.le_of_ble_eq_true rfl) dX7_init_40 (6) (by omega) (fun a41 hg41 C => ?_)
  refine g_cell (fun c41 ec41 => ?_)
  have hc41 : ∀ j : Nat, j < 5 → c41 j = c35 j := fun j hj => by rw [ec41, va_up_ne _ _ (by omega)]
  have h42 : c41 1 = .inl (kc 0, 90, .inl (fun _ => 0)) := by rw [hc41 1 (by omega), h36]
  have h43 : c41 2 = .inl (kc 0, 360, .inl (fun _ => 0)) := by rw [hc41 2 (by omega), h37]
  have h44 : c41 3 = .inl (kc 0, 90, .inl (fun _ => 0)) := by rw [hc41 3 (by omega), h38]
  have h45 : c41 4 = .inl (kc 0, 90, .inl (fun _ => 0)) := by rw [hc41 4 (by omega), h39]
  have h46 : c41 0 = .inr (7, [.ref (a41 1), .ref (a41 2), .ref (a41 3), .ref (a41 4), .int 0, .null, .int 0, .int 0, .int 0, .null, .null, .null]) := by rw [hc41 0 (by omega), h40, hg41 1 (by omega), hg41 2 (by omega), hg41 3 (by omega), hg41 4 (by omega)]
  have h47 : c41 5 = .inl (kc 1, 60, .inl (fun _ => 0)) := by rw [ec41]; exact va_up_self _ _ _
  have ag48 : ∀ j : Nat, j < 1 → a41 j = adr j := fun j hj => (hg41 j (by omega)).trans (ag34 j hj)
  refine g_eqlv (lv1 := [(0, .ref (a41 0))]) (by rw [hg41 0 (by omega)]) ?_
  refine g_eqst (st1 := ([.ref (a41 5), .ref (a41 0)] : List Value)) (by rw [hg41 0 (by omega)]) ?_
  refine g_putF C 0 7 5 (by omega) h46 rfl in7 tyX7 tyX7_ok nmX7 (by decide) f22 (fun _ h9 => h9) rfl hnm rfl (tyX7_ok 5 (by decide)) rfl rfl (Nat.le_of_ble_eq_true rfl) dX7_init_42 ?_
  refine g_cell (fun c49 ec49 => ?_)
  have h50 : c49 1 = .inl (kc 0, 90, .inl (fun _ => 0)) := by rw [(show c49 1 = c41 1 by rw [ec49, va_up_ne _ _ (by omega)]), h42]
  have h51 : c49 2 = .inl (kc 0, 360, .inl (fun _ => 0)) := by rw [(show c49 2 = c41 2 by rw [ec49, va_up_ne _ _ (by omega)]), h43]
  have h52 : c49 3 = .inl (kc 0, 90, .inl (fun _ => 0)) := by rw [(show c49 3 = c41 3 by rw [ec49, va_up_ne _ _ (by omega)]), h44]
  have h53 : c49 4 = .inl (kc 0, 90, .inl (fun _ => 0)) := by rw [(show c49 4 = c41 4 by rw [ec49, va_up_ne _ _ (by omega)]), h45]
  have h54 : c49 5 = .inl (kc 1, 60, .inl (fun _ => 0)) := by rw [(show c49 5 = c41 5 by rw [ec49, va_up_ne _ _ (by omega)]), h47]
  have h55 : c49 0 = .inr (7, [.ref (a41 1), .ref (a41 2), .ref (a41 3), .ref (a41 4), .int 0, .ref (a41 5), .int 0, .int 0, .int 0, .null, .null, .null]) := by rw [ec49]; exact va_up_self _ _ _
  refine g_aload_n C 0 rfl dX7_init_45 ?_
  refine g_iconst C 3 (by decide) dX7_init_46 ?_
  refine g_newa C 0 rfl rfl w778274299 (3, .inl (fun _ => 0)) (fun _ => rfl) (by decide) (by decide) (by decide) (Nat.le_of_ble_eq_true rfl) (Nat.le_of_ble_eq_true rfl) dX7_init_47 (7) (by omega) (fun a56 hg56 C => ?_)
  refine g_cell (fun c56 ec56 => ?_)
  have hc56 : ∀ j : Nat, j < 6 → c56 j = c49 j := fun j hj => by rw [ec56, va_up_ne _ _ (by omega)]
  have h57 : c56 1 = .inl (kc 0, 90, .inl (fun _ => 0)) := by rw [hc56 1 (by omega), h50]
  have h58 : c56 2 = .inl (kc 0, 360, .inl (fun _ => 0)) := by rw [hc56 2 (by omega), h51]
  have h59 : c56 3 = .inl (kc 0, 90, .inl (fun _ => 0)) := by rw [hc56 3 (by omega), h52]
  have h60 : c56 4 = .inl (kc 0, 90, .inl (fun _ => 0)) := by rw [hc56 4 (by omega), h53]
  have h61 : c56 5 = .inl (kc 1, 60, .inl (fun _ => 0)) := by rw [hc56 5 (by omega), h54]
  have h62 : c56 0 = .inr (7, [.ref (a56 1), .ref (a56 2), .ref (a56 3), .ref (a56 4), .int 0, .ref (a56 5), .int 0, .int 0, .int 0, .null, .null, .null]) := by rw [hc56 0 (by omega), h55, hg56 1 (by omega), hg56 2 (by omega), hg56 3 (by omega), hg56 4 (by omega), hg56 5 (by omega)]
  have h63 : c56 6 = .inl (kc 0, 3, .inl (fun _ => 0)) := by rw [ec56]; exact va_up_self _ _ _
  have ag64 : ∀ j : Nat, j < 1 → a56 j = adr j := fun j hj => (hg56 j (by omega)).trans (ag48 j hj)
  refine g_eqlv (lv1 := [(0, .ref (a56 0))]) (by rw [hg56 0 (by omega)]) ?_
  refine g_eqst (st1 := ([.ref (a56 6), .ref (a56 0)] : List Value)) (by rw [hg56 0 (by omega)]) ?_
  refine g_putF C 0 7 9 (by omega) h62 rfl in7 tyX7 tyX7_ok nmX7 (by decide) f26 (fun _ h9 => h9) rfl hnm rfl (tyX7_ok 9 (by decide)) rfl rfl (Nat.le_of_ble_eq_true rfl) dX7_init_49 ?_
  refine g_cell (fun c65 ec65 => ?_)
  have h66 : c65 1 = .inl (kc 0, 90, .inl (fun _ => 0)) := by rw [(show c65 1 = c56 1 by rw [ec65, va_up_ne _ _ (by omega)]), h57]
  have h67 : c65 2 = .inl (kc 0, 360, .inl (fun _ => 0)) := by rw [(show c65 2 = c56 2 by rw [ec65, va_up_ne _ _ (by omega)]), h58]
  have h68 : c65 3 = .inl (kc 0, 90, .inl (fun _ => 0)) := by rw [(show c65 3 = c56 3 by rw [ec65, va_up_ne _ _ (by omega)]), h59]
  have h69 : c65 4 = .inl (kc 0, 90, .inl (fun _ => 0)) := by rw [(show c65 4 = c56 4 by rw [ec65, va_up_ne _ _ (by omega)]), h60]
  have h70 : c65 5 = .inl (kc 1, 60, .inl (fun _ => 0)) := by rw [(show c65 5 = c56 5 by rw [ec65, va_up_ne _ _ (by omega)]), h61]
  have h71 : c65 6 = .inl (kc 0, 3, .inl (fun _ => 0)) := by rw [(show c65 6 = c56 6 by rw [ec65, va_up_ne _ _ (by omega)]), h63]
  have h72 : c65 0 = .inr (7, [.ref (a56 1), .ref (a56 2), .ref (a56 3), .ref (a56 4), .int 0, .ref (a56 5), .int 0, .int 0, .int 0, .ref (a56 6), .null, .null]) := by rw [ec65]; exact va_up_self _ _ _
  refine g_aload_n C 0 rfl dX7_init_52 ?_
  refine g_bipush C 40 (by decide) dX7_init_53 ?_
  refine g_newa C 0 rfl rfl w778274299 (40, .inl (fun _ => 0)) (fun _ => rfl) (by decide) (by decide) (by decide) (Nat.le_of_ble_eq_true rfl) (Nat.le_of_ble_eq_true rfl) dX7_init_55 (8) (by omega) (fun a73 hg73 C => ?_)
  refine g_cell (fun c73 ec73 => ?_)
  have hc73 : ∀ j : Nat, j < 7 → c73 j = c65 j := fun j hj => by rw [ec73, va_up_ne _ _ (by omega)]
  have h74 : c73 1 = .inl (kc 0, 90, .inl (fun _ => 0)) := by rw [hc73 1 (by omega), h66]
  have h75 : c73 2 = .inl (kc 0, 360, .inl (fun _ => 0)) := by rw [hc73 2 (by omega), h67]
  have h76 : c73 3 = .inl (kc 0, 90, .inl (fun _ => 0)) := by rw [hc73 3 (by omega), h68]
  have h77 : c73 4 = .inl (kc 0, 90, .inl (fun _ => 0)) := by rw [hc73 4 (by omega), h69]
  have h78 : c73 5 = .inl (kc 1, 60, .inl (fun _ => 0)) := by rw [hc73 5 (by omega), h70]
  have h79 : c73 6 = .inl (kc 0, 3, .inl (fun _ => 0)) := by rw [hc73 6 (by omega), h71]
  have h80 : c73 0 = .inr (7, [.ref (a73 1), .ref (a73 2), .ref (a73 3), .ref (a73 4), .int 0, .ref (a73 5), .int 0, .int 0, .int 0, .ref (a73 6), .null, .null]) := by rw [hc73 0 (by omega), h72, hg73 1 (by omega), hg73 2 (by omega), hg73 3 (by omega), hg73 4 (by omega), hg73 5 (by omega), hg73 6 (by omega)]
  have h81 : c73 7 = .inl (kc 0, 40, .inl (fun _ => 0)) := by rw [ec73]; exact va_up_self _ _ _
  have ag82 : ∀ j : Nat, j < 1 → a73 j = adr j := fun j hj => (hg73 j (by omega)).trans (ag64 j hj)
  refine g_eqlv (lv1 := [(0, .ref (a73 0))]) (by rw [hg73 0 (by omega)]) ?_
  refine g_eqst (st1 := ([.ref (a73 7), .ref (a73 0)] : List Value)) (by rw [hg73 0 (by omega)]) ?_
  refine g_putF C 0 7 10 (by omega) h80 rfl in7 tyX7 tyX7_ok nmX7 (by decide) f29 (fun _ h9 => h9) rfl hnm rfl (tyX7_ok 10 (by decide)) rfl rfl (Nat.le_of_ble_eq_true rfl) dX7_init_57 ?_
  refine g_cell (fun c83 ec83 => ?_)
  have h84 : c83 1 = .inl (kc 0, 90, .inl (fun _ => 0)) := by rw [(show c83 1 = c73 1 by rw [ec83, va_up_ne _ _ (by omega)]), h74]
  have h85 : c83 2 = .inl (kc 0, 360, .inl (fun _ => 0)) := by rw [(show c83 2 = c73 2 by rw [ec83, va_up_ne _ _ (by omega)]), h75]
  have h86 : c83 3 = .inl (kc 0, 90, .inl (fun _ => 0)) := by rw [(show c83 3 = c73 3 by rw [ec83, va_up_ne _ _ (by omega)]), h76]
  have h87 : c83 4 = .inl (kc 0, 90, .inl (fun _ => 0)) := by rw [(show c83 4 = c73 4 by rw [ec83, va_up_ne _ _ (by omega)]), h77]
  have h88 : c83 5 = .inl (kc 1, 60, .inl (fun _ => 0)) := by rw [(show c83 5 = c73 5 by rw [ec83, va_up_ne _ _ (by omega)]), h78]
  have h89 : c83 6 = .inl (kc 0, 3, .inl (fun _ => 0)) := by rw [(show c83 6 = c73 6 by rw [ec83, va_up_ne _ _ (by omega)]), h79]
  have h90 : c83 7 = .inl (kc 0, 40, .inl (fun _ => 0)) := by rw [(show c83 7 = c73 7 by rw [ec83, va_up_ne _ _ (by omega)]), h81]
  have h91 : c83 0 = .inr (7, [.ref (a73 1), .ref (a73 2), .ref (a73 3), .ref (a73 4), .int 0, .ref (a73 5), .int 0, .int 0, .int 0, .ref (a73 6), .ref (a73 7), .null]) := by rw [ec83]; exact va_up_self _ _ _
  refine g_aload_n C 0 rfl dX7_init_60 ?_
  refine g_bipush C 6 (by decide) dX7_init_61 ?_
  refine g_newa C 0 rfl rfl w778274299 (6, .inl (fun _ => 0)) (fun _ => rfl) (by decide) (by decide) (by decide) (Nat.le_of_ble_eq_true rfl) (Nat.le_of_ble_eq_true rfl) dX7_init_63 (9) (by omega) (fun a92 hg92 C => ?_)
  refine g_cell (fun c92 ec92 => ?_)
  have hc92 : ∀ j : Nat, j < 8 → c92 j = c83 j := fun j hj => by rw [ec92, va_up_ne _ _ (by omega)]
  have h93 : c92 1 = .inl (kc 0, 90, .inl (fun _ => 0)) := by rw [hc92 1 (by omega), h84]
  have h94 : c92 2 = .inl (kc 0, 360, .inl (fun _ => 0)) := by rw [hc92 2 (by omega), h85]
  have h95 : c92 3 = .inl (kc 0, 90, .inl (fun _ => 0)) := by rw [hc92 3 (by omega), h86]
  have h96 : c92 4 = .inl (kc 0, 90, .inl (fun _ => 0)) := by rw [hc92 4 (by omega), h87]
  have h97 : c92 5 = .inl (kc 1, 60, .inl (fun _ => 0)) := by rw [hc92 5 (by omega), h88]
  have h98 : c92 6 = .inl (kc 0, 3, .inl (fun _ => 0)) := by rw [hc92 6 (by omega), h89]
  have h99 : c92 7 = .inl (kc 0, 40, .inl (fun _ => 0)) := by rw [hc92 7 (by omega), h90]
  have h100 : c92 0 = .inr (7, [.ref (a92 1), .ref (a92 2), .ref (a92 3), .ref (a92 4), .int 0, .ref (a92 5), .int 0, .int 0, .int 0, .ref (a92 6), .ref (a92 7), .null]) := by rw [hc92 0 (by omega), h91, hg92 1 (by omega), hg92 2 (by omega), hg92 3 (by omega), hg92 4 (by omega), hg92 5 (by omega), hg92 6 (by omega), hg92 7 (by omega)]
  have h101 : c92 8 = .inl (kc 0, 6, .inl (fun _ => 0)) := by rw [ec92]; exact va_up_self _ _ _
  have ag102 : ∀ j : Nat, j < 1 → a92 j = adr j := fun j hj => (hg92 j (by omega)).trans (ag82 j hj)
  refine g_eqlv (lv1 := [(0, .ref (a92 0))]) (by rw [hg92 0 (by omega)]) ?_
  refine g_eqst (st1 := ([.ref (a92 8), .ref (a92 0)] : List Value)) (by rw [hg92 0 (by omega)]) ?_
  refine g_putF C 0 7 11 (by omega) h100 rfl in7 tyX7 tyX7_ok nmX7 (by decide) f32 (fun _ h9 => h9) rfl hnm rfl (tyX7_ok 11 (by decide)) rfl rfl (Nat.le_of_ble_eq_true rfl) dX7_init_65 ?_
  refine g_cell (fun c103 ec103 => ?_)
  have h104 : c103 1 = .inl (kc 0, 90, .inl (fun _ => 0)) := by rw [(show c103 1 = c92 1 by rw [ec103, va_up_ne _ _ (by omega)]), h93]
  have h105 : c103 2 = .inl (kc 0, 360, .inl (fun _ => 0)) := by rw [(show c103 2 = c92 2 by rw [ec103, va_up_ne _ _ (by omega)]), h94]
  have h106 : c103 3 = .inl (kc 0, 90, .inl (fun _ => 0)) := by rw [(show c103 3 = c92 3 by rw [ec103, va_up_ne _ _ (by omega)]), h95]
  have h107 : c103 4 = .inl (kc 0, 90, .inl (fun _ => 0)) := by rw [(show c103 4 = c92 4 by rw [ec103, va_up_ne _ _ (by omega)]), h96]
  have h108 : c103 5 = .inl (kc 1, 60, .inl (fun _ => 0)) := by rw [(show c103 5 = c92 5 by rw [ec103, va_up_ne _ _ (by omega)]), h97]
  have h109 : c103 6 = .inl (kc 0, 3, .inl (fun _ => 0)) := by rw [(show c103 6 = c92 6 by rw [ec103, va_up_ne _ _ (by omega)]), h98]
  have h110 : c103 7 = .inl (kc 0, 40, .inl (fun _ => 0)) := by rw [(show c103 7 = c92 7 by rw [ec103, va_up_ne _ _ (by omega)]), h99]
  have h111 : c103 8 = .inl (kc 0, 6, .inl (fun _ => 0)) := by rw [(show c103 8 = c92 8 by rw [ec103, va_up_ne _ _ (by omega)]), h101]
  have h112 : c103 0 = .inr (7, [.ref (a92 1), .ref (a92 2), .ref (a92 3), .ref (a92 4), .int 0, .ref (a92 5), .int 0, .int 0, .int 0, .ref (a92 6), .ref (a92 7), .ref (a92 8)]) := by rw [ec103]; exact va_up_self _ _ _
  refine g_aload_n C 0 rfl dX7_init_68 ?_
  refine g_get C 0 7 0 (by omega) h112 rfl in7 (by decide) f7 (fun _ h9 => h9) rfl dX7_init_69 ?_
  refine g_iconst C 3 (by decide) dX7_init_72 ?_
  refine g_bipush C 6 (by decide) dX7_init_73 ?_
  refine g_iast C 1 (by omega) h104 (by unfold vp_in; decide +kernel) dX7_init_75 ?_
  refine g_cell (fun c113 ec113 => ?_)
  have h114 : c113 2 = .inl (kc 0, 360, .inl (fun _ => 0)) := by rw [(show c113 2 = c103 2 by rw [ec113, va_up_ne _ _ (by omega)]), h105]
  have h115 : c113 3 = .inl (kc 0, 90, .inl (fun _ => 0)) := by rw [(show c113 3 = c103 3 by rw [ec113, va_up_ne _ _ (by omega)]), h106]
  have h116 : c113 4 = .inl (kc 0, 90, .inl (fun _ => 0)) := by rw [(show c113 4 = c103 4 by rw [ec113, va_up_ne _ _ (by omega)]), h107]
  have h117 : c113 5 = .inl (kc 1, 60, .inl (fun _ => 0)) := by rw [(show c113 5 = c103 5 by rw [ec113, va_up_ne _ _ (by omega)]), h108]
  have h118 : c113 6 = .inl (kc 0, 3, .inl (fun _ => 0)) := by rw [(show c113 6 = c103 6 by rw [ec113, va_up_ne _ _ (by omega)]), h109]
  have h119 : c113 7 = .inl (kc 0, 40, .inl (fun _ => 0)) := by rw [(show c113 7 = c103 7 by rw [ec113, va_up_ne _ _ (by omega)]), h110]
  have h120 : c113 8 = .inl (kc 0, 6, .inl (fun _ => 0)) := by rw [(show c113 8 = c103 8 by rw [ec113, va_up_ne _ _ (by omega)]), h111]
  have h121 : c113 0 = .inr (7, [.ref (a92 1), .ref (a92 2), .ref (a92 3), .ref (a92 4), .int 0, .ref (a92 5), .int 0, .int 0, .int 0, .ref (a92 6), .ref (a92 7), .ref (a92 8)]) := by rw [(show c113 0 = c103 0 by rw [ec113, va_up_ne _ _ (by omega)]), h112]
  have h122 : c113 1 = .inl (kc 0, 90, .inl (upd (fun _ => 0) (3 : Int32).toNatClampNeg 6)) := by rw [ec113]; exact va_up_self _ _ _
  refine g_aload_n C 0 rfl dX7_init_76 ?_
  refine g_get C 0 7 0 (by omega) h121 rfl in7 (by decide) f7 (fun _ h9 => h9) rfl dX7_init_77 ?_
  refine g_iconst C 4 (by decide) dX7_init_80 ?_
  refine g_iconst C 3 (by decide) dX7_init_81 ?_
  refine g_iast C 1 (by omega) h122 (by unfold vp_in; decide +kernel) dX7_init_82 ?_
  refine g_cell (fun c123 ec123 => ?_)
  have h124 : c123 2 = .inl (kc 0, 360, .inl (fun _ => 0)) := by rw [(show c123 2 = c113 2 by rw [ec123, va_up_ne _ _ (by omega)]), h114]
  have h125 : c123 3 = .inl (kc 0, 90, .inl (fun _ => 0)) := by rw [(show c123 3 = c113 3 by rw [ec123, va_up_ne _ _ (by omega)]), h115]
  have h126 : c123 4 = .inl (kc 0, 90, .inl (fun _ => 0)) := by rw [(show c123 4 = c113 4 by rw [ec123, va_up_ne _ _ (by omega)]), h116]
  have h127 : c123 5 = .inl (kc 1, 60, .inl (fun _ => 0)) := by rw [(show c123 5 = c113 5 by rw [ec123, va_up_ne _ _ (by omega)]), h117]
  have h128 : c123 6 = .inl (kc 0, 3, .inl (fun _ => 0)) := by rw [(show c123 6 = c113 6 by rw [ec123, va_up_ne _ _ (by omega)]), h118]
  have h129 : c123 7 = .inl (kc 0, 40, .inl (fun _ => 0)) := by rw [(show c123 7 = c113 7 by rw [ec123, va_up_ne _ _ (by omega)]), h119]
  have h130 : c123 8 = .inl (kc 0, 6, .inl (fun _ => 0)) := by rw [(show c123 8 = c113 8 by rw [ec123, va_up_ne _ _ (by omega)]), h120]
  have h131 : c123 0 = .inr (7, [.ref (a92 1), .ref (a92 2), .ref (a92 3), .ref (a92 4), .int 0, .ref (a92 5), .int 0, .int 0, .int 0, .ref (a92 6), .ref (a92 7), .ref (a92 8)]) := by rw [(show c123 0 = c113 0 by rw [ec123, va_up_ne _ _ (by omega)]), h121]
  have h132 : c123 1 = .inl (kc 0, 90, .inl (upd (upd (fun _ => 0) (3 : Int32).toNatClampNeg 6) (4 : Int32).toNatClampNeg 3)) := by rw [ec123]; exact va_up_self _ _ _
  refine g_aload_n C 0 rfl dX7_init_83 ?_
  refine g_get C 0 7 0 (by omega) h131 rfl in7 (by decide) f7 (fun _ h9 => h9) rfl dX7_init_84 ?_
  refine g_iconst C 5 (by decide) dX7_init_87 ?_
  refine g_iconst C 1 (by decide) dX7_init_88 ?_
  refine g_iast C 1 (by omega) h132 (by unfold vp_in; decide +kernel) dX7_init_89 ?_
  refine g_cell (fun c133 ec133 => ?_)
  have h134 : c133 2 = .inl (kc 0, 360, .inl (fun _ => 0)) := by rw [(show c133 2 = c123 2 by rw [ec133, va_up_ne _ _ (by omega)]), h124]
  have h135 : c133 3 = .inl (kc 0, 90, .inl (fun _ => 0)) := by rw [(show c133 3 = c123 3 by rw [ec133, va_up_ne _ _ (by omega)]), h125]
  have h136 : c133 4 = .inl (kc 0, 90, .inl (fun _ => 0)) := by rw [(show c133 4 = c123 4 by rw [ec133, va_up_ne _ _ (by omega)]), h126]
  have h137 : c133 5 = .inl (kc 1, 60, .inl (fun _ => 0)) := by rw [(show c133 5 = c123 5 by rw [ec133, va_up_ne _ _ (by omega)]), h127]
  have h138 : c133 6 = .inl (kc 0, 3, .inl (fun _ => 0)) := by rw [(show c133 6 = c123 6 by rw [ec133, va_up_ne _ _ (by omega)]), h128]
  have h139 : c133 7 = .inl (kc 0, 40, .inl (fun _ => 0)) := by rw [(show c133 7 = c123 7 by rw [ec133, va_up_ne _ _ (by omega)]), h129]
  have h140 : c133 8 = .inl (kc 0, 6, .inl (fun _ => 0)) := by rw [(show c133 8 = c123 8 by rw [ec133, va_up_ne _ _ (by omega)]), h130]
  have h141 : c133 0 = .inr (7, [.ref (a92 1), .ref (a92 2), .ref (a92 3), .ref (a92 4), .int 0, .ref (a92 5), .int 0, .int 0, .int 0, .ref (a92 6), .ref (a92 7), .ref (a92 8)]) := by rw [(show c133 0 = c123 0 by rw [ec133, va_up_ne _ _ (by omega)]), h131]
  have h142 : c133 1 = .inl (kc 0, 90, .inl (upd (upd (upd (fun _ => 0) (3 : Int32).toNatClampNeg 6) (4 : Int32).toNatClampNeg 3) (5 : Int32).toNatClampNeg 1)) := by rw [ec133]; exact va_up_self _ _ _
  refine g_aload_n C 0 rfl dX7_init_90 ?_
  refine g_get C 0 7 0 (by omega) h141 rfl in7 (by decide) f7 (fun _ h9 => h9) rfl dX7_init_91 ?_
  refine g_bipush C 6 (by decide) dX7_init_94 ?_
  refine g_iconst C 5 (by decide) dX7_init_96 ?_
  refine g_iast C 1 (by omega) h142 (by unfold vp_in; decide +kernel) dX7_init_97 ?_
  refine g_cell (fun c143 ec143 => ?_)
  have h144 : c143 2 = .inl (kc 0, 360, .inl (fun _ => 0)) := by rw [(show c143 2 = c133 2 by rw [ec143, va_up_ne _ _ (by omega)]), h134]
  have h145 : c143 3 = .inl (kc 0, 90, .inl (fun _ => 0)) := by rw [(show c143 3 = c133 3 by rw [ec143, va_up_ne _ _ (by omega)]), h135]
  have h146 : c143 4 = .inl (kc 0, 90, .inl (fun _ => 0)) := by rw [(show c143 4 = c133 4 by rw [ec143, va_up_ne _ _ (by omega)]), h136]
  have h147 : c143 5 = .inl (kc 1, 60, .inl (fun _ => 0)) := by rw [(show c143 5 = c133 5 by rw [ec143, va_up_ne _ _ (by omega)]), h137]
  have h148 : c143 6 = .inl (kc 0, 3, .inl (fun _ => 0)) := by rw [(show c143 6 = c133 6 by rw [ec143, va_up_ne _ _ (by omega)]), h138]
  have h149 : c143 7 = .inl (kc 0, 40, .inl (fun _ => 0)) := by rw [(show c143 7 = c133 7 by rw [ec143, va_up_ne _ _ (by omega)]), h139]
  have h150 : c143 8 = .inl (kc 0, 6, .inl (fun _ => 0)) := by rw [(show c143 8 = c133 8 by rw [ec143, va_up_ne _ _ (by omega)]), h140]
  have h151 : c143 0 = .inr (7, [.ref (a92 1), .ref (a92 2), .ref (a92 3), .ref (a92 4), .int 0, .ref (a92 5), .int 0, .int 0, .int 0, .ref (a92 6), .ref (a92 7), .ref (a92 8)]) := by rw [(show c143 0 = c133 0 by rw [ec143, va_up_ne _ _ (by omega)]), h141]
  have h152 : c143 1 = .inl (kc 0, 90, .inl (upd (upd (upd (upd (fun _ => 0) (3 : Int32).toNatClampNeg 6) (4 : Int32).toNatClampNeg 3) (5 : Int32).toNatClampNeg 1) (6 : Int32).toNatClampNeg 5)) := by rw [ec143]; exact va_up_self _ _ _
  refine g_aload_n C 0 rfl dX7_init_98 ?_
  refine g_get C 0 7 0 (by omega) h151 rfl in7 (by decide) f7 (fun _ h9 => h9) rfl dX7_init_99 ?_
  refine g_bipush C 7 (by decide) dX7_init_102 ?_
  refine g_iconst C 2 (by decide) dX7_init_104 ?_
  refine g_iast C 1 (by omega) h152 (by unfold vp_in; decide +kernel) dX7_init_105 ?_
  refine g_cell (fun c153 ec153 => ?_)
  have h154 : c153 2 = .inl (kc 0, 360, .inl (fun _ => 0)) := by rw [(show c153 2 = c143 2 by rw [ec153, va_up_ne _ _ (by omega)]), h144]
  have h155 : c153 3 = .inl (kc 0, 90, .inl (fun _ => 0)) := by rw [(show c153 3 = c143 3 by rw [ec153, va_up_ne _ _ (by omega)]), h145]
  have h156 : c153 4 = .inl (kc 0, 90, .inl (fun _ => 0)) := by rw [(show c153 4 = c143 4 by rw [ec153, va_up_ne _ _ (by omega)]), h146]
  have h157 : c153 5 = .inl (kc 1, 60, .inl (fun _ => 0)) := by rw [(show c153 5 = c143 5 by rw [ec153, va_up_ne _ _ (by omega)]), h147]
  have h158 : c153 6 = .inl (kc 0, 3, .inl (fun _ => 0)) := by rw [(show c153 6 = c143 6 by rw [ec153, va_up_ne _ _ (by omega)]), h148]
  have h159 : c153 7 = .inl (kc 0, 40, .inl (fun _ => 0)) := by rw [(show c153 7 = c143 7 by rw [ec153, va_up_ne _ _ (by omega)]), h149]
  have h160 : c153 8 = .inl (kc 0, 6, .inl (fun _ => 0)) := by rw [(show c153 8 = c143 8 by rw [ec153, va_up_ne _ _ (by omega)]), h150]
  have h161 : c153 0 = .inr (7, [.ref (a92 1), .ref (a92 2), .ref (a92 3), .ref (a92 4), .int 0, .ref (a92 5), .int 0, .int 0, .int 0, .ref (a92 6), .ref (a92 7), .ref (a92 8)]) := by rw [(show c153 0 = c143 0 by rw [ec153, va_up_ne _ _ (by omega)]), h151]
  have h162 : c153 1 = .inl (kc 0, 90, .inl (upd (upd (upd (upd (upd (fun _ => 0) (3 : Int32).toNatClampNeg 6) (4 : Int32).toNatClampNeg 3) (5 : Int32).toNatClampNeg 1) (6 : Int32).toNatClampNeg 5) (7 : Int32).toNatClampNeg 2)) := by rw [ec153]; exact va_up_self _ _ _
  refine g_kret (by omega) C hr hlk dX7_init_106 ag102 ?_
  exact ⟨m00, _, _, _, _, 0, 0, _, _, _, ⟨h161, h162, h154, h155, h156, h157, h158, h159, h160⟩, ms00, fun i hi => absurd hi (Nat.not_lt_zero i), fun j hj => absurd hj (Nat.not_lt_zero j), by omega, by omega⟩
